/-- how many words begin among the first i signs; how wide word k is by then -/
def wc (tx : Nat → Nat) : Nat → Nat
  | 0 => 0
  | i + 1 => wc tx i + (if tx i ≠ 0 ∧ (i = 0 ∨ tx (i - 1) = 0) then 1 else 0)
def wx (tx w : Nat → Nat) : Nat → Nat → Nat
  | 0, _ => 0
  | i + 1, k => if tx i ≠ 0 ∧ k + 1 = wc tx (i + 1) then (if i = 0 ∨ tx (i - 1) = 0 then 0 else wx tx w i k) + w (tx i) else wx tx w i k
theorem wc_b (tx : Nat → Nat) : ∀ i, 2 * wc tx i ≤ i + 1 ∧ ((i = 0 ∨ tx (i - 1) = 0) → 2 * wc tx i ≤ i) ∧ (i ≠ 0 → tx (i - 1) ≠ 0 → 1 ≤ wc tx i)
  | 0 => by simp [wc]
  | i + 1 => by
    obtain ⟨h1, h2, h3⟩ := wc_b tx i
    simp only [wc, Nat.add_sub_cancel]
    by_cases h0 : tx i = 0
    · rw [if_neg (fun q => q.1 h0)]
      exact ⟨by omega, fun _ => by omega, fun _ h => absurd h0 h⟩
    · by_cases hp : i = 0 ∨ tx (i - 1) = 0
      · rw [if_pos ⟨h0, hp⟩]
        have := h2 hp
        exact ⟨by omega, fun q => absurd q (by simp [h0]), fun _ _ => by omega⟩
      · rw [if_neg (fun q => hp q.2)]
        refine ⟨by omega, fun q => absurd q (by simp [h0]), fun _ _ => ?_⟩
        have := h3 (fun e => hp (Or.inl e)) (fun e => hp (Or.inr e))
        omega
theorem wx_b (tx w : Nat → Nat) (hw : ∀ k, k ≤ 26 → w k ≤ 20) (hx : ∀ i, tx i ≤ 26) : ∀ i k, wx tx w i k ≤ 20 * i
  | 0, _ => Nat.le_refl _
  | i + 1, k => by
    have h1 := wx_b tx w hw hx i k
    have h2 := hw (tx i) (hx i)
    simp only [wx]
    split
    · split <;> omega
    · omega
def iw (kc kw sl : Nat) (tx w : Nat → Nat) (mi m : MI) (i : Nat) : Prop := (∀ a c, a ≠ kw → ¬ (a = kc ∧ c = sl) → m a c = mi a c) ∧ m kc sl = nI (wc tx i) ∧ ∀ k, k < wc tx i → m kw k = nI (wx tx w i k)
theorem iw_0 {kc kw sl : Nat} {tx w : Nat → Nat} {mi : MI} (h : kw ≠ kc) : iw kc kw sl tx w mi (up_2 mi kc sl 0) 0 := by
  refine ⟨fun a c h1 h2 => ?_, up_at, fun k hk => absurd hk (Nat.not_lt_zero k)⟩
  simp only [up_2]
  rw [if_neg h2]
theorem iw_gap {kc kw sl : Nat} {tx w : Nat → Nat} {mi m : MI} {i : Nat} (h0 : tx i = 0) (h : iw kc kw sl tx w mi m i) : iw kc kw sl tx w mi m (i + 1) := by
  have e : wc tx (i + 1) = wc tx i := by simp [wc, h0]
  refine ⟨h.1, by rw [e]; exact h.2.1, fun k hk => ?_⟩
  rw [e] at hk
  rw [h.2.2 k hk]
  simp [wx, h0]
theorem iw_new {kc kw sl : Nat} {tx w : Nat → Nat} {mi m : MI} {i : Nat} {x y z : Int32} (hkk : kw ≠ kc) (h0 : tx i ≠ 0) (hp : i = 0 ∨ tx (i - 1) = 0) (hx : x = nI (wc tx i + 1)) (hy : y = nI (w (tx i))) (h : iw kc kw sl tx w mi m i) : iw kc kw sl tx w mi (up_2 (up_2 (up_2 m kw (wc tx i) z) kc sl x) kw (wc tx i) y) (i + 1) := by
  have e : wc tx (i + 1) = wc tx i + 1 := by simp [wc, h0, hp]
  refine ⟨fun a c h1 h2 => ?_, ?_, fun k hk => ?_⟩
  · rw [up_ne (Or.inl h1)]
    rw [show up_2 (up_2 m kw (wc tx i) z) kc sl x a c = up_2 m kw (wc tx i) z a c by simp only [up_2]; rw [if_neg h2]]
    rw [up_ne (Or.inl h1)]
    exact h.1 a c h1 h2
  · rw [up_ne (Or.inl (Ne.symm hkk)), up_at, hx, e]
  · rw [e] at hk
    by_cases hc : k = wc tx i
    · subst hc
      rw [up_at, hy]
      simp [wx, h0, hp, e]
    · rw [up_ne (Or.inr hc), up_ne (Or.inl hkk), up_ne (Or.inr hc), h.2.2 k (by omega)]
      simp only [wx]
      rw [if_neg (by rw [e]; omega)]
theorem iw_con {kc kw sl : Nat} {tx w : Nat → Nat} {mi m : MI} {i : Nat} {y : Int32} (hkk : kw ≠ kc) (h0 : tx i ≠ 0) (hp : ¬ (i = 0 ∨ tx (i - 1) = 0)) (hy : y = nI (wx tx w i (wc tx i - 1)) + nI (w (tx i))) (h : iw kc kw sl tx w mi m i) : iw kc kw sl tx w mi (up_2 m kw (wc tx i - 1) y) (i + 1) := by
  have e : wc tx (i + 1) = wc tx i := by simp [wc, hp]
  have h1 := (wc_b tx i).2.2 (fun q => hp (Or.inl q)) (fun q => hp (Or.inr q))
  refine ⟨fun a c h1 h2 => ?_, ?_, fun k hk => ?_⟩
  · rw [up_ne (Or.inl h1)]
    exact h.1 a c h1 h2
  · rw [up_ne (Or.inl (Ne.symm hkk)), e]
    exact h.2.1
  · rw [e] at hk
    by_cases hc : k = wc tx i - 1
    · subst hc
      rw [up_at, hy, nI_add]
      simp only [wx]
      rw [if_pos ⟨h0, by omega⟩, if_neg hp]
    · rw [up_ne (Or.inr hc), h.2.2 k hk]
      simp only [wx]
      rw [if_neg (by omega)]
theorem n_1 : (1 : Int32) = nI 1 := rfl
set_option maxRecDepth 100000 in
set_option maxHeartbeats 4000000 in
theorem lp_X4_readWords {sh : SH} {mi : MI} {mr : MR} (hB : ba_c sh mr) (n : Nat) (hn : mi 12 3 = nI n) (hn40 : n ≤ 40) (tx : Nat → Nat) (htx : ∀ i, i < n → mi 16 i = nI (tx i) ∧ tx i ≤ 26) (w : Nat → Nat) (hw : ∀ k, k ≤ 26 → mi 13 k = nI (w k)) : ∀ i, i ≤ n → ∀ m, iw 12 18 11 tx w mi m i → EV none 0 0 0 mX4_readWords 9 [some (pv_r 12), some (pv_i (bi (0 < i ∧ tx (i - 1) ≠ 0))), some (pv_i (nI i)), none] [] sh m mr (fun v_ sh_ mi_ mr_ => v_ = some (pv_i (nI (wc tx n))) ∧ sh_ = sh ∧ mr_ = mr ∧ iw 12 18 11 tx w mi mi_ n) := by
  refine lp_i n (fun i hi ih => ?_)
  intro m hI
  refine ev_iload_n dX4_readWords_9 rfl ?_
  refine ev_aload_n dX4_readWords_10 rfl ?_
  refine ev_geti dX4_readWords_11 fl_X4_21 rfl (hB.1 12 _ rfl) ?_
  refine ev_icmp_ge (tgt := 108) dX4_readWords_14 rfl (fun h14 => ?_) (fun h14 => ?_)
  · have hin : i = n := by have := (nl_le ((hI.1 12 3 (by decide) (by decide)).trans hn) rfl (by omega) (by omega)).mp h14; omega
    subst hin
    refine ev_aload_n dX4_readWords_108 rfl ?_
    refine ev_geti dX4_readWords_109 fl_X4_46 rfl (hB.1 12 _ rfl) ?_
    exact ev_ireturn (ty := .int) dX4_readWords_112 rfl rfl ⟨by rw [hI.2.1], rfl, rfl, hI⟩
  · have hlt : i < n := by have := (not_congr (nl_le ((hI.1 12 3 (by decide) (by decide)).trans hn) rfl (by omega) (by omega))).mp h14; omega
    have hs : m 16 i = nI (tx i) := (hI.1 16 i (by decide) (by omega)).trans (htx i hlt).1
    have hs2 := (htx i hlt).2
    have hwi : m 13 (tx i) = nI (w (tx i)) := (hI.1 13 (tx i) (by decide) (by omega)).trans (hw _ hs2)
    have hb := wc_b tx i
    refine ev_aload_n dX4_readWords_17 rfl ?_
    refine ev_getq dX4_readWords_18 fl_X4_31 rfl (hB.1 12 _ rfl) (hB.2 12 6 _ rfl) ?_
    refine ev_iload_n dX4_readWords_21 rfl ?_
    refine ev_iald dX4_readWords_22 (hB.1 16 _ rfl) (j := i) rfl (by omega) (by decide) ?_
    refine ev_istore_n dX4_readWords_23 (by decide) ?_
    refine ev_iload_n dX4_readWords_24 rfl ?_
    refine ev_if_eq (tgt := 61) dX4_readWords_25 rfl (fun h25 => ?_) (fun h25 => ?_)
    · have h0 : tx i = 0 := by rw [hs] at h25; exact (nI_eq (b := 0) (by omega) (by decide)).mp h25
      refine ev_iload_n dX4_readWords_61 rfl ?_
      refine ev_if_eq_t (tgt := 69) dX4_readWords_62 rfl h25 ?_
      refine ev_iconst (v := 0) dX4_readWords_69 rfl ?_
      refine ev_istore_n dX4_readWords_70 (by decide) ?_
      refine ev_iload_n dX4_readWords_71 rfl ?_
      refine ev_if_eq_t (tgt := 102) dX4_readWords_72 rfl (by decide) ?_
      refine ev_iincN dX4_readWords_102 rfl (by decide) ?_
      refine ev_goto (tgt := 9) dX4_readWords_105 rfl ?_
      rw [show bi (0 < i + 1 ∧ tx (i + 1 - 1) ≠ 0) = _ from bi_f (by simp [h0])] at ih
      exact ev_fg 3 (ih hlt m (iw_gap h0 hI))
    · have h0 : tx i ≠ 0 := by rw [hs] at h25; exact fun e => h25 (by rw [e]; rfl)
      refine ev_iload_n dX4_readWords_28 rfl ?_
      refine ev_ifb_ne (tgt := 61) dX4_readWords_29 rfl (fun h29 => ?_) (fun h29 => ?_)
      · have hc := hb.2.2 (by omega) h29.2
        refine ev_iload_n dX4_readWords_61 rfl ?_
        refine ev_if_eq_f (tgt := 69) dX4_readWords_62 rfl h25 ?_
        refine ev_iconst (v := 1) dX4_readWords_65 rfl ?_
        refine ev_goto (tgt := 70) dX4_readWords_66 rfl ?_
        refine ev_istore_n dX4_readWords_70 (by decide) ?_
        refine ev_iload_n dX4_readWords_71 rfl ?_
        refine ev_if_eq_f (tgt := 102) dX4_readWords_72 rfl (by decide) ?_
        refine ev_aload_n dX4_readWords_75 rfl ?_
        refine ev_geti dX4_readWords_76 fl_X4_46 rfl (hB.1 12 _ rfl) ?_
        refine ev_if_le_f (tgt := 102) dX4_readWords_79 rfl (by rw [hI.2.1]; exact nI_nle (by omega) (by omega)) ?_
        refine ev_aload_n dX4_readWords_82 rfl ?_
        refine ev_getq dX4_readWords_83 fl_X4_37 rfl (hB.1 12 _ rfl) (hB.2 12 8 _ rfl) ?_
        refine ev_aload_n dX4_readWords_86 rfl ?_
        refine ev_geti dX4_readWords_87 fl_X4_46 rfl (hB.1 12 _ rfl) ?_
        refine ev_iconst (v := 1) dX4_readWords_90 rfl ?_
        refine ev_isub dX4_readWords_91 ?_
        refine ev_dup2 dX4_readWords_92 ?_
        refine ev_iald dX4_readWords_93 (hB.1 18 _ rfl) (j := wc tx i - 1) (by rw [hI.2.1, n_1, pk_sub (by omega)]) (by omega) (by decide) ?_
        refine ev_aload_n dX4_readWords_94 rfl ?_
        refine ev_getq dX4_readWords_95 fl_X4_9 rfl (hB.1 12 _ rfl) (hB.2 12 0 _ rfl) ?_
        refine ev_iload_n dX4_readWords_98 rfl ?_
        refine ev_iald dX4_readWords_99 (hB.1 13 _ rfl) (j := tx i) hs (by omega) (by decide) ?_
        refine ev_iadd dX4_readWords_100 ?_
        refine ev_iast dX4_readWords_101 (hB.1 18 _ rfl) (j := wc tx i - 1) (by rw [hI.2.1, n_1, pk_sub (by omega)]) (by omega) (by decide) ?_
        refine ev_iincN dX4_readWords_102 rfl (by decide) ?_
        refine ev_goto (tgt := 9) dX4_readWords_105 rfl ?_
        rw [show bi (0 < i + 1 ∧ tx (i + 1 - 1) ≠ 0) = _ from bi_1 ⟨by omega, h0⟩] at ih
        exact ev_fg 3 (ih hlt _ (iw_con (by decide) h0 (fun q => q.elim (by omega) h29.2) (by rw [hI.2.2 _ (by omega), hwi]) hI))
      · have hp : i = 0 ∨ tx (i - 1) = 0 := (Nat.eq_zero_or_pos i).elim Or.inl (fun e => Or.inr (Classical.byContradiction (fun e2 => h29 ⟨e, e2⟩)))
        have hc := hb.2.1 hp
        refine ev_aload_n dX4_readWords_32 rfl ?_
        refine ev_geti dX4_readWords_33 fl_X4_46 rfl (hB.1 12 _ rfl) ?_
        refine ev_bipush (v := 20) dX4_readWords_36 rfl ?_
        refine ev_icmp_ge_f (tgt := 61) dX4_readWords_38 rfl (by rw [hI.2.1]; exact fun h => absurd ((nI_leI (a := 20) (by decide) (by omega)).mp h) (by omega)) ?_
        refine ev_aload_n dX4_readWords_41 rfl ?_
        refine ev_getq dX4_readWords_42 fl_X4_37 rfl (hB.1 12 _ rfl) (hB.2 12 8 _ rfl) ?_
        refine ev_aload_n dX4_readWords_45 rfl ?_
        refine ev_geti dX4_readWords_46 fl_X4_46 rfl (hB.1 12 _ rfl) ?_
        refine ev_iconst (v := 0) dX4_readWords_49 rfl ?_
        refine ev_iast dX4_readWords_50 (hB.1 18 _ rfl) (j := wc tx i) hI.2.1 (by omega) (by decide) ?_
        refine ev_aload_n dX4_readWords_51 rfl ?_
        refine ev_dup dX4_readWords_52 ?_
        refine ev_geti dX4_readWords_53 fl_X4_46 rfl (hB.1 12 _ rfl) ?_
        refine ev_iconst (v := 1) dX4_readWords_56 rfl ?_
        refine ev_iadd dX4_readWords_57 ?_
        refine ev_puti dX4_readWords_58 fl_X4_46 rfl rfl (hB.1 12 _ rfl) ?_
        refine ev_iload_n dX4_readWords_61 rfl ?_
        refine ev_if_eq_f (tgt := 69) dX4_readWords_62 rfl h25 ?_
        refine ev_iconst (v := 1) dX4_readWords_65 rfl ?_
        refine ev_goto (tgt := 70) dX4_readWords_66 rfl ?_
        refine ev_istore_n dX4_readWords_70 (by decide) ?_
        refine ev_iload_n dX4_readWords_71 rfl ?_
        refine ev_if_eq_f (tgt := 102) dX4_readWords_72 rfl (by decide) ?_
        refine ev_aload_n dX4_readWords_75 rfl ?_
        refine ev_geti dX4_readWords_76 fl_X4_46 rfl (hB.1 12 _ rfl) ?_
        refine ev_if_le_f (tgt := 102) dX4_readWords_79 rfl (by rw [up_at, up_ne (Or.inl (by decide)), hI.2.1, nI_1]; exact nI_nle (by omega) (by omega)) ?_
        refine ev_aload_n dX4_readWords_82 rfl ?_
        refine ev_getq dX4_readWords_83 fl_X4_37 rfl (hB.1 12 _ rfl) (hB.2 12 8 _ rfl) ?_
        refine ev_aload_n dX4_readWords_86 rfl ?_
        refine ev_geti dX4_readWords_87 fl_X4_46 rfl (hB.1 12 _ rfl) ?_
        refine ev_iconst (v := 1) dX4_readWords_90 rfl ?_
        refine ev_isub dX4_readWords_91 ?_
        refine ev_dup2 dX4_readWords_92 ?_
        refine ev_iald dX4_readWords_93 (hB.1 18 _ rfl) (j := wc tx i) (by simp [up_2, hI.2.1]) (by omega) (by decide) ?_
        refine ev_aload_n dX4_readWords_94 rfl ?_
        refine ev_getq dX4_readWords_95 fl_X4_9 rfl (hB.1 12 _ rfl) (hB.2 12 0 _ rfl) ?_
        refine ev_iload_n dX4_readWords_98 rfl ?_
        refine ev_iald dX4_readWords_99 (hB.1 13 _ rfl) (j := tx i) hs (by omega) (by decide) ?_
        refine ev_iadd dX4_readWords_100 ?_
        refine ev_iast dX4_readWords_101 (hB.1 18 _ rfl) (j := wc tx i) (by simp [up_2, hI.2.1]) (by omega) (by decide) ?_
        refine ev_iincN dX4_readWords_102 rfl (by decide) ?_
        refine ev_goto (tgt := 9) dX4_readWords_105 rfl ?_
        rw [show bi (0 < i + 1 ∧ tx (i + 1 - 1) ≠ 0) = _ from bi_1 ⟨by omega, h0⟩] at ih
        exact ev_fg 3 (ih hlt _ (iw_new (by decide) h0 hp (by rw [up_ne (Or.inl (by decide)), hI.2.1, nI_1]) (by simp [up_2, hwi]) hI))
set_option maxRecDepth 100000 in
set_option maxHeartbeats 4000000 in
theorem t_X4_readWords {sh : SH} {mi : MI} {mr : MR} (hB : ba_c sh mr) (n : Nat) (hn : mi 12 3 = nI n) (hn40 : n ≤ 40) (tx : Nat → Nat) (htx : ∀ i, i < n → mi 16 i = nI (tx i) ∧ tx i ≤ 26) (w : Nat → Nat) (hw : ∀ k, k ≤ 26 → mi 13 k = nI (w k)) : EV none 0 0 0 mX4_readWords 0 (en_l mX4_readWords [pv_r 12]) [] sh mi mr (fun v_ sh_ mi_ mr_ => v_ = some (pv_i (nI (wc tx n))) ∧ sh_ = sh ∧ mr_ = mr ∧ iw 12 18 11 tx w mi mi_ n) := by
  show EV none 0 0 0 mX4_readWords 0 [some (pv_r 12), none, none, none] [] sh mi mr _
  refine ev_aload_n dX4_readWords_0 rfl ?_
  refine ev_iconst (v := 0) dX4_readWords_1 rfl ?_
  refine ev_puti dX4_readWords_2 fl_X4_46 rfl rfl (hB.1 12 _ rfl) ?_
  refine ev_iconst (v := 0) dX4_readWords_5 rfl ?_
  refine ev_istore_n dX4_readWords_6 (by decide) ?_
  refine ev_iconst (v := 0) dX4_readWords_7 rfl ?_
  refine ev_istore_n dX4_readWords_8 (by decide) ?_
  exact lp_X4_readWords hB n hn hn40 tx htx w hw 0 (Nat.zero_le n) _ (iw_0 (by decide))
set_option maxRecDepth 100000 in
set_option maxHeartbeats 4000000 in
theorem t_X5_count {sh : SH} {mi : MI} {mr : MR} (hB : ba_c sh mr) (p1 : Int32) (n : Nat) (hn : mi 12 3 = nI n) (hn40 : n ≤ 40) (tx : Nat → Nat) (htx : ∀ i, i < n → mi 16 i = nI (tx i) ∧ tx i ≤ 26) (w : Nat → Nat) (hw : ∀ k, k ≤ 26 → mi 13 k = nI (w k)) : EV none 1 0 0 mX5_count 0 (en_l mX5_count [pv_r 0, pv_i p1]) [] sh mi mr (fun v_ sh_ mi_ mr_ => sh_ = sh ∧ mr_ = mr ∧ ((p1 = 0 ∧ v_ = some (pv_i (mi 0 5)) ∧ mi_ = mi) ∨ (p1 = 1 ∧ v_ = some (pv_i (mi 0 6)) ∧ mi_ = mi) ∨ (p1 = 2 ∧ v_ = some (pv_i (mi 22 1)) ∧ mi_ = mi) ∨ (p1 = 3 ∧ v_ = some (pv_i (mi 0 7)) ∧ mi_ = mi) ∨ (p1 = 4 ∧ v_ = some (pv_i (mi 12 3)) ∧ mi_ = mi) ∨ (p1 = 5 ∧ v_ = some (pv_i (nI (wc tx n))) ∧ iw 12 18 11 tx w mi mi_ n) ∨ (p1 = 6 ∧ v_ = some (pv_i (mi 22 0)) ∧ mi_ = mi) ∨ ((¬ p1 = 0 ∧ ¬ p1 = 1 ∧ ¬ p1 = 2 ∧ ¬ p1 = 3 ∧ ¬ p1 = 4 ∧ ¬ p1 = 5 ∧ ¬ p1 = 6) ∧ v_ = some (pv_i (-3)) ∧ mi_ = mi))) := by
  show EV none 1 0 0 mX5_count 0 [some (pv_r 0), some (pv_i p1)] [] sh mi mr _
  refine ev_iload_n dX5_count_0 rfl ?_
  by_cases h1_0 : p1 = 0
  · refine ev_tableIn (tgt := 44) dX5_count_1 (by rw [h1_0]; decide) (by rw [h1_0]; decide) (by rw [h1_0] <;> rfl) rfl ?_
    refine ev_aload_n dX5_count_44 rfl ?_
    refine ev_geti dX5_count_45 fl_X5_42 rfl (hB.1 0 _ rfl) ?_
    exact ev_ireturn (ty := .int) dX5_count_48 rfl rfl ⟨rfl, rfl, Or.inl ⟨h1_0, rfl, rfl⟩⟩
  by_cases h1_1 : p1 = 1
  · refine ev_tableIn (tgt := 49) dX5_count_1 (by rw [h1_1]; decide) (by rw [h1_1]; decide) (by rw [h1_1] <;> rfl) rfl ?_
    refine ev_aload_n dX5_count_49 rfl ?_
    refine ev_geti dX5_count_50 fl_X5_46 rfl (hB.1 0 _ rfl) ?_
    exact ev_ireturn (ty := .int) dX5_count_53 rfl rfl ⟨rfl, rfl, Or.inr (Or.inl ⟨h1_1, rfl, rfl⟩)⟩
  by_cases h1_2 : p1 = 2
  · refine ev_tableIn (tgt := 54) dX5_count_1 (by rw [h1_2]; decide) (by rw [h1_2]; decide) (by rw [h1_2] <;> rfl) rfl ?_
    refine ev_aload_n dX5_count_54 rfl ?_
    refine ev_getq dX5_count_55 fl_X5_38 rfl (hB.1 0 _ rfl) (hB.2 0 4 _ rfl) ?_
    refine ev_geti dX5_count_58 fl_X5_238 rfl (hB.1 22 _ rfl) ?_
    exact ev_ireturn (ty := .int) dX5_count_61 rfl rfl ⟨rfl, rfl, Or.inr (Or.inr (Or.inl ⟨h1_2, rfl, rfl⟩))⟩
  by_cases h1_3 : p1 = 3
  · refine ev_tableIn (tgt := 62) dX5_count_1 (by rw [h1_3]; decide) (by rw [h1_3]; decide) (by rw [h1_3] <;> rfl) rfl ?_
    refine ev_aload_n dX5_count_62 rfl ?_
    refine ev_geti dX5_count_63 fl_X5_49 rfl (hB.1 0 _ rfl) ?_
    exact ev_ireturn (ty := .int) dX5_count_66 rfl rfl ⟨rfl, rfl, Or.inr (Or.inr (Or.inr (Or.inl ⟨h1_3, rfl, rfl⟩)))⟩
  by_cases h1_4 : p1 = 4
  · refine ev_tableIn (tgt := 67) dX5_count_1 (by rw [h1_4]; decide) (by rw [h1_4]; decide) (by rw [h1_4] <;> rfl) rfl ?_
    refine ev_aload_n dX5_count_67 rfl ?_
    refine ev_getq dX5_count_68 fl_X5_25 rfl (hB.1 0 _ rfl) (hB.2 0 2 _ rfl) ?_
    refine ev_geti dX5_count_71 fl_X5_165 rfl (hB.1 12 _ rfl) ?_
    exact ev_ireturn (ty := .int) dX5_count_74 rfl rfl ⟨rfl, rfl, Or.inr (Or.inr (Or.inr (Or.inr (Or.inl ⟨h1_4, rfl, rfl⟩))))⟩
  by_cases h1_5 : p1 = 5
  · refine ev_tableIn (tgt := 75) dX5_count_1 (by rw [h1_5]; decide) (by rw [h1_5]; decide) (by rw [h1_5] <;> rfl) rfl ?_
    refine ev_aload_n dX5_count_75 rfl ?_
    refine ev_getq dX5_count_76 fl_X5_25 rfl (hB.1 0 _ rfl) (hB.2 0 2 _ rfl) ?_
    refine ev_callv (av := []) dX5_count_79 cv_X5_241 (hB.1 12 _ rfl) rfl rfl (Nat.le_of_ble_eq_true rfl) (by decide) (Or.inl (fun v_ s_ m_ r_ h_ => by rw [h_.2.1])) (Nat.zero_add _) (Nat.zero_add _) (t_X4_readWords hB n hn hn40 tx htx w hw) ?_
    rintro v_ sh_ m1 mr_ ⟨e1_, e2_, e3_, hI⟩
    subst e1_
    have e2_ := e2_.symm
    subst e2_
    have e3_ := e3_.symm
    subst e3_
    exact ev_ireturn (ty := .int) dX5_count_82 rfl rfl ⟨rfl, rfl, Or.inr (Or.inr (Or.inr (Or.inr (Or.inr (Or.inl ⟨h1_5, rfl, hI⟩)))))⟩
  by_cases h1_6 : p1 = 6
  · refine ev_tableIn (tgt := 83) dX5_count_1 (by rw [h1_6]; decide) (by rw [h1_6]; decide) (by rw [h1_6] <;> rfl) rfl ?_
    refine ev_aload_n dX5_count_83 rfl ?_
    refine ev_getq dX5_count_84 fl_X5_38 rfl (hB.1 0 _ rfl) (hB.2 0 4 _ rfl) ?_
    refine ev_geti dX5_count_87 fl_X5_244 rfl (hB.1 22 _ rfl) ?_
    exact ev_ireturn (ty := .int) dX5_count_90 rfl rfl ⟨rfl, rfl, Or.inr (Or.inr (Or.inr (Or.inr (Or.inr (Or.inr (Or.inl ⟨h1_6, rfl, rfl⟩))))))⟩
  refine ev_tableOut (tgt := 91) dX5_count_1 (by have e0 := lv_neT (a := 0) h1_0 (by decide); have e1 := lv_neT (a := 1) h1_1 (by decide); have e2 := lv_neT (a := 2) h1_2 (by decide); have e3 := lv_neT (a := 3) h1_3 (by decide); have e4 := lv_neT (a := 4) h1_4 (by decide); have e5 := lv_neT (a := 5) h1_5 (by decide); have e6 := lv_neT (a := 6) h1_6 (by decide); omega) rfl ?_
  refine ev_bipush (v := (-3)) dX5_count_91 rfl ?_
  exact ev_ireturn (ty := .int) dX5_count_93 rfl rfl ⟨rfl, rfl, Or.inr (Or.inr (Or.inr (Or.inr (Or.inr (Or.inr (Or.inr ⟨⟨h1_0, h1_1, h1_2, h1_3, h1_4, h1_5, h1_6⟩, rfl, rfl⟩))))))⟩
set_option maxRecDepth 100000 in
set_option maxHeartbeats 4000000 in
theorem lp_X6_findWords {sh : SH} {mi : MI} {mr : MR} (hB : ba_c sh mr) (n : Nat) (hn : mi 29 25 = nI n) (hn40 : n ≤ 40) (tx : Nat → Nat) (htx : ∀ i, i < n → mi 51 i = nI (tx i) ∧ tx i ≤ 26) (w : Nat → Nat) (hw : ∀ k, k ≤ 26 → mi 50 k = nI (w k)) : ∀ i, i ≤ n → ∀ m, iw 29 52 27 tx w mi m i → EV none 0 0 0 mX6_findWords 7 [some (pv_r 29), some (pv_i (nI i))] [] sh m mr (fun v_ sh_ mi_ mr_ => v_ = none ∧ sh_ = sh ∧ mr_ = mr ∧ iw 29 52 27 tx w mi mi_ n) := by
  refine lp_i n (fun i hi ih => ?_)
  intro m hI
  refine ev_iload_n dX6_findWords_7 rfl ?_
  refine ev_aload_n dX6_findWords_8 rfl ?_
  refine ev_geti dX6_findWords_9 fl_X6_165 rfl (hB.1 29 _ rfl) ?_
  refine ev_icmp_ge (tgt := 90) dX6_findWords_12 rfl (fun h12 => ?_) (fun h12 => ?_)
  · have hin : i = n := by have := (nl_le ((hI.1 29 25 (by decide) (by decide)).trans hn) rfl (by omega) (by omega)).mp h12; omega
    subst hin
    exact ev_return dX6_findWords_90 rfl ⟨rfl, rfl, rfl, hI⟩
  · have hlt : i < n := by have := (not_congr (nl_le ((hI.1 29 25 (by decide) (by decide)).trans hn) rfl (by omega) (by omega))).mp h12; omega
    have hs : m 51 i = nI (tx i) := (hI.1 51 i (by decide) (by omega)).trans (htx i hlt).1
    have hs2 := (htx i hlt).2
    have hwi : m 50 (tx i) = nI (w (tx i)) := (hI.1 50 (tx i) (by decide) (by omega)).trans (hw _ hs2)
    have hb := wc_b tx i
    refine ev_aload_n dX6_findWords_15 rfl ?_
    refine ev_getq dX6_findWords_16 fl_X6_74 rfl (hB.1 29 _ rfl) (hB.2 29 26 _ rfl) ?_
    refine ev_iload_n dX6_findWords_19 rfl ?_
    refine ev_iald dX6_findWords_20 (hB.1 51 _ rfl) (j := i) rfl (by omega) (by decide) ?_
    refine ev_if_le (tgt := 84) dX6_findWords_21 rfl (fun h21 => ?_) (fun h21 => ?_)
    · have h0 : tx i = 0 := by rw [hs] at h21; have := (nl_le (x := nI (tx i)) rfl (y := 0) (b := 0) rfl (by omega) (by decide)).mp h21; omega
      refine ev_iincN dX6_findWords_84 rfl (by decide) ?_
      refine ev_goto (tgt := 7) dX6_findWords_87 rfl ?_
      exact ih hlt m (iw_gap h0 hI)
    · have h0 : tx i ≠ 0 := by rw [hs] at h21; exact fun e => h21 (by rw [e]; decide)
      refine ev_iload_n dX6_findWords_24 rfl ?_
      refine ev_if_eq (tgt := 39) dX6_findWords_25 rfl (fun h25 => ?_) (fun h25 => ?_)
      · have hp : i = 0 ∨ tx (i - 1) = 0 := Or.inl (by have := (nl_eq (x := nI i) rfl (y := 0) (b := 0) rfl (by omega) (by decide)).mp h25; omega)
        have hc := hb.2.1 hp
        refine ev_aload_n dX6_findWords_39 rfl ?_
        refine ev_getq dX6_findWords_40 fl_X6_77 rfl (hB.1 29 _ rfl) (hB.2 29 28 _ rfl) ?_
        refine ev_aload_n dX6_findWords_43 rfl ?_
        refine ev_geti dX6_findWords_44 fl_X6_168 rfl (hB.1 29 _ rfl) ?_
        refine ev_iconst (v := 0) dX6_findWords_47 rfl ?_
        refine ev_iast dX6_findWords_48 (hB.1 52 _ rfl) (j := wc tx i) hI.2.1 (by omega) (by decide) ?_
        refine ev_aload_n dX6_findWords_49 rfl ?_
        refine ev_dup dX6_findWords_50 ?_
        refine ev_geti dX6_findWords_51 fl_X6_168 rfl (hB.1 29 _ rfl) ?_
        refine ev_iconst (v := 1) dX6_findWords_54 rfl ?_
        refine ev_iadd dX6_findWords_55 ?_
        refine ev_puti dX6_findWords_56 fl_X6_168 rfl rfl (hB.1 29 _ rfl) ?_
        refine ev_aload_n dX6_findWords_59 rfl ?_
        refine ev_getq dX6_findWords_60 fl_X6_77 rfl (hB.1 29 _ rfl) (hB.2 29 28 _ rfl) ?_
        refine ev_aload_n dX6_findWords_63 rfl ?_
        refine ev_geti dX6_findWords_64 fl_X6_168 rfl (hB.1 29 _ rfl) ?_
        refine ev_iconst (v := 1) dX6_findWords_67 rfl ?_
        refine ev_isub dX6_findWords_68 ?_
        refine ev_dup2 dX6_findWords_69 ?_
        refine ev_iald dX6_findWords_70 (hB.1 52 _ rfl) (j := wc tx i) (by simp [up_2, hI.2.1]) (by omega) (by decide) ?_
        refine ev_aload_n dX6_findWords_71 rfl ?_
        refine ev_getq dX6_findWords_72 fl_X6_71 rfl (hB.1 29 _ rfl) (hB.2 29 24 _ rfl) ?_
        refine ev_aload_n dX6_findWords_75 rfl ?_
        refine ev_getq dX6_findWords_76 fl_X6_74 rfl (hB.1 29 _ rfl) (hB.2 29 26 _ rfl) ?_
        refine ev_iload_n dX6_findWords_79 rfl ?_
        refine ev_iald dX6_findWords_80 (hB.1 51 _ rfl) (j := i) rfl (by omega) (by decide) ?_
        refine ev_iald dX6_findWords_81 (hB.1 50 _ rfl) (j := tx i) (by simp [up_2, hs]) (by omega) (by decide) ?_
        refine ev_iadd dX6_findWords_82 ?_
        refine ev_iast dX6_findWords_83 (hB.1 52 _ rfl) (j := wc tx i) (by simp [up_2, hI.2.1]) (by omega) (by decide) ?_
        refine ev_iincN dX6_findWords_84 rfl (by decide) ?_
        refine ev_goto (tgt := 7) dX6_findWords_87 rfl ?_
        exact ih hlt _ (iw_new (by decide) h0 hp (by rw [up_ne (Or.inl (by decide)), hI.2.1, nI_1]) (by simp [up_2, hwi]) hI)
      · have hi0 : i ≠ 0 := fun e => h25 (by rw [e]; rfl)
        have hs3 : m 51 (i - 1) = nI (tx (i - 1)) := (hI.1 51 (i - 1) (by decide) (by omega)).trans (htx (i - 1) (by omega)).1
        have hs4 := (htx (i - 1) (by omega)).2
        refine ev_aload_n dX6_findWords_28 rfl ?_
        refine ev_getq dX6_findWords_29 fl_X6_74 rfl (hB.1 29 _ rfl) (hB.2 29 26 _ rfl) ?_
        refine ev_iload_n dX6_findWords_32 rfl ?_
        refine ev_iconst (v := 1) dX6_findWords_33 rfl ?_
        refine ev_isub dX6_findWords_34 ?_
        refine ev_iald dX6_findWords_35 (hB.1 51 _ rfl) (j := i - 1) (by rw [n_1, pk_sub (by omega)]) (by omega) (by decide) ?_
        refine ev_if_ne (tgt := 59) dX6_findWords_36 rfl (fun h36 => ?_) (fun h36 => ?_)
        · have hp : ¬ (i = 0 ∨ tx (i - 1) = 0) := fun q => q.elim hi0 (fun e => h36 (by rw [hs3, e]; rfl))
          have hc := hb.2.2 hi0 (fun e => hp (Or.inr e))
          refine ev_aload_n dX6_findWords_59 rfl ?_
          refine ev_getq dX6_findWords_60 fl_X6_77 rfl (hB.1 29 _ rfl) (hB.2 29 28 _ rfl) ?_
          refine ev_aload_n dX6_findWords_63 rfl ?_
          refine ev_geti dX6_findWords_64 fl_X6_168 rfl (hB.1 29 _ rfl) ?_
          refine ev_iconst (v := 1) dX6_findWords_67 rfl ?_
          refine ev_isub dX6_findWords_68 ?_
          refine ev_dup2 dX6_findWords_69 ?_
          refine ev_iald dX6_findWords_70 (hB.1 52 _ rfl) (j := wc tx i - 1) (by rw [hI.2.1, n_1, pk_sub (by omega)]) (by omega) (by decide) ?_
          refine ev_aload_n dX6_findWords_71 rfl ?_
          refine ev_getq dX6_findWords_72 fl_X6_71 rfl (hB.1 29 _ rfl) (hB.2 29 24 _ rfl) ?_
          refine ev_aload_n dX6_findWords_75 rfl ?_
          refine ev_getq dX6_findWords_76 fl_X6_74 rfl (hB.1 29 _ rfl) (hB.2 29 26 _ rfl) ?_
          refine ev_iload_n dX6_findWords_79 rfl ?_
          refine ev_iald dX6_findWords_80 (hB.1 51 _ rfl) (j := i) rfl (by omega) (by decide) ?_
          refine ev_iald dX6_findWords_81 (hB.1 50 _ rfl) (j := tx i) (by simp [up_2, hs]) (by omega) (by decide) ?_
          refine ev_iadd dX6_findWords_82 ?_
          refine ev_iast dX6_findWords_83 (hB.1 52 _ rfl) (j := wc tx i - 1) (by rw [hI.2.1, n_1, pk_sub (by omega)]) (by omega) (by decide) ?_
          refine ev_iincN dX6_findWords_84 rfl (by decide) ?_
          refine ev_goto (tgt := 7) dX6_findWords_87 rfl ?_
          exact ih hlt _ (iw_con (by decide) h0 hp (by rw [hI.2.2 _ (by omega), hwi]) hI)
        · have hp : i = 0 ∨ tx (i - 1) = 0 := Or.inr (by rw [hs3] at h36; exact (nI_eq (b := 0) (by omega) (by decide)).mp h36)
          have hc := hb.2.1 hp
          refine ev_aload_n dX6_findWords_39 rfl ?_
          refine ev_getq dX6_findWords_40 fl_X6_77 rfl (hB.1 29 _ rfl) (hB.2 29 28 _ rfl) ?_
          refine ev_aload_n dX6_findWords_43 rfl ?_
          refine ev_geti dX6_findWords_44 fl_X6_168 rfl (hB.1 29 _ rfl) ?_
          refine ev_iconst (v := 0) dX6_findWords_47 rfl ?_
          refine ev_iast dX6_findWords_48 (hB.1 52 _ rfl) (j := wc tx i) hI.2.1 (by omega) (by decide) ?_
          refine ev_aload_n dX6_findWords_49 rfl ?_
          refine ev_dup dX6_findWords_50 ?_
          refine ev_geti dX6_findWords_51 fl_X6_168 rfl (hB.1 29 _ rfl) ?_
          refine ev_iconst (v := 1) dX6_findWords_54 rfl ?_
          refine ev_iadd dX6_findWords_55 ?_
          refine ev_puti dX6_findWords_56 fl_X6_168 rfl rfl (hB.1 29 _ rfl) ?_
          refine ev_aload_n dX6_findWords_59 rfl ?_
          refine ev_getq dX6_findWords_60 fl_X6_77 rfl (hB.1 29 _ rfl) (hB.2 29 28 _ rfl) ?_
          refine ev_aload_n dX6_findWords_63 rfl ?_
          refine ev_geti dX6_findWords_64 fl_X6_168 rfl (hB.1 29 _ rfl) ?_
          refine ev_iconst (v := 1) dX6_findWords_67 rfl ?_
          refine ev_isub dX6_findWords_68 ?_
          refine ev_dup2 dX6_findWords_69 ?_
          refine ev_iald dX6_findWords_70 (hB.1 52 _ rfl) (j := wc tx i) (by simp [up_2, hI.2.1]) (by omega) (by decide) ?_
          refine ev_aload_n dX6_findWords_71 rfl ?_
          refine ev_getq dX6_findWords_72 fl_X6_71 rfl (hB.1 29 _ rfl) (hB.2 29 24 _ rfl) ?_
          refine ev_aload_n dX6_findWords_75 rfl ?_
          refine ev_getq dX6_findWords_76 fl_X6_74 rfl (hB.1 29 _ rfl) (hB.2 29 26 _ rfl) ?_
          refine ev_iload_n dX6_findWords_79 rfl ?_
          refine ev_iald dX6_findWords_80 (hB.1 51 _ rfl) (j := i) rfl (by omega) (by decide) ?_
          refine ev_iald dX6_findWords_81 (hB.1 50 _ rfl) (j := tx i) (by simp [up_2, hs]) (by omega) (by decide) ?_
          refine ev_iadd dX6_findWords_82 ?_
          refine ev_iast dX6_findWords_83 (hB.1 52 _ rfl) (j := wc tx i) (by simp [up_2, hI.2.1]) (by omega) (by decide) ?_
          refine ev_iincN dX6_findWords_84 rfl (by decide) ?_
          refine ev_goto (tgt := 7) dX6_findWords_87 rfl ?_
          exact ih hlt _ (iw_new (by decide) h0 hp (by rw [up_ne (Or.inl (by decide)), hI.2.1, nI_1]) (by simp [up_2, hwi]) hI)
set_option maxRecDepth 100000 in
set_option maxHeartbeats 4000000 in
theorem t_X6_findWords {sh : SH} {mi : MI} {mr : MR} (hB : ba_c sh mr) (n : Nat) (hn : mi 29 25 = nI n) (hn40 : n ≤ 40) (tx : Nat → Nat) (htx : ∀ i, i < n → mi 51 i = nI (tx i) ∧ tx i ≤ 26) (w : Nat → Nat) (hw : ∀ k, k ≤ 26 → mi 50 k = nI (w k)) : EV none 0 0 0 mX6_findWords 0 (en_l mX6_findWords [pv_r 29]) [] sh mi mr (fun v_ sh_ mi_ mr_ => v_ = none ∧ sh_ = sh ∧ mr_ = mr ∧ iw 29 52 27 tx w mi mi_ n) := by
  show EV none 0 0 0 mX6_findWords 0 [some (pv_r 29), none] [] sh mi mr _
  refine ev_aload_n dX6_findWords_0 rfl ?_
  refine ev_iconst (v := 0) dX6_findWords_1 rfl ?_
  refine ev_puti dX6_findWords_2 fl_X6_168 rfl rfl (hB.1 29 _ rfl) ?_
  refine ev_iconst (v := 0) dX6_findWords_5 rfl ?_
  refine ev_istore_n dX6_findWords_6 (by decide) ?_
  exact lp_X6_findWords hB n hn hn40 tx htx w hw 0 (Nat.zero_le n) _ (iw_0 (by decide))
set_option maxRecDepth 100000 in
set_option maxHeartbeats 4000000 in
theorem t_X6_count {sh : SH} {mi : MI} {mr : MR} (hB : ba_c sh mr) (p1 : Int32) (n : Nat) (hn : mi 29 25 = nI n) (hn40 : n ≤ 40) (tx : Nat → Nat) (htx : ∀ i, i < n → mi 51 i = nI (tx i) ∧ tx i ≤ 26) (w : Nat → Nat) (hw : ∀ k, k ≤ 26 → mi 50 k = nI (w k)) : EV none 1 0 0 mX6_count 0 (en_l mX6_count [pv_r 29, pv_i p1]) [] sh mi mr (fun v_ sh_ mi_ mr_ => sh_ = sh ∧ mr_ = mr ∧ iw 29 52 27 tx w mi mi_ n ∧ ((p1 = 0 ∧ v_ = some (pv_i (mi 29 1))) ∨ (p1 = 1 ∧ v_ = some (pv_i (mi 29 34))) ∨ (p1 = 2 ∧ v_ = some (pv_i (mi 29 13))) ∨ (p1 = 3 ∧ v_ = some (pv_i (mi 29 0))) ∨ (p1 = 4 ∧ v_ = some (pv_i (mi 29 25))) ∨ (p1 = 5 ∧ v_ = some (pv_i (nI (wc tx n)))) ∨ (p1 = 6 ∧ v_ = some (pv_i (mi 29 42))) ∨ ((¬ p1 = 0 ∧ ¬ p1 = 1 ∧ ¬ p1 = 2 ∧ ¬ p1 = 3 ∧ ¬ p1 = 4 ∧ ¬ p1 = 5 ∧ ¬ p1 = 6) ∧ v_ = some (pv_i (-3))))) := by
  show EV none 1 0 0 mX6_count 0 [some (pv_r 29), some (pv_i p1)] [] sh mi mr _
  refine ev_aload_n dX6_count_0 rfl ?_
  refine ev_callv (av := []) dX6_count_1 cv_X6_175 (hB.1 29 _ rfl) rfl rfl (Nat.le_of_ble_eq_true rfl) (by decide) (Or.inl (fun v_ s_ m_ r_ h_ => by rw [h_.2.1])) (Nat.zero_add _) (Nat.zero_add _) (t_X6_findWords hB n hn hn40 tx htx w hw) ?_
  rintro v_ sh_ m1 mr_ ⟨e1_, e2_, e3_, hI⟩
  subst e1_
  have e2_ := e2_.symm
  subst e2_
  have e3_ := e3_.symm
  subst e3_
  refine ev_iload_n dX6_count_4 rfl ?_
  by_cases h5_0 : p1 = 0
  · refine ev_tableIn (tgt := 48) dX6_count_5 (by rw [h5_0]; decide) (by rw [h5_0]; decide) (by rw [h5_0] <;> rfl) rfl ?_
    refine ev_aload_n dX6_count_48 rfl ?_
    refine ev_geti dX6_count_49 fl_X6_126 rfl (hB.1 29 _ rfl) ?_
    exact ev_ireturn (ty := .int) dX6_count_52 rfl rfl ⟨rfl, rfl, hI, Or.inl ⟨h5_0, by rw [hI.1 29 1 (by decide) (by decide)]⟩⟩
  by_cases h5_1 : p1 = 1
  · refine ev_tableIn (tgt := 53) dX6_count_5 (by rw [h5_1]; decide) (by rw [h5_1]; decide) (by rw [h5_1] <;> rfl) rfl ?_
    refine ev_aload_n dX6_count_53 rfl ?_
    refine ev_geti dX6_count_54 fl_X6_188 rfl (hB.1 29 _ rfl) ?_
    exact ev_ireturn (ty := .int) dX6_count_57 rfl rfl ⟨rfl, rfl, hI, Or.inr (Or.inl ⟨h5_1, by rw [hI.1 29 34 (by decide) (by decide)]⟩)⟩
  by_cases h5_2 : p1 = 2
  · refine ev_tableIn (tgt := 58) dX6_count_5 (by rw [h5_2]; decide) (by rw [h5_2]; decide) (by rw [h5_2] <;> rfl) rfl ?_
    refine ev_aload_n dX6_count_58 rfl ?_
    refine ev_geti dX6_count_59 fl_X6_145 rfl (hB.1 29 _ rfl) ?_
    exact ev_ireturn (ty := .int) dX6_count_62 rfl rfl ⟨rfl, rfl, hI, Or.inr (Or.inr (Or.inl ⟨h5_2, by rw [hI.1 29 13 (by decide) (by decide)]⟩))⟩
  by_cases h5_3 : p1 = 3
  · refine ev_tableIn (tgt := 63) dX6_count_5 (by rw [h5_3]; decide) (by rw [h5_3]; decide) (by rw [h5_3] <;> rfl) rfl ?_
    refine ev_aload_n dX6_count_63 rfl ?_
    refine ev_geti dX6_count_64 fl_X6_148 rfl (hB.1 29 _ rfl) ?_
    exact ev_ireturn (ty := .int) dX6_count_67 rfl rfl ⟨rfl, rfl, hI, Or.inr (Or.inr (Or.inr (Or.inl ⟨h5_3, by rw [hI.1 29 0 (by decide) (by decide)]⟩)))⟩
  by_cases h5_4 : p1 = 4
  · refine ev_tableIn (tgt := 68) dX6_count_5 (by rw [h5_4]; decide) (by rw [h5_4]; decide) (by rw [h5_4] <;> rfl) rfl ?_
    refine ev_aload_n dX6_count_68 rfl ?_
    refine ev_geti dX6_count_69 fl_X6_165 rfl (hB.1 29 _ rfl) ?_
    exact ev_ireturn (ty := .int) dX6_count_72 rfl rfl ⟨rfl, rfl, hI, Or.inr (Or.inr (Or.inr (Or.inr (Or.inl ⟨h5_4, by rw [hI.1 29 25 (by decide) (by decide)]⟩))))⟩
  by_cases h5_5 : p1 = 5
  · refine ev_tableIn (tgt := 73) dX6_count_5 (by rw [h5_5]; decide) (by rw [h5_5]; decide) (by rw [h5_5] <;> rfl) rfl ?_
    refine ev_aload_n dX6_count_73 rfl ?_
    refine ev_geti dX6_count_74 fl_X6_168 rfl (hB.1 29 _ rfl) ?_
    exact ev_ireturn (ty := .int) dX6_count_77 rfl rfl ⟨rfl, rfl, hI, Or.inr (Or.inr (Or.inr (Or.inr (Or.inr (Or.inl ⟨h5_5, by rw [hI.2.1]⟩)))))⟩
  by_cases h5_6 : p1 = 6
  · refine ev_tableIn (tgt := 78) dX6_count_5 (by rw [h5_6]; decide) (by rw [h5_6]; decide) (by rw [h5_6] <;> rfl) rfl ?_
    refine ev_aload_n dX6_count_78 rfl ?_
    refine ev_geti dX6_count_79 fl_X6_212 rfl (hB.1 29 _ rfl) ?_
    exact ev_ireturn (ty := .int) dX6_count_82 rfl rfl ⟨rfl, rfl, hI, Or.inr (Or.inr (Or.inr (Or.inr (Or.inr (Or.inr (Or.inl ⟨h5_6, by rw [hI.1 29 42 (by decide) (by decide)]⟩))))))⟩
  refine ev_tableOut (tgt := 83) dX6_count_5 (by have e0 := lv_neT (a := 0) h5_0 (by decide); have e1 := lv_neT (a := 1) h5_1 (by decide); have e2 := lv_neT (a := 2) h5_2 (by decide); have e3 := lv_neT (a := 3) h5_3 (by decide); have e4 := lv_neT (a := 4) h5_4 (by decide); have e5 := lv_neT (a := 5) h5_5 (by decide); have e6 := lv_neT (a := 6) h5_6 (by decide); omega) rfl ?_
  refine ev_bipush (v := (-3)) dX6_count_83 rfl ?_
  exact ev_ireturn (ty := .int) dX6_count_85 rfl rfl ⟨rfl, rfl, hI, Or.inr (Or.inr (Or.inr (Or.inr (Or.inr (Or.inr (Or.inr ⟨⟨h5_0, h5_1, h5_2, h5_3, h5_4, h5_5, h5_6⟩, rfl⟩))))))⟩
set_option maxRecDepth 100000 in
set_option maxHeartbeats 4000000 in
theorem t_X6_sign {sh : SH} {mi : MI} {mr : MR} (hB : ba_c sh mr) (p1 : Int32) (n : Nat) (hn : mi 29 25 = nI n) (hn40 : n ≤ 40) : EV none 2 0 0 mX6_sign 0 (en_l mX6_sign [pv_r 29, pv_i p1]) [] sh mi mr (fun v_ sh_ mi_ mr_ => ((0 ≤ p1 ∧ p1 ≤ 26) ∧ (¬ (mi 29 25) = 40) ∧ (ok_r sh mr ((up_2 (up_2 mi 51 n p1) 29 25 (((up_2 mi 51 n p1) 29 25) + 1)) 29 25) (up_2 (up_2 mi 51 n p1) 29 25 (((up_2 mi 51 n p1) 29 25) + 1))) v_ sh_ mi_ mr_) ∨ ((0 ≤ p1 ∧ p1 ≤ 26) ∧ ((mi 29 25) = 40) ∧ (ok_r sh mr (-6) mi) v_ sh_ mi_ mr_) ∨ ((¬ (0 ≤ p1 ∧ p1 ≤ 26)) ∧ (ok_r sh mr (-2) mi) v_ sh_ mi_ mr_)) := by
  show EV none 2 0 0 mX6_sign 0 [some (pv_r 29), some (pv_i p1)] [] sh mi mr _
  refine ev_iload_n dX6_sign_0 rfl ?_
  refine ev_iconst (v := 0) dX6_sign_1 rfl ?_
  refine ev_bipush (v := 26) dX6_sign_2 rfl ?_
  refine ev_s3i dX6_sign_4 cs_X6_129 (Nat.le_of_ble_eq_true rfl) (by decide) (t_X6_in _ _ _) ?_
  refine ev_ifb_ne (tgt := 13) dX6_sign_7 rfl (fun h7 => ?_) (fun h7 => ?_)
  · refine ev_aload_n dX6_sign_13 rfl ?_
    refine ev_geti dX6_sign_14 fl_X6_165 rfl (hB.1 29 _ rfl) ?_
    refine ev_bipush (v := 40) dX6_sign_17 rfl ?_
    refine ev_icmp_ne (tgt := 25) dX6_sign_19 rfl (fun h19 => ?_) (fun h19 => ?_)
    · refine ev_aload_n dX6_sign_25 rfl ?_
      refine ev_getq dX6_sign_26 fl_X6_74 rfl (hB.1 29 _ rfl) (hB.2 29 26 _ rfl) ?_
      refine ev_aload_n dX6_sign_29 rfl ?_
      refine ev_geti dX6_sign_30 fl_X6_165 rfl (hB.1 29 _ rfl) ?_
      refine ev_iload_n dX6_sign_33 rfl ?_
      refine ev_iast dX6_sign_34 (hB.1 51 _ rfl) (j := n) (by simp [up_2, pk_mul, nI_add, n_5, n_6, n_12, n_144, hn]) (by have := (not_congr (nl_eq hn (b := 40) rfl (by omega) (by decide))).mp h19; omega) (by decide) ?_
      refine ev_aload_n dX6_sign_35 rfl ?_
      refine ev_dup dX6_sign_36 ?_
      refine ev_geti dX6_sign_37 fl_X6_165 rfl (hB.1 29 _ rfl) ?_
      refine ev_iconst (v := 1) dX6_sign_40 rfl ?_
      refine ev_iadd dX6_sign_41 ?_
      refine ev_puti dX6_sign_42 fl_X6_165 rfl rfl (hB.1 29 _ rfl) ?_
      refine ev_aload_n dX6_sign_45 rfl ?_
      refine ev_geti dX6_sign_46 fl_X6_165 rfl (hB.1 29 _ rfl) ?_
      exact ev_ireturn (ty := .int) dX6_sign_49 rfl rfl (Or.inl ⟨h7, h19, rfl, rfl, rfl, rfl⟩)
    · refine ev_bipush (v := (-6)) dX6_sign_22 rfl ?_
      exact ev_ireturn (ty := .int) dX6_sign_24 rfl rfl (Or.inr (Or.inl ⟨h7, h19, rfl, rfl, rfl, rfl⟩))
  · refine ev_bipush (v := (-2)) dX6_sign_10 rfl ?_
    exact ev_ireturn (ty := .int) dX6_sign_12 rfl rfl (Or.inr (Or.inr ⟨h7, rfl, rfl, rfl, rfl⟩))
set_option maxRecDepth 100000 in
set_option maxHeartbeats 4000000 in
theorem t_X6_wipe {sh : SH} {mi : MI} {mr : MR} (hB : ba_c sh mr) : EV none 0 0 0 mX6_wipe 0 (en_l mX6_wipe [pv_r 29]) [] sh mi mr (ok_r sh mr (mi 29 25) (up_2 mi 29 25 0)) := by
  show EV none 0 0 0 mX6_wipe 0 [some (pv_r 29), none] [] sh mi mr _
  refine ev_aload_n dX6_wipe_0 rfl ?_
  refine ev_geti dX6_wipe_1 fl_X6_165 rfl (hB.1 29 _ rfl) ?_
  refine ev_istore_n dX6_wipe_4 (by decide) ?_
  refine ev_aload_n dX6_wipe_5 rfl ?_
  refine ev_iconst (v := 0) dX6_wipe_6 rfl ?_
  refine ev_puti dX6_wipe_7 fl_X6_165 rfl rfl (hB.1 29 _ rfl) ?_
  refine ev_iload_n dX6_wipe_10 rfl ?_
  exact ev_ireturn (ty := .int) dX6_wipe_11 rfl rfl ⟨rfl, rfl, rfl, rfl⟩
set_option maxRecDepth 100000 in
set_option maxHeartbeats 4000000 in
theorem t_X6_last {sh : SH} {mi : MI} {mr : MR} (hB : ba_c sh mr) (p1 : Int32) : EV none 2 0 0 mX6_last 0 (en_l mX6_last [pv_r 29, pv_i p1]) [] sh mi mr (fun v_ sh_ mi_ mr_ => ((1 ≤ p1 ∧ p1 ≤ 1000) ∧ (ok_r sh mr (mi 29 33) (up_2 mi 29 33 p1)) v_ sh_ mi_ mr_) ∨ ((¬ (1 ≤ p1 ∧ p1 ≤ 1000)) ∧ (ok_r sh mr (-3) mi) v_ sh_ mi_ mr_)) := by
  show EV none 2 0 0 mX6_last 0 [some (pv_r 29), some (pv_i p1), none] [] sh mi mr _
  refine ev_iload_n dX6_last_0 rfl ?_
  refine ev_iconst (v := 1) dX6_last_1 rfl ?_
  refine ev_sipush (v := 1000) dX6_last_2 rfl ?_
  refine ev_s3i dX6_last_5 cs_X6_129 (Nat.le_of_ble_eq_true rfl) (by decide) (t_X6_in _ _ _) ?_
  refine ev_ifb_ne (tgt := 14) dX6_last_8 rfl (fun h8 => ?_) (fun h8 => ?_)
  · refine ev_aload_n dX6_last_14 rfl ?_
    refine ev_geti dX6_last_15 fl_X6_89 rfl (hB.1 29 _ rfl) ?_
    refine ev_istore_n dX6_last_18 (by decide) ?_
    refine ev_aload_n dX6_last_19 rfl ?_
    refine ev_iload_n dX6_last_20 rfl ?_
    refine ev_puti dX6_last_21 fl_X6_89 rfl rfl (hB.1 29 _ rfl) ?_
    refine ev_iload_n dX6_last_24 rfl ?_
    exact ev_ireturn (ty := .int) dX6_last_25 rfl rfl (Or.inl ⟨h8, rfl, rfl, rfl, rfl⟩)
  · refine ev_bipush (v := (-3)) dX6_last_11 rfl ?_
    exact ev_ireturn (ty := .int) dX6_last_13 rfl rfl (Or.inr ⟨h8, rfl, rfl, rfl, rfl⟩)
set_option maxRecDepth 100000 in
set_option maxHeartbeats 4000000 in
theorem t_X6_width_u {sh : SH} {mi : MI} {mr : MR} (hB : ba_c sh mr) (p1 p2 : Int32) (hu : ¬ (0 ≤ p1 ∧ p1 ≤ 26)) : EV none 2 0 0 mX6_width 0 (en_l mX6_width [pv_r 29, pv_i p1, pv_i p2]) [] sh mi mr (ok_r sh mr (-2) mi) := by
  show EV none 2 0 0 mX6_width 0 [some (pv_r 29), some (pv_i p1), some (pv_i p2), none] [] sh mi mr _
  refine ev_iload_n dX6_width_0 rfl ?_
  refine ev_iconst (v := 0) dX6_width_1 rfl ?_
  refine ev_bipush (v := 26) dX6_width_2 rfl ?_
  refine ev_s3i dX6_width_4 cs_X6_129 (Nat.le_of_ble_eq_true rfl) (by decide) (t_X6_in _ _ _) ?_
  refine ev_if_ne_f (tgt := 13) dX6_width_7 rfl (bi_f hu) ?_
  refine ev_bipush (v := (-2)) dX6_width_10 rfl ?_
  exact ev_ireturn (ty := .int) dX6_width_12 rfl rfl ⟨rfl, rfl, rfl, rfl⟩
set_option maxRecDepth 100000 in
set_option maxHeartbeats 4000000 in
theorem t_X6_width_k {sh : SH} {mi : MI} {mr : MR} (hB : ba_c sh mr) (k : Nat) (hk : k ≤ 26) (p2 : Int32) : EV none 2 0 0 mX6_width 0 (en_l mX6_width [pv_r 29, pv_i (nI k), pv_i p2]) [] sh mi mr (fun v_ sh_ mi_ mr_ => ((¬ (nI k) = 0) ∧ (1 ≤ p2 ∧ p2 ≤ 20) ∧ (ok_r sh mr (mi 50 k) (up_2 mi 50 k p2)) v_ sh_ mi_ mr_) ∨ ((¬ (nI k) = 0) ∧ (¬ (1 ≤ p2 ∧ p2 ≤ 20)) ∧ (ok_r sh mr (-3) mi) v_ sh_ mi_ mr_) ∨ (((nI k) = 0) ∧ (0 ≤ p2 ∧ p2 ≤ 20) ∧ (ok_r sh mr (mi 50 k) (up_2 mi 50 k p2)) v_ sh_ mi_ mr_) ∨ (((nI k) = 0) ∧ (¬ (0 ≤ p2 ∧ p2 ≤ 20)) ∧ (ok_r sh mr (-3) mi) v_ sh_ mi_ mr_)) := by
  show EV none 2 0 0 mX6_width 0 [some (pv_r 29), some (pv_i (nI k)), some (pv_i p2), none] [] sh mi mr _
  refine ev_iload_n dX6_width_0 rfl ?_
  refine ev_iconst (v := 0) dX6_width_1 rfl ?_
  refine ev_bipush (v := 26) dX6_width_2 rfl ?_
  refine ev_s3i dX6_width_4 cs_X6_129 (Nat.le_of_ble_eq_true rfl) (by decide) (t_X6_in _ _ _) ?_
  refine ev_if_ne_t (tgt := 13) dX6_width_7 rfl (by rw [bi_1 ((i_in 26 (n := 26) rfl (by decide)).mpr ⟨k, hk, rfl⟩)]; decide) ?_
  refine ev_iload_n dX6_width_13 rfl ?_
  refine ev_iload_n dX6_width_14 rfl ?_
  refine ev_if_ne (tgt := 22) dX6_width_15 rfl (fun h15 => ?_) (fun h15 => ?_)
  · refine ev_iconst (v := 1) dX6_width_22 rfl ?_
    refine ev_bipush (v := 20) dX6_width_23 rfl ?_
    refine ev_s3i dX6_width_25 cs_X6_129 (Nat.le_of_ble_eq_true rfl) (by decide) (t_X6_in _ _ _) ?_
    refine ev_ifb_ne (tgt := 34) dX6_width_28 rfl (fun h28 => ?_) (fun h28 => ?_)
    · refine ev_aload_n dX6_width_34 rfl ?_
      refine ev_getq dX6_width_35 fl_X6_71 rfl (hB.1 29 _ rfl) (hB.2 29 24 _ rfl) ?_
      refine ev_iload_n dX6_width_38 rfl ?_
      refine ev_iald dX6_width_39 (hB.1 50 _ rfl) (j := k) rfl (by omega) (by decide) ?_
      refine ev_istore_n dX6_width_40 (by decide) ?_
      refine ev_aload_n dX6_width_41 rfl ?_
      refine ev_getq dX6_width_42 fl_X6_71 rfl (hB.1 29 _ rfl) (hB.2 29 24 _ rfl) ?_
      refine ev_iload_n dX6_width_45 rfl ?_
      refine ev_iload_n dX6_width_46 rfl ?_
      refine ev_iast dX6_width_47 (hB.1 50 _ rfl) (j := k) rfl (by omega) (by decide) ?_
      refine ev_iload_n dX6_width_48 rfl ?_
      exact ev_ireturn (ty := .int) dX6_width_49 rfl rfl (Or.inl ⟨h15, h28, rfl, rfl, rfl, rfl⟩)
    · refine ev_bipush (v := (-3)) dX6_width_31 rfl ?_
      exact ev_ireturn (ty := .int) dX6_width_33 rfl rfl (Or.inr (Or.inl ⟨h15, h28, rfl, rfl, rfl, rfl⟩))
  · refine ev_iconst (v := 0) dX6_width_18 rfl ?_
    refine ev_goto (tgt := 23) dX6_width_19 rfl ?_
    refine ev_bipush (v := 20) dX6_width_23 rfl ?_
    refine ev_s3i dX6_width_25 cs_X6_129 (Nat.le_of_ble_eq_true rfl) (by decide) (t_X6_in _ _ _) ?_
    refine ev_ifb_ne (tgt := 34) dX6_width_28 rfl (fun h28 => ?_) (fun h28 => ?_)
    · refine ev_aload_n dX6_width_34 rfl ?_
      refine ev_getq dX6_width_35 fl_X6_71 rfl (hB.1 29 _ rfl) (hB.2 29 24 _ rfl) ?_
      refine ev_iload_n dX6_width_38 rfl ?_
      refine ev_iald dX6_width_39 (hB.1 50 _ rfl) (j := k) rfl (by omega) (by decide) ?_
      refine ev_istore_n dX6_width_40 (by decide) ?_
      refine ev_aload_n dX6_width_41 rfl ?_
      refine ev_getq dX6_width_42 fl_X6_71 rfl (hB.1 29 _ rfl) (hB.2 29 24 _ rfl) ?_
      refine ev_iload_n dX6_width_45 rfl ?_
      refine ev_iload_n dX6_width_46 rfl ?_
      refine ev_iast dX6_width_47 (hB.1 50 _ rfl) (j := k) rfl (by omega) (by decide) ?_
      refine ev_iload_n dX6_width_48 rfl ?_
      exact ev_ireturn (ty := .int) dX6_width_49 rfl rfl (Or.inr (Or.inr (Or.inl ⟨h15, h28, rfl, rfl, rfl, rfl⟩)))
    · refine ev_bipush (v := (-3)) dX6_width_31 rfl ?_
      exact ev_ireturn (ty := .int) dX6_width_33 rfl rfl (Or.inr (Or.inr (Or.inr ⟨h15, h28, rfl, rfl, rfl, rfl⟩)))
set_option maxRecDepth 100000 in
set_option maxHeartbeats 4000000 in
theorem t_X6_sharpen_u {sh : SH} {mi : MI} {mr : MR} (hB : ba_c sh mr) (p1 : Int32) (hu : ¬ (1 ≤ p1 ∧ p1 ≤ 26)) : EV none 2 0 0 mX6_sharpen 0 (en_l mX6_sharpen [pv_r 29, pv_i p1]) [] sh mi mr (ok_r sh mr (-2) mi) := by
  show EV none 2 0 0 mX6_sharpen 0 [some (pv_r 29), some (pv_i p1), none] [] sh mi mr _
  refine ev_iload_n dX6_sharpen_0 rfl ?_
  refine ev_iconst (v := 1) dX6_sharpen_1 rfl ?_
  refine ev_bipush (v := 26) dX6_sharpen_2 rfl ?_
  refine ev_s3i dX6_sharpen_4 cs_X6_129 (Nat.le_of_ble_eq_true rfl) (by decide) (t_X6_in _ _ _) ?_
  refine ev_if_ne_f (tgt := 13) dX6_sharpen_7 rfl (bi_f hu) ?_
  refine ev_bipush (v := (-2)) dX6_sharpen_10 rfl ?_
  exact ev_ireturn (ty := .int) dX6_sharpen_12 rfl rfl ⟨rfl, rfl, rfl, rfl⟩
set_option maxRecDepth 100000 in
set_option maxHeartbeats 4000000 in
theorem t_X6_sharpen_k {sh : SH} {mi : MI} {mr : MR} (hB : ba_c sh mr) (k : Nat) (hk1 : 1 ≤ k) (hk : k ≤ 26) : EV none 2 0 0 mX6_sharpen 0 (en_l mX6_sharpen [pv_r 29, pv_i (nI k)]) [] sh mi mr (ok_r sh mr (mi 55 k) (up_2 mi 55 k 0)) := by
  show EV none 2 0 0 mX6_sharpen 0 [some (pv_r 29), some (pv_i (nI k)), none] [] sh mi mr _
  refine ev_iload_n dX6_sharpen_0 rfl ?_
  refine ev_iconst (v := 1) dX6_sharpen_1 rfl ?_
  refine ev_bipush (v := 26) dX6_sharpen_2 rfl ?_
  refine ev_s3i dX6_sharpen_4 cs_X6_129 (Nat.le_of_ble_eq_true rfl) (by decide) (t_X6_in _ _ _) ?_
  refine ev_if_ne_t (tgt := 13) dX6_sharpen_7 rfl (by rw [bi_1 (show (1 : Int32) ≤ nI k ∧ nI k ≤ 26 from i_lh (lo := 1) (hi := 26) hk1 hk (by decide))]; decide) ?_
  refine ev_aload_n dX6_sharpen_13 rfl ?_
  refine ev_getq dX6_sharpen_14 fl_X6_86 rfl (hB.1 29 _ rfl) (hB.2 29 32 _ rfl) ?_
  refine ev_iload_n dX6_sharpen_17 rfl ?_
  refine ev_iald dX6_sharpen_18 (hB.1 55 _ rfl) (j := k) rfl (by omega) (by decide) ?_
  refine ev_istore_n dX6_sharpen_19 (by decide) ?_
  refine ev_aload_n dX6_sharpen_20 rfl ?_
  refine ev_getq dX6_sharpen_21 fl_X6_86 rfl (hB.1 29 _ rfl) (hB.2 29 32 _ rfl) ?_
  refine ev_iload_n dX6_sharpen_24 rfl ?_
  refine ev_iconst (v := 0) dX6_sharpen_25 rfl ?_
  refine ev_iast dX6_sharpen_26 (hB.1 55 _ rfl) (j := k) rfl (by omega) (by decide) ?_
  refine ev_iload_n dX6_sharpen_27 rfl ?_
  exact ev_ireturn (ty := .int) dX6_sharpen_28 rfl rfl ⟨rfl, rfl, rfl, rfl⟩
set_option maxRecDepth 100000 in
set_option maxHeartbeats 4000000 in
theorem t_X6_line_u {sh : SH} {mi : MI} {mr : MR} (hB : ba_c sh mr) (p1 : Int32) (hu : ¬ (0 ≤ p1 ∧ p1 ≤ (mi 29 30) - 1)) : EV none 2 0 0 mX6_line 0 (en_l mX6_line [pv_r 29, pv_i p1]) [] sh mi mr (ok_r sh mr (-3) mi) := by
  show EV none 2 0 0 mX6_line 0 [some (pv_r 29), some (pv_i p1)] [] sh mi mr _
  refine ev_iload_n dX6_line_0 rfl ?_
  refine ev_iconst (v := 0) dX6_line_1 rfl ?_
  refine ev_aload_n dX6_line_2 rfl ?_
  refine ev_geti dX6_line_3 fl_X6_182 rfl (hB.1 29 _ rfl) ?_
  refine ev_iconst (v := 1) dX6_line_6 rfl ?_
  refine ev_isub dX6_line_7 ?_
  refine ev_s3i dX6_line_8 cs_X6_129 (Nat.le_of_ble_eq_true rfl) (by decide) (t_X6_in _ _ _) ?_
  refine ev_if_eq_t (tgt := 23) dX6_line_11 rfl (bi_f hu) ?_
  refine ev_bipush (v := (-3)) dX6_line_23 rfl ?_
  exact ev_ireturn (ty := .int) dX6_line_25 rfl rfl ⟨rfl, rfl, rfl, rfl⟩
set_option maxRecDepth 100000 in
set_option maxHeartbeats 4000000 in
theorem t_X6_line_k {sh : SH} {mi : MI} {mr : MR} (hB : ba_c sh mr) (n : Nat) (hn : mi 29 30 = nI n) (hn6 : n ≤ 6) (k : Nat) (hk : k < n) : EV none 2 0 0 mX6_line 0 (en_l mX6_line [pv_r 29, pv_i (nI k)]) [] sh mi mr (ok_r sh mr (mi 54 k) mi) := by
  show EV none 2 0 0 mX6_line 0 [some (pv_r 29), some (pv_i (nI k))] [] sh mi mr _
  refine ev_iload_n dX6_line_0 rfl ?_
  refine ev_iconst (v := 0) dX6_line_1 rfl ?_
  refine ev_aload_n dX6_line_2 rfl ?_
  refine ev_geti dX6_line_3 fl_X6_182 rfl (hB.1 29 _ rfl) ?_
  refine ev_iconst (v := 1) dX6_line_6 rfl ?_
  refine ev_isub dX6_line_7 ?_
  refine ev_s3i dX6_line_8 cs_X6_129 (Nat.le_of_ble_eq_true rfl) (by decide) (t_X6_in _ _ _) ?_
  refine ev_if_eq_f (tgt := 23) dX6_line_11 rfl (by rw [bi_1 (by rw [hn]; exact (i_cases (by omega)).mpr ⟨k, hk, rfl⟩)]; decide) ?_
  refine ev_aload_n dX6_line_14 rfl ?_
  refine ev_getq dX6_line_15 fl_X6_83 rfl (hB.1 29 _ rfl) (hB.2 29 31 _ rfl) ?_
  refine ev_iload_n dX6_line_18 rfl ?_
  refine ev_iald dX6_line_19 (hB.1 54 _ rfl) (j := k) rfl (by omega) (by decide) ?_
  refine ev_goto (tgt := 25) dX6_line_20 rfl ?_
  exact ev_ireturn (ty := .int) dX6_line_25 rfl rfl ⟨rfl, rfl, rfl, rfl⟩
