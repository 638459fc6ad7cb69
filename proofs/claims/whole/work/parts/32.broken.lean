theorem wx_bn {tx w : Nat → Nat} {n : Nat} (hw : ∀ k, k ≤ 26 → w k ≤ 20) (hx : ∀ i, i < n → tx i ≤ 26) : ∀ i, i ≤ n → ∀ k, wx tx w i k ≤ 20 * i
  | 0, _, _ => Nat.le_refl _
  | i + 1, hi, k => by
    have h1 := wx_bn hw hx i (by omega) k
    have h2 := hw (tx i) (hx i (by omega))
    simp only [wx]
    split
    · split <;> omega
    · omega
theorem cs_l {N W gp : Nat} {ww : Nat → Nat} {l f : Nat} (h : 1 ≤ l) : cs_w N W gp ww l f = (bs_w W gp ww (cs_w N W gp ww (l - 1)) f (N - f)).map (fun p => p.1) := by
  obtain ⟨m, rfl⟩ : ∃ m, l = m + 1 := ⟨l - 1, by omega⟩
  rfl
theorem fw_e {N W gp : Nat} {ww : Nat → Nat} {l f : Nat} : fw_w N W gp ww l f = bf_c (bs_w W gp ww (cs_w N W gp ww (l - 1)) f (N - f)) := by
  unfold fw_w bf_c
  rfl
/-- of how many lines the best way is, k at most; where line i begins -/
def bl_w (N W gp : Nat) (ww : Nat → Nat) : Nat → Nat
  | 0 => 0
  | l + 1 => if en_c (cs_w N W gp ww (l + 1) 0) < en_c (cs_w N W gp ww (bl_w N W gp ww l) 0) then l + 1 else bl_w N W gp ww l
def fr_w (N W gp : Nat) (ww : Nat → Nat) (L : Nat) : Nat → Nat
  | 0 => 0
  | i + 1 => fr_w N W gp ww L i + fw_w N W gp ww (L - i) (fr_w N W gp ww L i)
theorem bl_le {N W gp : Nat} {ww : Nat → Nat} : ∀ l, bl_w N W gp ww l ≤ l
  | 0 => Nat.le_refl _
  | l + 1 => by
    have := bl_le (N := N) (W := W) (gp := gp) (ww := ww) l
    unfold bl_w
    split <;> omega
theorem en_le {N W gp : Nat} {ww : Nat → Nat} (hW : W ≤ 400) {l f : Nat} (hl : l ≤ 6) : en_c (cs_w N W gp ww l f) ≤ 1000000000 := by
  cases h : cs_w N W gp ww l f with
  | none => exact Nat.le_refl _
  | some v =>
    have := cs_bd hW l f v h
    show v ≤ _
    have : l * 160000 ≤ 6 * 160000 := Nat.mul_le_mul_right _ hl
    omega
theorem bl_some {N W gp : Nat} {ww : Nat → Nat} (hW : W ≤ 400) : ∀ l, l ≤ 6 → bl_w N W gp ww l ≠ 0 → ∃ v, cs_w N W gp ww (bl_w N W gp ww l) 0 = some v
  | 0, _, h => absurd rfl h
  | l + 1, hl, h => by
    unfold bl_w at h ⊢
    by_cases hlt : en_c (cs_w N W gp ww (l + 1) 0) < en_c (cs_w N W gp ww (bl_w N W gp ww l) 0)
    · rw [if_pos hlt]
      cases hc : cs_w N W gp ww (l + 1) 0 with
      | none =>
        rw [hc] at hlt
        have := en_le (N := N) (gp := gp) (ww := ww) hW (f := 0) (l := bl_w N W gp ww l) (by have := bl_le (N := N) (W := W) (gp := gp) (ww := ww) l; omega)
        exact absurd hlt (by show ¬ 1000000000 < _; omega)
      | some v => exact ⟨v, rfl⟩
    · rw [if_neg hlt] at h ⊢
      exact bl_some hW l (by omega) h
theorem cs_in {N W gp : Nat} {ww : Nat → Nat} : ∀ {l f v : Nat}, cs_w N W gp ww l f = some v → f ≤ N ∧ (1 ≤ l → f < N ∧ 1 ≤ fw_w N W gp ww l f ∧ f + fw_w N W gp ww l f ≤ N ∧ ∃ r, cs_w N W gp ww (l - 1) (f + fw_w N W gp ww l f) = some r)
  | 0, f, v, h => by
    simp only [cs_w] at h
    split at h
    · exact ⟨by omega, fun q => by omega⟩
    · cases h
  | l + 1, f, v, h => by
    have h0 := h
    simp only [cs_w] at h
    cases hb : bs_w W gp ww (cs_w N W gp ww l) f (N - f) with
    | none => rw [hb] at h; cases h
    | some p =>
      obtain ⟨h1, h2, h3, -, -⟩ := bs_p _ p hb
      have hfw : fw_w N W gp ww (l + 1) f = p.2 := by
        rw [fw_e, Nat.add_sub_cancel, hb]
        rfl
      rw [hfw, Nat.add_sub_cancel]
      refine ⟨by omega, fun _ => ⟨by omega, h1, by omega, ?_⟩⟩
      unfold cd_w at h3
      split at h3
      · cases hc : cs_w N W gp ww l (f + p.2) with
        | none => rw [hc] at h3; cases h3
        | some r => exact ⟨r, rfl⟩
      · cases h3
theorem fr_ok {N W gp : Nat} {ww : Nat → Nat} {L v : Nat} (h : cs_w N W gp ww L 0 = some v) : ∀ i, i ≤ L → ∃ u, cs_w N W gp ww (L - i) (fr_w N W gp ww L i) = some u
  | 0, _ => ⟨v, h⟩
  | i + 1, hi => by
    obtain ⟨u, hu⟩ := fr_ok h i (by omega)
    obtain ⟨-, h2⟩ := cs_in hu
    obtain ⟨-, -, -, r, hr⟩ := h2 (by omega)
    refine ⟨r, ?_⟩
    rw [show L - (i + 1) = L - i - 1 by omega]
    exact hr
set_option maxRecDepth 100000 in
set_option maxHeartbeats 4000000 in
theorem lp_X4_layOut {sh : SH} {mi : MI} {mr : MR} (hB : ba_c sh mr) (N W gp : Nat) (ww : Nat → Nat) (hN20 : N ≤ 20) (L : Nat) (hL6 : L ≤ 6) (hv : 1 ≤ L → ∃ v, cs_w N W gp ww L 0 = some v) (hrow : ∀ l, 1 ≤ l → l ≤ L → ∀ j, j ≤ N → mi 20 (l * 21 + j) = nI (fw_w N W gp ww l j)) : ∀ i, i ≤ L → ∀ m, (∀ a c, a ≠ 15 → ¬ (a = 12 ∧ c = 4) → m a c = mi a c) → m 12 4 = nI L → (∀ j, j < i → m 15 j = nI (fw_w N W gp ww (L - j) (fr_w N W gp ww L j))) → EV none 0 0 0 mX4_layOut 9 [some (pv_r 12), some (pv_i (nI L)), some (pv_i (nI (fr_w N W gp ww L i))), some (pv_i (nI i))] [] sh m mr (fun v_ sh_ mi_ mr_ => v_ = none ∧ sh_ = sh ∧ mr_ = mr ∧ (∀ a c, a ≠ 15 → ¬ (a = 12 ∧ c = 4) → mi_ a c = mi a c) ∧ mi_ 12 4 = nI L ∧ ∀ i, i < L → mi_ 15 i = nI (fw_w N W gp ww (L - i) (fr_w N W gp ww L i))) := by
  refine lp_i L (fun i hi ih => ?_)
  intro m hag hL hd
  refine ev_iload_n dX4_layOut_9 rfl ?_
  refine ev_aload_n dX4_layOut_10 rfl ?_
  refine ev_geti dX4_layOut_11 fl_X4_25 rfl (hB.1 12 _ rfl) ?_
  refine ev_icmp_ge (tgt := 54) dX4_layOut_14 rfl (fun h14 => ?_) (fun h14 => ?_)
  · have hin : L ≤ i := (nl_le hL (b := i) rfl (by omega) (by omega)).mp h14
    exact ev_return dX4_layOut_54 rfl ⟨rfl, rfl, rfl, hag, hL, fun j hj => hd j (by omega)⟩
  · have hlt : i < L := by have := (not_congr (nl_le hL (b := i) rfl (by omega) (by omega))).mp h14; omega
    obtain ⟨v0, hv0⟩ := hv (by omega)
    obtain ⟨u, hu⟩ := fr_ok hv0 i (by omega)
    obtain ⟨hf1, hf2⟩ := cs_in hu
    obtain ⟨hf3, hf4, hf5, -⟩ := hf2 (by omega)
    have hrd : m 20 ((L - i) * 21 + (fr_w N W gp ww L i)) = nI (fw_w N W gp ww (L - i) (fr_w N W gp ww L i)) := (hag 20 _ (by decide) (by omega)).trans (hrow (L - i) (by omega) (by omega) _ hf1)
    refine ev_aload_n dX4_layOut_17 rfl ?_
    refine ev_getq dX4_layOut_18 fl_X4_18 rfl (hB.1 12 _ rfl) (hB.2 12 2 _ rfl) ?_
    refine ev_iload_n dX4_layOut_21 rfl ?_
    refine ev_aload_n dX4_layOut_22 rfl ?_
    refine ev_getq dX4_layOut_23 fl_X4_43 rfl (hB.1 12 _ rfl) (hB.2 12 10 _ rfl) ?_
    refine ev_aload_n dX4_layOut_26 rfl ?_
    refine ev_geti dX4_layOut_27 fl_X4_25 rfl (hB.1 12 _ rfl) ?_
    refine ev_iload_n dX4_layOut_30 rfl ?_
    refine ev_isub dX4_layOut_31 ?_
    refine ev_bipush (v := 21) dX4_layOut_32 rfl ?_
    refine ev_imul dX4_layOut_34 ?_
    refine ev_iload_n dX4_layOut_35 rfl ?_
    refine ev_iadd dX4_layOut_36 ?_
    refine ev_iald dX4_layOut_37 (hB.1 20 _ rfl) (j := (L - i) * 21 + (fr_w N W gp ww L i)) (by rw [hL, pk_sub (by omega), n_21, pk_mul, nI_add]) (by omega) (by decide) ?_
    refine ev_iast dX4_layOut_38 (hB.1 15 _ rfl) (j := i) rfl (by omega) (by decide) ?_
    refine ev_iload_n dX4_layOut_39 rfl ?_
    refine ev_aload_n dX4_layOut_40 rfl ?_
    refine ev_getq dX4_layOut_41 fl_X4_18 rfl (hB.1 12 _ rfl) (hB.2 12 2 _ rfl) ?_
    refine ev_iload_n dX4_layOut_44 rfl ?_
    refine ev_iald dX4_layOut_45 (hB.1 15 _ rfl) (j := i) rfl (by omega) (by decide) ?_
    refine ev_iadd dX4_layOut_46 ?_
    refine ev_istore_n dX4_layOut_47 (by decide) ?_
    refine ev_iincN dX4_layOut_48 rfl (by decide) ?_
    refine ev_goto (tgt := 9) dX4_layOut_51 rfl ?_
    rw [up_at, hrd, nI_add]
    refine ih hlt _ (fun a c h1 h2 => (up_ne (Or.inl h1)).trans (hag a c h1 h2)) ((up_ne (Or.inl (by decide))).trans hL) (fun j hj => ?_)
    by_cases e : j = i
    · subst e; exact up_at
    · exact (up_ne (Or.inr e)).trans (hd j (by omega))
set_option maxRecDepth 100000 in
set_option maxHeartbeats 4000000 in
theorem t_X4_layOut {sh : SH} {mi : MI} {mr : MR} (hB : ba_c sh mr) (N W gp : Nat) (ww : Nat → Nat) (hN20 : N ≤ 20) (L : Nat) (hL6 : L ≤ 6) (hv : 1 ≤ L → ∃ v, cs_w N W gp ww L 0 = some v) (hrow : ∀ l, 1 ≤ l → l ≤ L → ∀ j, j ≤ N → mi 20 (l * 21 + j) = nI (fw_w N W gp ww l j)) : EV none 0 0 0 mX4_layOut 0 (en_l mX4_layOut [pv_r 12, pv_i (nI L)]) [] sh mi mr (fun v_ sh_ mi_ mr_ => v_ = none ∧ sh_ = sh ∧ mr_ = mr ∧ (∀ a c, a ≠ 15 → ¬ (a = 12 ∧ c = 4) → mi_ a c = mi a c) ∧ mi_ 12 4 = nI L ∧ ∀ i, i < L → mi_ 15 i = nI (fw_w N W gp ww (L - i) (fr_w N W gp ww L i))) := by
  show EV none 0 0 0 mX4_layOut 0 [some (pv_r 12), some (pv_i (nI L)), none, none] [] sh mi mr _
  refine ev_aload_n dX4_layOut_0 rfl ?_
  refine ev_iload_n dX4_layOut_1 rfl ?_
  refine ev_puti dX4_layOut_2 fl_X4_25 rfl rfl (hB.1 12 _ rfl) ?_
  refine ev_iconst (v := 0) dX4_layOut_5 rfl ?_
  refine ev_istore_n dX4_layOut_6 (by decide) ?_
  refine ev_iconst (v := 0) dX4_layOut_7 rfl ?_
  refine ev_istore_n dX4_layOut_8 (by decide) ?_
  exact lp_X4_layOut hB N W gp ww hN20 L hL6 hv hrow 0 (Nat.zero_le L) _ (fun a c h1 h2 => by simp only [up_2]; rw [if_neg h2]) up_at (fun j hj => by omega)
theorem ix_21 {l l2 j f : Nat} (hj : j ≤ 20) (hf : f ≤ 20) (h : l2 * 21 + j = l * 21 + f) : l2 = l ∧ j = f := by omega
set_option maxRecDepth 100000 in
set_option maxHeartbeats 4000000 in
theorem lp_X4_break3 {sh : SH} {mi : MI} {mr : MR} (hB : ba_c sh mr) (N gp W : Nat) (ww : Nat → Nat) (hN : mi 12 11 = nI N) (hN20 : N ≤ 20) (hN1 : 1 ≤ N) (hgp : mi 13 0 = nI gp) (hgp20 : gp ≤ 20) (hW : W ≤ 400) (hww : ∀ i, i < N → mi 18 i = nI (ww i)) (hwb : ∀ i, i < N → ww i ≤ 800) (K : Nat) (hK6 : K ≤ 6) (l : Nat) (hl1 : 1 ≤ l) (hlK : l ≤ K) (hc : ∀ m, (∀ a c, a ≠ 19 → a ≠ 20 → m a c = mi a c) → (∀ l2, l2 < (l + 1) → ∀ j, j ≤ N → m 19 (l2 * 21 + j) = nI (en_c (cs_w N W gp ww l2 j)) ∧ (1 ≤ l2 → m 20 (l2 * 21 + j) = nI (fw_w N W gp ww l2 j))) → EV none 1 0 0 mX4_breakUp 84 [some (pv_r 12), some (pv_i (nI W)), some (pv_i (nI K)), some (pv_i (nI (bl_w N W gp ww (l - 1)))), some (pv_i (nI l)), none] [] sh m mr (fun v_ sh_ mi_ mr_ => v_ = some (pv_i (if (bl_w N W gp ww K) = 0 then -1 else nI (en_c (cs_w N W gp ww (bl_w N W gp ww K) 0)))) ∧ sh_ = sh ∧ mr_ = mr ∧ (∀ a c, a ≠ 15 → a ≠ 19 → a ≠ 20 → ¬ (a = 12 ∧ c = 4) → mi_ a c = mi a c) ∧ mi_ 12 4 = nI (bl_w N W gp ww K) ∧ ∀ i, i < (bl_w N W gp ww K) → mi_ 15 i = nI (fw_w N W gp ww ((bl_w N W gp ww K) - i) (fr_w N W gp ww (bl_w N W gp ww K) i)))) : ∀ f, f ≤ N + 1 → ∀ m, (∀ a c, a ≠ 19 → a ≠ 20 → m a c = mi a c) → (∀ l2, l2 < l → ∀ j, j ≤ N → m 19 (l2 * 21 + j) = nI (en_c (cs_w N W gp ww l2 j)) ∧ (1 ≤ l2 → m 20 (l2 * 21 + j) = nI (fw_w N W gp ww l2 j))) → (∀ j, j < f → m 19 (l * 21 + j) = nI (en_c (cs_w N W gp ww l j)) ∧ m 20 (l * 21 + j) = nI (fw_w N W gp ww l j)) → EV none 1 0 0 mX4_breakUp 60 [some (pv_r 12), some (pv_i (nI W)), some (pv_i (nI K)), some (pv_i (nI (bl_w N W gp ww (l - 1)))), some (pv_i (nI l)), some (pv_i (nI f))] [] sh m mr (fun v_ sh_ mi_ mr_ => v_ = some (pv_i (if (bl_w N W gp ww K) = 0 then -1 else nI (en_c (cs_w N W gp ww (bl_w N W gp ww K) 0)))) ∧ sh_ = sh ∧ mr_ = mr ∧ (∀ a c, a ≠ 15 → a ≠ 19 → a ≠ 20 → ¬ (a = 12 ∧ c = 4) → mi_ a c = mi a c) ∧ mi_ 12 4 = nI (bl_w N W gp ww K) ∧ ∀ i, i < (bl_w N W gp ww K) → mi_ 15 i = nI (fw_w N W gp ww ((bl_w N W gp ww K) - i) (fr_w N W gp ww (bl_w N W gp ww K) i))) := by
  refine lp_i (N + 1) (fun f hf0 ih => ?_)
  intro m hag hr hrf
  refine ev_iload dX4_breakUp_60 rfl ?_
  refine ev_aload_n dX4_breakUp_62 rfl ?_
  refine ev_geti dX4_breakUp_63 fl_X4_46 rfl (hB.1 12 _ rfl) ?_
  refine ev_icmp_gt (tgt := 84) dX4_breakUp_66 rfl (fun h66 => ?_) (fun h66 => ?_)
  · have hin : N < f := (nl_lt ((hag 12 11 (by decide) (by decide)).trans hN) (b := f) rfl (by omega) (by omega)).mp h66
    exact ev_fg 5 (hc m hag (fun l2 hl2 j hj => by
      by_cases e : l2 = l
      · subst e; exact ⟨(hrf j (by omega)).1, fun _ => (hrf j (by omega)).2⟩
      · exact hr l2 (by omega) j hj))
  · have hlt : f ≤ N := by have := (not_congr (nl_lt ((hag 12 11 (by decide) (by decide)).trans hN) (b := f) rfl (by omega) (by omega))).mp h66; omega
    refine ev_aload_n dX4_breakUp_69 rfl ?_
    refine ev_iload dX4_breakUp_70 rfl ?_
    refine ev_iload dX4_breakUp_72 rfl ?_
    refine ev_iload_n dX4_breakUp_74 rfl ?_
    refine ev_v3n dX4_breakUp_75 cv_X4_54 (hB.1 12 _ rfl) (Nat.le_of_ble_eq_true rfl) (by decide) (t_X4_weigh (mi := m) hB N gp W ww ((hag 12 11 (by decide) (by decide)).trans hN) hN20 ((hag 13 0 (by decide) (by decide)).trans hgp) hgp20 hW (fun i hi => (hag 18 i (by decide) (by decide)).trans (hww i hi)) hwb l f hl1 (by omega) (by omega) (cs_w N W gp ww (l - 1)) (fun j v hv => by have h1 := cs_bd hW (l - 1) j v hv; have h2 : (l - 1) * 160000 ≤ 6 * 160000 := Nat.mul_le_mul_right _ (by omega); omega) (fun j hj => (hr (l - 1) (by omega) j hj).1)) ?_
    refine ev_iincN dX4_breakUp_78 rfl (by decide) ?_
    refine ev_goto (tgt := 60) dX4_breakUp_81 rfl ?_
    refine ih (by omega) _ (fun a c h1 h2 => (up_ne (Or.inl h2)).trans ((up_ne (Or.inl h1)).trans (hag a c h1 h2))) (fun l2 hl2 j hj => ?_) (fun j hj => ?_)
    · have h3 := hr l2 hl2 j hj
      exact ⟨(up_ne (Or.inl (by decide))).trans ((up_ne (Or.inr (by omega))).trans h3.1), fun q => (up_ne (Or.inr (by omega))).trans ((up_ne (Or.inl (by decide))).trans (h3.2 q))⟩
    · by_cases e : j = f
      · subst e
        exact ⟨(up_ne (Or.inl (by decide))).trans (up_at.trans (by rw [cs_l hl1])), up_at.trans (by rw [fw_e])⟩
      · have h3 := hrf j (by omega)
        exact ⟨(up_ne (Or.inl (by decide))).trans ((up_ne (Or.inr (by omega))).trans h3.1), (up_ne (Or.inr (by omega))).trans ((up_ne (Or.inl (by decide))).trans h3.2)⟩
theorem bl_t {N W gp : Nat} {ww : Nat → Nat} {l : Nat} (h : 1 ≤ l) (h2 : en_c (cs_w N W gp ww l 0) < en_c (cs_w N W gp ww (bl_w N W gp ww (l - 1)) 0)) : bl_w N W gp ww l = l := by
  obtain ⟨m, rfl⟩ : ∃ m, l = m + 1 := ⟨l - 1, by omega⟩
  rw [Nat.add_sub_cancel] at h2
  unfold bl_w
  rw [if_pos h2]
theorem bl_f {N W gp : Nat} {ww : Nat → Nat} {l : Nat} (h : 1 ≤ l) (h2 : ¬ en_c (cs_w N W gp ww l 0) < en_c (cs_w N W gp ww (bl_w N W gp ww (l - 1)) 0)) : bl_w N W gp ww l = bl_w N W gp ww (l - 1) := by
  obtain ⟨m, rfl⟩ : ∃ m, l = m + 1 := ⟨l - 1, by omega⟩
  rw [Nat.add_sub_cancel] at h2 ⊢
  conv => lhs; unfold bl_w
  rw [if_neg h2]
set_option maxRecDepth 100000 in
set_option maxHeartbeats 4000000 in
theorem lp_X4_break2 {sh : SH} {mi : MI} {mr : MR} (hB : ba_c sh mr) (N gp W : Nat) (ww : Nat → Nat) (hN : mi 12 11 = nI N) (hN20 : N ≤ 20) (hN1 : 1 ≤ N) (hgp : mi 13 0 = nI gp) (hgp20 : gp ≤ 20) (hW : W ≤ 400) (hww : ∀ i, i < N → mi 18 i = nI (ww i)) (hwb : ∀ i, i < N → ww i ≤ 800) (K : Nat) (hK6 : K ≤ 6) : ∀ l, l ≤ K + 1 → 1 ≤ l → ∀ m, (∀ a c, a ≠ 19 → a ≠ 20 → m a c = mi a c) → (∀ l2, l2 < l → ∀ j, j ≤ N → m 19 (l2 * 21 + j) = nI (en_c (cs_w N W gp ww l2 j)) ∧ (1 ≤ l2 → m 20 (l2 * 21 + j) = nI (fw_w N W gp ww l2 j))) → EV none 1 0 0 mX4_breakUp 51 [some (pv_r 12), some (pv_i (nI W)), some (pv_i (nI K)), some (pv_i (nI (bl_w N W gp ww (l - 1)))), some (pv_i (nI l)), none] [] sh m mr (fun v_ sh_ mi_ mr_ => v_ = some (pv_i (if (bl_w N W gp ww K) = 0 then -1 else nI (en_c (cs_w N W gp ww (bl_w N W gp ww K) 0)))) ∧ sh_ = sh ∧ mr_ = mr ∧ (∀ a c, a ≠ 15 → a ≠ 19 → a ≠ 20 → ¬ (a = 12 ∧ c = 4) → mi_ a c = mi a c) ∧ mi_ 12 4 = nI (bl_w N W gp ww K) ∧ ∀ i, i < (bl_w N W gp ww K) → mi_ 15 i = nI (fw_w N W gp ww ((bl_w N W gp ww K) - i) (fr_w N W gp ww (bl_w N W gp ww K) i))) := by
  refine lp_i (K + 1) (fun l hl0 ih => ?_)
  intro hl1 m hag hr
  refine ev_iload dX4_breakUp_51 rfl ?_
  refine ev_iload_n dX4_breakUp_53 rfl ?_
  refine ev_icmp_gt (tgt := 115) dX4_breakUp_54 rfl (fun h54 => ?_) (fun h54 => ?_)
  · have hin : K < l := (nl_lt (x := nI K) rfl (b := l) rfl (by omega) (by omega)).mp h54
    have ekl : l - 1 = K := by omega
    refine ev_aload_n dX4_breakUp_115 rfl ?_
    refine ev_iload_n dX4_breakUp_116 rfl ?_
    refine ev_callv (av := [pv_i (nI (bl_w N W gp ww (l - 1)))]) dX4_breakUp_117 cv_X4_58 (hB.1 12 _ rfl) rfl rfl (Nat.le_of_ble_eq_true rfl) (by decide) (Or.inl (fun v_ s_ m_ r_ h_ => by rw [h_.2.1])) (Nat.zero_add _) (Nat.zero_add _) (t_X4_layOut (mi := m) hB N W gp ww hN20 (bl_w N W gp ww (l - 1)) (by have := bl_le (N := N) (W := W) (gp := gp) (ww := ww) (l - 1); omega) (fun q => bl_some hW (l - 1) (by omega) (by omega)) (fun l2 h1 h2 j hj => (hr l2 (by have := bl_le (N := N) (W := W) (gp := gp) (ww := ww) (l - 1); omega) j hj).2 h1)) ?_
    rintro v_ sh_ m3 mr_ ⟨e1_, e2_, e3_, hY, hY2, hY3⟩
    subst e1_
    have e2_ := e2_.symm
    subst e2_
    have e3_ := e3_.symm
    subst e3_
    refine ev_iload_n dX4_breakUp_120 rfl ?_
    refine ev_if_ne (tgt := 128) dX4_breakUp_121 rfl (fun h121 => ?_) (fun h121 => ?_)
    · refine ev_aload_n dX4_breakUp_128 rfl ?_
      refine ev_getq dX4_breakUp_129 fl_X4_40 rfl (hB.1 12 _ rfl) (hB.2 12 9 _ rfl) ?_
      refine ev_iload_n dX4_breakUp_132 rfl ?_
      refine ev_bipush (v := 21) dX4_breakUp_133 rfl ?_
      refine ev_imul dX4_breakUp_135 ?_
      refine ev_iald dX4_breakUp_136 (hB.1 19 _ rfl) (j := (bl_w N W gp ww (l - 1)) * 21) (by rw [n_21, pk_mul]) (by have := bl_le (N := N) (W := W) (gp := gp) (ww := ww) (l - 1); omega) (by decide) ?_
      exact ev_ireturn (ty := .int) dX4_breakUp_137 rfl rfl ⟨by rw [if_neg (by rw [← ekl]; exact fun e => h121 (by rw [e]; rfl)), hY 19 _ (by decide) (by omega)]; have h9 := (hr (bl_w N W gp ww (l - 1)) (by have := bl_le (N := N) (W := W) (gp := gp) (ww := ww) (l - 1); omega) 0 (by omega)).1; rw [Nat.add_zero] at h9; rw [h9, ekl], rfl, rfl, fun a c h1 h2 h3 h4 => (hY a c h1 h4).trans (hag a c h2 h3), by rw [← ekl]; exact hY2, by rw [← ekl]; exact hY3⟩
    · refine ev_iconst (v := (-1)) dX4_breakUp_124 rfl ?_
      refine ev_goto (tgt := 137) dX4_breakUp_125 rfl ?_
      exact ev_ireturn (ty := .int) dX4_breakUp_137 rfl rfl ⟨by rw [if_pos (by rw [← ekl]; exact (nI_eq (b := 0) (by have := bl_le (N := N) (W := W) (gp := gp) (ww := ww) (l - 1); omega) (by decide)).mp h121)], rfl, rfl, fun a c h1 h2 h3 h4 => (hY a c h1 h4).trans (hag a c h2 h3), by rw [← ekl]; exact hY2, by rw [← ekl]; exact hY3⟩
  · have hlt : l ≤ K := by have := (not_congr (nl_lt (x := nI K) rfl (b := l) rfl (by omega) (by omega))).mp h54; omega
    refine ev_iconst (v := 0) dX4_breakUp_57 rfl ?_
    refine ev_istore dX4_breakUp_58 (by decide) ?_
    refine lp_X4_break3 hB N gp W ww hN hN20 hN1 hgp hgp20 hW hww hwb K hK6 l hl1 hlt (fun m2 hag2 hr2 => ?_) 0 (Nat.zero_le _) m hag hr (fun j hj => by omega)
    refine ev_aload_n dX4_breakUp_84 rfl ?_
    refine ev_getq dX4_breakUp_85 fl_X4_40 rfl (hB.1 12 _ rfl) (hB.2 12 9 _ rfl) ?_
    refine ev_iload dX4_breakUp_88 rfl ?_
    refine ev_bipush (v := 21) dX4_breakUp_90 rfl ?_
    refine ev_imul dX4_breakUp_92 ?_
    refine ev_iald dX4_breakUp_93 (hB.1 19 _ rfl) (j := l * 21) (by rw [n_21, pk_mul]) (by omega) (by decide) ?_
    refine ev_aload_n dX4_breakUp_94 rfl ?_
    refine ev_getq dX4_breakUp_95 fl_X4_40 rfl (hB.1 12 _ rfl) (hB.2 12 9 _ rfl) ?_
    refine ev_iload_n dX4_breakUp_98 rfl ?_
    refine ev_bipush (v := 21) dX4_breakUp_99 rfl ?_
    refine ev_imul dX4_breakUp_101 ?_
    refine ev_iald dX4_breakUp_102 (hB.1 19 _ rfl) (j := (bl_w N W gp ww (l - 1)) * 21) (by rw [n_21, pk_mul]) (by have := bl_le (N := N) (W := W) (gp := gp) (ww := ww) (l - 1); omega) (by decide) ?_
    refine ev_icmp_ge (tgt := 109) dX4_breakUp_103 rfl (fun h103 => ?_) (fun h103 => ?_)
    · refine ev_iincN dX4_breakUp_109 rfl (by decide) ?_
      refine ev_goto (tgt := 51) dX4_breakUp_112 rfl ?_
      have hb0 := (hr2 l (by omega) 0 (by omega)).1
      have hb1 := (hr2 (bl_w N W gp ww (l - 1)) (by have := bl_le (N := N) (W := W) (gp := gp) (ww := ww) (l - 1); omega) 0 (by omega)).1
      rw [Nat.add_zero] at hb0 hb1
      rw [hb0, hb1] at h103
      have he0 := en_le (N := N) (gp := gp) (ww := ww) hW (f := 0) (l := l) (by omega)
      have he1 := en_le (N := N) (gp := gp) (ww := ww) hW (f := 0) (l := (bl_w N W gp ww (l - 1))) (by have := bl_le (N := N) (W := W) (gp := gp) (ww := ww) (l - 1); omega)
      have q := ih (by omega) (by omega) m2 hag2 hr2
      rw [show (bl_w N W gp ww (l + 1 - 1)) = (bl_w N W gp ww (l - 1)) by rw [Nat.add_sub_cancel]; exact bl_f hl1 (by have := (nI_leI (by omega) (by omega)).mp h103; omega)] at q
      exact q
    · refine ev_iload dX4_breakUp_106 rfl ?_
      refine ev_istore_n dX4_breakUp_108 (by decide) ?_
      refine ev_iincN dX4_breakUp_109 rfl (by decide) ?_
      refine ev_goto (tgt := 51) dX4_breakUp_112 rfl ?_
      have hb0 := (hr2 l (by omega) 0 (by omega)).1
      have hb1 := (hr2 (bl_w N W gp ww (l - 1)) (by have := bl_le (N := N) (W := W) (gp := gp) (ww := ww) (l - 1); omega) 0 (by omega)).1
      rw [Nat.add_zero] at hb0 hb1
      rw [hb0, hb1] at h103
      have he0 := en_le (N := N) (gp := gp) (ww := ww) hW (f := 0) (l := l) (by omega)
      have he1 := en_le (N := N) (gp := gp) (ww := ww) hW (f := 0) (l := (bl_w N W gp ww (l - 1))) (by have := bl_le (N := N) (W := W) (gp := gp) (ww := ww) (l - 1); omega)
      have q := ih (by omega) (by omega) m2 hag2 hr2
      rw [show (bl_w N W gp ww (l + 1 - 1)) = l by rw [Nat.add_sub_cancel]; exact bl_t hl1 (by have := (not_congr (nI_leI (by omega) (by omega))).mp h103; omega)] at q
      exact q
set_option maxRecDepth 100000 in
set_option maxHeartbeats 4000000 in
theorem lp_X4_break1 {sh : SH} {mi : MI} {mr : MR} (hB : ba_c sh mr) (N gp W : Nat) (ww : Nat → Nat) (hN : mi 12 11 = nI N) (hN20 : N ≤ 20) (hN1 : 1 ≤ N) (hgp : mi 13 0 = nI gp) (hgp20 : gp ≤ 20) (hW : W ≤ 400) (hww : ∀ i, i < N → mi 18 i = nI (ww i)) (hwb : ∀ i, i < N → ww i ≤ 800) (K : Nat) (hK6 : K ≤ 6) : ∀ i, i ≤ N + 1 → ∀ m, (∀ a c, a ≠ 19 → m a c = mi a c) → (∀ j, j < i → m 19 j = nI (en_c (cs_w N W gp ww 0 j))) → EV none 1 0 0 mX4_breakUp 12 [some (pv_r 12), some (pv_i (nI W)), some (pv_i (nI K)), some (pv_i (nI i)), none, none] [] sh m mr (fun v_ sh_ mi_ mr_ => v_ = some (pv_i (if (bl_w N W gp ww K) = 0 then -1 else nI (en_c (cs_w N W gp ww (bl_w N W gp ww K) 0)))) ∧ sh_ = sh ∧ mr_ = mr ∧ (∀ a c, a ≠ 15 → a ≠ 19 → a ≠ 20 → ¬ (a = 12 ∧ c = 4) → mi_ a c = mi a c) ∧ mi_ 12 4 = nI (bl_w N W gp ww K) ∧ ∀ i, i < (bl_w N W gp ww K) → mi_ 15 i = nI (fw_w N W gp ww ((bl_w N W gp ww K) - i) (fr_w N W gp ww (bl_w N W gp ww K) i))) := by
  refine lp_i (N + 1) (fun i hi ih => ?_)
  intro m hag hz
  have hN2 : m 12 11 = nI N := (hag 12 11 (by decide)).trans hN
  refine ev_iload_n dX4_breakUp_12 rfl ?_
  refine ev_aload_n dX4_breakUp_13 rfl ?_
  refine ev_geti dX4_breakUp_14 fl_X4_46 rfl (hB.1 12 _ rfl) ?_
  refine ev_icmp_gt (tgt := 46) dX4_breakUp_17 rfl (fun h17 => ?_) (fun h17 => ?_)
  · have hin : N < i := (nl_lt hN2 (b := i) rfl (by omega) (by omega)).mp h17
    refine ev_iconst (v := 0) dX4_breakUp_46 rfl ?_
    refine ev_istore_n dX4_breakUp_47 (by decide) ?_
    refine ev_iconst (v := 1) dX4_breakUp_48 rfl ?_
    refine ev_istore dX4_breakUp_49 (by decide) ?_
    have q := lp_X4_break2 hB N gp W ww hN hN20 hN1 hgp hgp20 hW hww hwb K hK6 1 (by omega) (by decide) m (fun a c h1 h2 => hag a c h1) (fun l2 hl2 j hj => ⟨by rw [show l2 = 0 by omega, Nat.zero_mul, Nat.zero_add]; exact hz j (by omega), fun q => by omega⟩)
    exact q
  · have hlt : i ≤ N := by have := (not_congr (nl_lt hN2 (b := i) rfl (by omega) (by omega))).mp h17; omega
    refine ev_aload_n dX4_breakUp_20 rfl ?_
    refine ev_getq dX4_breakUp_21 fl_X4_40 rfl (hB.1 12 _ rfl) (hB.2 12 9 _ rfl) ?_
    refine ev_iload_n dX4_breakUp_24 rfl ?_
    refine ev_iload_n dX4_breakUp_25 rfl ?_
    refine ev_aload_n dX4_breakUp_26 rfl ?_
    refine ev_geti dX4_breakUp_27 fl_X4_46 rfl (hB.1 12 _ rfl) ?_
    refine ev_icmp_ne (tgt := 37) dX4_breakUp_30 rfl (fun h30 => ?_) (fun h30 => ?_)
    · refine ev_ldc dX4_breakUp_37 kc_X4_53 ?_
      refine ev_iast dX4_breakUp_39 (hB.1 19 _ rfl) (j := i) rfl (by omega) (by decide) ?_
      refine ev_iincN dX4_breakUp_40 rfl (by decide) ?_
      refine ev_goto (tgt := 12) dX4_breakUp_43 rfl ?_
      have h0 : ¬ i = N := (not_congr (nl_eq (x := nI i) rfl hN2 (by omega) (by omega))).mp h30
      refine ih (by omega) _ (fun a c h1 => (up_ne (Or.inl h1)).trans (hag a c h1)) (fun j hj => ?_)
      by_cases e : j = i
      · subst e; rw [up_at, show cs_w N W gp ww 0 j = none from if_neg h0]; rfl
      · exact (up_ne (Or.inr e)).trans (hz j (by omega))
    · refine ev_iconst (v := 0) dX4_breakUp_33 rfl ?_
      refine ev_goto (tgt := 39) dX4_breakUp_34 rfl ?_
      refine ev_iast dX4_breakUp_39 (hB.1 19 _ rfl) (j := i) rfl (by omega) (by decide) ?_
      refine ev_iincN dX4_breakUp_40 rfl (by decide) ?_
      refine ev_goto (tgt := 12) dX4_breakUp_43 rfl ?_
      have h0 : i = N := (nl_eq (x := nI i) rfl hN2 (by omega) (by omega)).mp h30
      refine ih (by omega) _ (fun a c h1 => (up_ne (Or.inl h1)).trans (hag a c h1)) (fun j hj => ?_)
      by_cases e : j = i
      · subst e; rw [up_at, show cs_w N W gp ww 0 j = some 0 from if_pos h0]; rfl
      · exact (up_ne (Or.inr e)).trans (hz j (by omega))
set_option maxRecDepth 100000 in
set_option maxHeartbeats 4000000 in
theorem t_X4_breakUp {sh : SH} {mi : MI} {mr : MR} (hB : ba_c sh mr) (n : Nat) (hn : mi 12 3 = nI n) (hn40 : n ≤ 40) (tx : Nat → Nat) (htx : ∀ i, i < n → mi 16 i = nI (tx i) ∧ tx i ≤ 26) (w : Nat → Nat) (hw : ∀ k, k ≤ 26 → mi 13 k = nI (w k)) (hw20 : ∀ k, k ≤ 26 → w k ≤ 20) (W K : Nat) (hW : W ≤ 400) (hK6 : K ≤ 6) : EV none 1 0 0 mX4_breakUp 0 (en_l mX4_breakUp [pv_r 12, pv_i (nI W), pv_i (nI K)]) [] sh mi mr (fun v_ sh_ mi_ mr_ => sh_ = sh ∧ mr_ = mr ∧ ((wc tx n = 0 ∧ v_ = some (pv_i (-4)) ∧ iw 12 18 11 tx w mi mi_ n) ∨ (wc tx n ≠ 0 ∧ v_ = some (pv_i (if (bl_w (wc tx n) W (w 0) (wx tx w n) K) = 0 then -1 else nI (en_c (cs_w (wc tx n) W (w 0) (wx tx w n) (bl_w (wc tx n) W (w 0) (wx tx w n) K) 0)))) ∧ (∀ a c, a ≠ 15 → a ≠ 18 → a ≠ 19 → a ≠ 20 → ¬ (a = 12 ∧ (c = 4 ∨ c = 11)) → mi_ a c = mi a c) ∧ mi_ 12 4 = nI (bl_w (wc tx n) W (w 0) (wx tx w n) K) ∧ ∀ i, i < (bl_w (wc tx n) W (w 0) (wx tx w n) K) → mi_ 15 i = nI (fw_w (wc tx n) W (w 0) (wx tx w n) ((bl_w (wc tx n) W (w 0) (wx tx w n) K) - i) (fr_w (wc tx n) W (w 0) (wx tx w n) (bl_w (wc tx n) W (w 0) (wx tx w n) K) i))))) := by
  show EV none 1 0 0 mX4_breakUp 0 [some (pv_r 12), some (pv_i (nI W)), some (pv_i (nI K)), none, none, none] [] sh mi mr _
  refine ev_aload_n dX4_breakUp_0 rfl ?_
  refine ev_callv (av := []) dX4_breakUp_1 cv_X4_49 (hB.1 12 _ rfl) rfl rfl (Nat.le_of_ble_eq_true rfl) (by decide) (Or.inl (fun v_ s_ m_ r_ h_ => by rw [h_.2.1])) (Nat.zero_add _) (Nat.zero_add _) (t_X4_readWords hB n hn hn40 tx htx w hw) ?_
  rintro v_ sh_ m1 mr_ ⟨e1_, e2_, e3_, hI⟩
  subst e1_
  have e2_ := e2_.symm
  subst e2_
  have e3_ := e3_.symm
  subst e3_
  have hwc := wc_b tx n
  refine ev_if_ne (tgt := 10) dX4_breakUp_4 rfl (fun h4 => ?_) (fun h4 => ?_)
  · refine ev_iconst (v := 0) dX4_breakUp_10 rfl ?_
    refine ev_istore_n dX4_breakUp_11 (by decide) ?_
    have h0 : wc tx n ≠ 0 := fun e => h4 (by rw [e]; rfl)
    have q := lp_X4_break1 (mi := m1) hB (wc tx n) (w 0) W (wx tx w n) hI.2.1 (by omega) (by omega) ((hI.1 13 0 (by decide) (by decide)).trans (hw 0 (by decide))) (hw20 0 (by decide)) hW hI.2.2 (fun i hi => by have := wx_bn hw20 (fun i hi => (htx i hi).2) n (Nat.le_refl n) i; omega) K hK6 0 (Nat.zero_le _) m1 (fun _ _ _ => rfl) (fun j hj => by omega)
    exact ev_post (fun v_ s_ m_ r_ h_ => ⟨h_.2.1, h_.2.2.1, Or.inr ⟨h0, h_.1, fun a c a1 a2 a3 a4 a5 => (h_.2.2.2.1 a c a1 a3 a4 (by omega)).trans (hI.1 a c a2 (by omega)), h_.2.2.2.2.1, h_.2.2.2.2.2⟩⟩) q
  · refine ev_bipush (v := (-4)) dX4_breakUp_7 rfl ?_
    exact ev_ireturn (ty := .int) dX4_breakUp_9 rfl rfl ⟨rfl, rfl, Or.inl ⟨(nI_eq (b := 0) (by omega) (by decide)).mp h4, rfl, hI⟩⟩
set_option maxRecDepth 100000 in
set_option maxHeartbeats 4000000 in
theorem t_X5_broken_o {sh : SH} {mi : MI} {mr : MR} (hB : ba_c sh mr) (p1 p2 : Int32) (hv : ¬ ((1 ≤ p1 ∧ p1 ≤ 400) ∧ 1 ≤ p2 ∧ p2 ≤ 6)) : EV none 2 0 0 mX5_broken 0 (en_l mX5_broken [pv_r 0, pv_i p1, pv_i p2]) [] sh mi mr (ok_r sh mr (-3) mi) := by
  show EV none 2 0 0 mX5_broken 0 [some (pv_r 0), some (pv_i p1), some (pv_i p2)] [] sh mi mr _
  refine ev_iload_n dX5_broken_0 rfl ?_
  refine ev_iconst (v := 1) dX5_broken_1 rfl ?_
  refine ev_sipush (v := 400) dX5_broken_2 rfl ?_
  refine ev_s3i dX5_broken_5 cs_X5_57 (Nat.le_of_ble_eq_true rfl) (by decide) (t_X5_within _ _ _) ?_
  refine ev_ifb_eq (tgt := 21) dX5_broken_8 rfl (fun h8 => ?_) (fun h8 => ?_)
  · refine ev_bipush (v := (-3)) dX5_broken_21 rfl ?_
    exact ev_ireturn (ty := .int) dX5_broken_23 rfl rfl ⟨rfl, rfl, rfl, rfl⟩
  · refine ev_iload_n dX5_broken_11 rfl ?_
    refine ev_iconst (v := 1) dX5_broken_12 rfl ?_
    refine ev_bipush (v := 6) dX5_broken_13 rfl ?_
    refine ev_s3i dX5_broken_15 cs_X5_57 (Nat.le_of_ble_eq_true rfl) (by decide) (t_X5_within _ _ _) ?_
    refine ev_ifb_ne (tgt := 24) dX5_broken_18 rfl (fun h18 => ?_) (fun h18 => ?_)
    · exact absurd ⟨h8, h18⟩ hv
    · refine ev_bipush (v := (-3)) dX5_broken_21 rfl ?_
      exact ev_ireturn (ty := .int) dX5_broken_23 rfl rfl ⟨rfl, rfl, rfl, rfl⟩
set_option maxRecDepth 100000 in
set_option maxHeartbeats 4000000 in
theorem t_X5_broken_k {sh : SH} {mi : MI} {mr : MR} (hB : ba_c sh mr) (n : Nat) (hn : mi 12 3 = nI n) (hn40 : n ≤ 40) (tx : Nat → Nat) (htx : ∀ i, i < n → mi 16 i = nI (tx i) ∧ tx i ≤ 26) (w : Nat → Nat) (hw : ∀ k, k ≤ 26 → mi 13 k = nI (w k)) (hw20 : ∀ k, k ≤ 26 → w k ≤ 20) (W K : Nat) (hWx : W ≤ 400) (hKx : K ≤ 6) (hW1 : 1 ≤ W) (hK1 : 1 ≤ K) : EV none 2 0 0 mX5_broken 0 (en_l mX5_broken [pv_r 0, pv_i (nI W), pv_i (nI K)]) [] sh mi mr (fun v_ sh_ mi_ mr_ => sh_ = sh ∧ mr_ = mr ∧ ((wc tx n = 0 ∧ v_ = some (pv_i (-4)) ∧ iw 12 18 11 tx w mi mi_ n) ∨ (wc tx n ≠ 0 ∧ v_ = some (pv_i (if (bl_w (wc tx n) W (w 0) (wx tx w n) K) = 0 then -1 else nI (en_c (cs_w (wc tx n) W (w 0) (wx tx w n) (bl_w (wc tx n) W (w 0) (wx tx w n) K) 0)))) ∧ (∀ a c, a ≠ 15 → a ≠ 18 → a ≠ 19 → a ≠ 20 → ¬ (a = 12 ∧ (c = 4 ∨ c = 11)) → mi_ a c = mi a c) ∧ mi_ 12 4 = nI (bl_w (wc tx n) W (w 0) (wx tx w n) K) ∧ ∀ i, i < (bl_w (wc tx n) W (w 0) (wx tx w n) K) → mi_ 15 i = nI (fw_w (wc tx n) W (w 0) (wx tx w n) ((bl_w (wc tx n) W (w 0) (wx tx w n) K) - i) (fr_w (wc tx n) W (w 0) (wx tx w n) (bl_w (wc tx n) W (w 0) (wx tx w n) K) i))))) := by
  show EV none 2 0 0 mX5_broken 0 [some (pv_r 0), some (pv_i (nI W)), some (pv_i (nI K))] [] sh mi mr _
  refine ev_iload_n dX5_broken_0 rfl ?_
  refine ev_iconst (v := 1) dX5_broken_1 rfl ?_
  refine ev_sipush (v := 400) dX5_broken_2 rfl ?_
  refine ev_s3i dX5_broken_5 cs_X5_57 (Nat.le_of_ble_eq_true rfl) (by decide) (t_X5_within _ _ _) ?_
  refine ev_if_eq_f (tgt := 21) dX5_broken_8 rfl (by rw [bi_1 (show (1 : Int32) ≤ nI W ∧ nI W ≤ 400 from i_lh (lo := 1) (hi := 400) hW1 hWx (by decide))]; decide) ?_
  refine ev_iload_n dX5_broken_11 rfl ?_
  refine ev_iconst (v := 1) dX5_broken_12 rfl ?_
  refine ev_bipush (v := 6) dX5_broken_13 rfl ?_
  refine ev_s3i dX5_broken_15 cs_X5_57 (Nat.le_of_ble_eq_true rfl) (by decide) (t_X5_within _ _ _) ?_
  refine ev_if_ne_t (tgt := 24) dX5_broken_18 rfl (by rw [bi_1 (show (1 : Int32) ≤ nI K ∧ nI K ≤ 6 from i_lh (lo := 1) (hi := 6) hK1 hKx (by decide))]; decide) ?_
  refine ev_aload_n dX5_broken_24 rfl ?_
  refine ev_getq dX5_broken_25 fl_X5_25 rfl (hB.1 0 _ rfl) (hB.2 0 2 _ rfl) ?_
  refine ev_iload_n dX5_broken_28 rfl ?_
  refine ev_iload_n dX5_broken_29 rfl ?_
  refine ev_callv (av := [pv_i (nI W), pv_i (nI K)]) dX5_broken_30 cv_X5_168 (hB.1 12 _ rfl) rfl rfl (Nat.le_of_ble_eq_true rfl) (by decide) (Or.inl (fun v_ s_ m_ r_ h_ => by rw [h_.1])) (Nat.zero_add _) (Nat.zero_add _) (t_X4_breakUp hB n hn hn40 tx htx w hw hw20 W K hWx hKx) ?_
  rintro v_ sh_ m1 mr_ ⟨e2_, e3_, h_⟩
  have e2_ := e2_.symm
  subst e2_
  have e3_ := e3_.symm
  subst e3_
  rcases h_ with ⟨a1, e1_, a2⟩ | ⟨a1, e1_, a2⟩
  · subst e1_
    exact ev_ireturn (ty := .int) dX5_broken_33 rfl rfl ⟨rfl, rfl, Or.inl ⟨a1, rfl, a2⟩⟩
  · subst e1_
    exact ev_ireturn (ty := .int) dX5_broken_33 rfl rfl ⟨rfl, rfl, Or.inr ⟨a1, rfl, a2⟩⟩
