theorem ct_s1 {tx : Nat → Nat} {k i : Nat} (h : tx i = k) : nI (ct tx k (i + 1)) = nI (ct tx k i) + 1 := by
  rw [nI_1]; simp [ct, h]
theorem ct_s0 {tx : Nat → Nat} {k i : Nat} (h : tx i ≠ k) : nI (ct tx k (i + 1)) = nI (ct tx k i) + 0 := by
  rw [Int32.add_zero]; simp [ct, h]
/-- all letters from 1 on below k, together -/
def al_c (tx : Nat → Nat) (n : Nat) : Nat → Nat
  | 0 => 0
  | k + 1 => al_c tx n k + (if k = 0 then 0 else ct tx k n)
theorem al_s (tx : Nat → Nat) (n : Nat) : ∀ k, al_c tx (n + 1) k = al_c tx n k + (if tx n ≠ 0 ∧ tx n < k then 1 else 0)
  | 0 => by simp [al_c]
  | k + 1 => by
    simp only [al_c]
    rw [al_s tx n k]
    by_cases hk : k = 0
    · subst hk
      simp only [if_true]
      rw [if_neg (by omega), if_neg (by omega)]
    · rw [if_neg hk, if_neg hk]
      simp only [ct]
      by_cases h1 : tx n = k
      · rw [if_pos h1, if_neg (by omega), if_pos (by omega)]
        omega
      · rw [if_neg h1]
        by_cases h2 : tx n ≠ 0 ∧ tx n < k
        · rw [if_pos h2, if_pos (by omega)]
          omega
        · rw [if_neg h2, if_neg (by omega)]
          omega
theorem al_all {tx : Nat → Nat} : ∀ n, (∀ i, i < n → tx i ≤ 26) → al_c tx n 27 = cl_l tx n
  | 0, _ => by simp [al_c, cl_l, ct]
  | n + 1, h => by
    rw [al_s, al_all n (fun i hi => h i (by omega))]
    have := h n (by omega)
    simp only [cl_l]
    by_cases h0 : tx n = 0
    · rw [if_neg (fun q => q.1 h0), if_pos h0]
    · rw [if_pos ⟨h0, by omega⟩, if_neg h0]
theorem al_le (tx : Nat → Nat) (n : Nat) : ∀ k, al_c tx n k ≤ n * k
  | 0 => by simp [al_c]
  | k + 1 => by
    have h1 := al_le tx n k
    have h2 := ct_le tx k n
    simp only [al_c, Nat.mul_succ]
    split <;> omega
set_option maxRecDepth 100000 in
set_option maxHeartbeats 4000000 in
theorem lp_X6_often {sh : SH} {mi : MI} {mr : MR} (hB : ba_c sh mr) (n : Nat) (hn : mi 29 25 = nI n) (hn40 : n ≤ 40) (tx : Nat → Nat) (htx : ∀ i, i < n → mi 51 i = nI (tx i) ∧ tx i ≤ 26) (k : Nat) (hk : k ≤ 26) : ∀ i, i ≤ n → EV none 0 0 0 mX6_often 4 [some (pv_r 29), some (pv_i (nI k)), some (pv_i (nI (ct tx k i))), some (pv_i (nI i))] [] sh mi mr (ok_r sh mr (nI (ct tx k n)) mi) := by
  refine lp_i n (fun i hi ih => ?_)
  refine ev_iload_n dX6_often_4 rfl ?_
  refine ev_aload_n dX6_often_5 rfl ?_
  refine ev_geti dX6_often_6 fl_X6_165 rfl (hB.1 29 _ rfl) ?_
  refine ev_icmp_ge (tgt := 36) dX6_often_9 rfl (fun h9 => ?_) (fun h9 => ?_)
  · have hin : i = n := by have := (nl_le hn rfl (by omega) (by omega)).mp h9; omega
    subst hin
    refine ev_iload_n dX6_often_36 rfl ?_
    exact ev_ireturn (ty := .int) dX6_often_37 rfl rfl ⟨rfl, rfl, rfl, rfl⟩
  · have hlt : i < n := by have := (not_congr (nl_le hn rfl (by omega) (by omega))).mp h9; omega
    have hs := (htx i hlt).1
    have hs2 := (htx i hlt).2
    refine ev_iload_n dX6_often_12 rfl ?_
    refine ev_aload_n dX6_often_13 rfl ?_
    refine ev_getq dX6_often_14 fl_X6_74 rfl (hB.1 29 _ rfl) (hB.2 29 26 _ rfl) ?_
    refine ev_iload_n dX6_often_17 rfl ?_
    refine ev_iald dX6_often_18 (hB.1 51 _ rfl) (j := i) rfl (by omega) (by decide) ?_
    refine ev_iload_n dX6_often_19 rfl ?_
    refine ev_icmp_ne (tgt := 27) dX6_often_20 rfl (fun h20 => ?_) (fun h20 => ?_)
    · refine ev_iconst (v := 0) dX6_often_27 rfl ?_
      refine ev_iadd dX6_often_28 ?_
      refine ev_istore_n dX6_often_29 (by decide) ?_
      refine ev_iincN dX6_often_30 rfl (by decide) ?_
      refine ev_goto (tgt := 4) dX6_often_33 rfl ?_
      rw [ct_s0 (fun e => h20 (by rw [hs, e]))] at ih
      exact ih hlt
    · refine ev_iconst (v := 1) dX6_often_23 rfl ?_
      refine ev_goto (tgt := 28) dX6_often_24 rfl ?_
      refine ev_iadd dX6_often_28 ?_
      refine ev_istore_n dX6_often_29 (by decide) ?_
      refine ev_iincN dX6_often_30 rfl (by decide) ?_
      refine ev_goto (tgt := 4) dX6_often_33 rfl ?_
      rw [ct_s1 (by rw [hs] at h20; exact (nI_eq (by omega) (by omega)).mp h20)] at ih
      exact ih hlt
set_option maxRecDepth 100000 in
set_option maxHeartbeats 4000000 in
theorem t_X6_often {sh : SH} {mi : MI} {mr : MR} (hB : ba_c sh mr) (n : Nat) (hn : mi 29 25 = nI n) (hn40 : n ≤ 40) (tx : Nat → Nat) (htx : ∀ i, i < n → mi 51 i = nI (tx i) ∧ tx i ≤ 26) (k : Nat) (hk : k ≤ 26) : EV none 0 0 0 mX6_often 0 (en_l mX6_often [pv_r 29, pv_i (nI k)]) [] sh mi mr (ok_r sh mr (nI (ct tx k n)) mi) := by
  show EV none 0 0 0 mX6_often 0 [some (pv_r 29), some (pv_i (nI k)), none, none] [] sh mi mr _
  refine ev_iconst (v := 0) dX6_often_0 rfl ?_
  refine ev_istore_n dX6_often_1 (by decide) ?_
  refine ev_iconst (v := 0) dX6_often_2 rfl ?_
  refine ev_istore_n dX6_often_3 (by decide) ?_
  exact lp_X6_often hB n hn hn40 tx htx k hk 0 (Nat.zero_le n)
set_option maxRecDepth 100000 in
set_option maxHeartbeats 4000000 in
theorem lp_X6_stamp2 {sh : SH} {mi : MI} {mr : MR} (hB : ba_c sh mr) (n : Nat) (hn : mi 29 25 = nI n) (hn40 : n ≤ 40) (tx : Nat → Nat) (htx : ∀ i, i < n → mi 51 i = nI (tx i) ∧ tx i ≤ 26) (p1 p2 : Int32) : ∀ i, i ≤ 27 → 1 ≤ i → ∀ m, ag_1 55 mi m → (∀ k, 1 ≤ k → k < i → m 55 k = mi 55 k + nI (ct tx k n)) → (∀ k, i ≤ k → k ≤ 26 → m 55 k = mi 55 k) → EV none 1 0 0 mX6_stamp 77 [some (pv_r 29), some (pv_i p1), some (pv_i p2), some (pv_i (nI i)), none] [] sh m mr (fun v_ sh_ mi_ mr_ => v_ = some (pv_i p1) ∧ sh_ = sh ∧ mr_ = mr ∧ ag_1 55 mi mi_ ∧ ∀ k, 1 ≤ k → k ≤ 26 → mi_ 55 k = mi 55 k + nI (ct tx k n)) := by
  refine lp_i 27 (fun i hi ih => ?_)
  intro hi1 m hag hs hr
  refine ev_iload_n dX6_stamp_77 rfl ?_
  refine ev_bipush (v := 27) dX6_stamp_78 rfl ?_
  refine ev_icmp_ge (tgt := 103) dX6_stamp_80 rfl (fun h80 => ?_) (fun h80 => ?_)
  · have hin : 27 ≤ i := (nl_le (x := 27) (a := 27) rfl (b := i) rfl (by decide) (by omega)).mp h80
    refine ev_iload_n dX6_stamp_103 rfl ?_
    exact ev_ireturn (ty := .int) dX6_stamp_104 rfl rfl ⟨rfl, rfl, rfl, hag, fun k h1 h2 => hs k h1 (by omega)⟩
  · have hlt : i < 27 := by have := (not_congr (nl_le (x := 27) (a := 27) rfl (b := i) rfl (by decide) (by omega))).mp h80; omega
    refine ev_aload_n dX6_stamp_83 rfl ?_
    refine ev_getq dX6_stamp_84 fl_X6_86 rfl (hB.1 29 _ rfl) (hB.2 29 32 _ rfl) ?_
    refine ev_iload_n dX6_stamp_87 rfl ?_
    refine ev_dup2 dX6_stamp_88 ?_
    refine ev_iald dX6_stamp_89 (hB.1 55 _ rfl) (j := i) rfl (by omega) (by decide) ?_
    refine ev_aload_n dX6_stamp_90 rfl ?_
    refine ev_iload_n dX6_stamp_91 rfl ?_
    refine ev_v1i dX6_stamp_92 cv_X6_185 (hB.1 29 _ rfl) (Nat.le_of_ble_eq_true rfl) (by decide) (t_X6_often (mi := m) hB n ((hag 29 25 (by decide)).trans hn) hn40 tx (fun i hi => ⟨(hag 51 i (by decide)).trans (htx i hi).1, (htx i hi).2⟩) i (by omega)) ?_
    refine ev_iadd dX6_stamp_95 ?_
    refine ev_iast dX6_stamp_96 (hB.1 55 _ rfl) (j := i) rfl (by omega) (by decide) ?_
    refine ev_iincN dX6_stamp_97 rfl (by decide) ?_
    refine ev_goto (tgt := 77) dX6_stamp_100 rfl ?_
    refine ih hlt (by omega) _ (ag_up hag) (fun k h1 h2 => ?_) (fun k h1 h2 => ?_)
    · by_cases hk : k = i
      · subst hk; rw [up_at, hr k (Nat.le_refl k) (by omega)]
      · rw [up_ne (Or.inr hk)]; exact hs k h1 (by omega)
    · rw [up_ne (Or.inr (by omega))]; exact hr k (by omega) h2
set_option maxRecDepth 100000 in
set_option maxHeartbeats 4000000 in
theorem lp_X6_stamp1 {sh : SH} {mi : MI} {mr : MR} (hB : ba_c sh mr) (n : Nat) (hn : mi 29 25 = nI n) (hn40 : n ≤ 40) (tx : Nat → Nat) (htx : ∀ i, i < n → mi 51 i = nI (tx i) ∧ tx i ≤ 26) : ∀ i, i ≤ 27 → 1 ≤ i → ∀ p2 : Int32, ((p2 = 0 ∧ ∀ k, 1 ≤ k → k < i → ¬ (¬ nI (ct tx k n) ≤ 0 ∧ ¬ (mi 55 k + nI (ct tx k n)) ≤ mi 29 33)) ∨ (p2 = 1 ∧ ∃ k, 1 ≤ k ∧ k < i ∧ (¬ nI (ct tx k n) ≤ 0 ∧ ¬ (mi 55 k + nI (ct tx k n)) ≤ mi 29 33))) → EV none 1 0 0 mX6_stamp 6 [some (pv_r 29), some (pv_i (nI (al_c tx n i))), some (pv_i p2), some (pv_i (nI i)), none] [] sh mi mr (fun v_ sh_ mi_ mr_ => sh_ = sh ∧ mr_ = mr ∧ ((nI (cl_l tx n) = 0 ∧ v_ = some (pv_i (-4)) ∧ mi_ = mi) ∨ (¬ nI (cl_l tx n) = 0 ∧ (∃ k, 1 ≤ k ∧ k ≤ 26 ∧ (¬ nI (ct tx k n) ≤ 0 ∧ ¬ (mi 55 k + nI (ct tx k n)) ≤ mi 29 33)) ∧ v_ = some (pv_i (-5)) ∧ mi_ = mi) ∨ (¬ nI (cl_l tx n) = 0 ∧ (∀ k, 1 ≤ k → k ≤ 26 → ¬ (¬ nI (ct tx k n) ≤ 0 ∧ ¬ (mi 55 k + nI (ct tx k n)) ≤ mi 29 33)) ∧ v_ = some (pv_i (nI (cl_l tx n))) ∧ (∀ a c, a ≠ 55 → mi_ a c = mi a c) ∧ ∀ k, 1 ≤ k → k ≤ 26 → mi_ 55 k = mi 55 k + nI (ct tx k n)))) := by
  refine lp_i 27 (fun i hi ih => ?_)
  intro hi1 p2 hx
  refine ev_iload_n dX6_stamp_6 rfl ?_
  refine ev_bipush (v := 27) dX6_stamp_7 rfl ?_
  refine ev_icmp_ge (tgt := 61) dX6_stamp_9 rfl (fun h9 => ?_) (fun h9 => ?_)
  · have hin : i = 27 := by have := (nl_le (x := 27) (a := 27) rfl (b := i) rfl (by decide) (by omega)).mp h9; omega
    subst hin
    have ha : al_c tx n 27 = cl_l tx n := al_all n (fun i hi => (htx i hi).2)
    refine ev_iload_n dX6_stamp_61 rfl ?_
    refine ev_if_ne (tgt := 68) dX6_stamp_62 rfl (fun h62 => ?_) (fun h62 => ?_)
    · refine ev_iload_n dX6_stamp_68 rfl ?_
      refine ev_if_eq (tgt := 75) dX6_stamp_69 rfl (fun h69 => ?_) (fun h69 => ?_)
      · refine ev_iconst (v := 1) dX6_stamp_75 rfl ?_
        refine ev_istore_n dX6_stamp_76 (by decide) ?_
        refine ev_post (fun v_ s_ m_ r_ h_ => ?_) (lp_X6_stamp2 hB n hn hn40 tx htx _ _ 1 (by decide) (by decide) mi (fun _ _ _ => rfl) (fun k h1 h2 => by omega) (fun k h1 h2 => rfl))
        exact ⟨h_.2.1, h_.2.2.1, Or.inr (Or.inr ⟨by rw [← ha]; exact h62, fun k h1 h2 => (hx.resolve_right (fun q => absurd (q.1.symm.trans h69) (by decide))).2 k h1 (by omega), by rw [h_.1, ha], h_.2.2.2.1, h_.2.2.2.2⟩)⟩
      · refine ev_bipush (v := (-5)) dX6_stamp_72 rfl ?_
        exact ev_ireturn (ty := .int) dX6_stamp_74 rfl rfl ⟨rfl, rfl, Or.inr (Or.inl ⟨by rw [← ha]; exact h62, (hx.resolve_left (fun q => h69 q.1)).2.elim (fun k hk => ⟨k, hk.1, by omega, hk.2.2⟩), rfl, rfl⟩)⟩
    · refine ev_bipush (v := (-4)) dX6_stamp_65 rfl ?_
      exact ev_ireturn (ty := .int) dX6_stamp_67 rfl rfl ⟨rfl, rfl, Or.inl ⟨by rw [← ha]; exact h62, rfl, rfl⟩⟩
  · have hlt : i < 27 := by have := (not_congr (nl_le (x := 27) (a := 27) rfl (b := i) rfl (by decide) (by omega))).mp h9; omega
    refine ev_aload_n dX6_stamp_12 rfl ?_
    refine ev_iload_n dX6_stamp_13 rfl ?_
    refine ev_v1i dX6_stamp_14 cv_X6_185 (hB.1 29 _ rfl) (Nat.le_of_ble_eq_true rfl) (by decide) (t_X6_often (mi := mi) hB n hn hn40 tx htx i (by omega)) ?_
    refine ev_istore dX6_stamp_17 (by decide) ?_
    refine ev_iload_n dX6_stamp_19 rfl ?_
    refine ev_iload dX6_stamp_20 rfl ?_
    refine ev_iadd dX6_stamp_22 ?_
    refine ev_istore_n dX6_stamp_23 (by decide) ?_
    refine ev_iload_n dX6_stamp_24 rfl ?_
    refine ev_if_ne (tgt := 49) dX6_stamp_25 rfl (fun h25 => ?_) (fun h25 => ?_)
    · refine ev_iconst (v := 1) dX6_stamp_49 rfl ?_
      refine ev_goto (tgt := 54) dX6_stamp_50 rfl ?_
      refine ev_istore_n dX6_stamp_54 (by decide) ?_
      refine ev_iincN dX6_stamp_55 rfl (by decide) ?_
      refine ev_goto (tgt := 6) dX6_stamp_58 rfl ?_
      rw [show nI (al_c tx n (i + 1)) = nI (al_c tx n i) + nI (ct tx i n) by rw [nI_add]; simp only [al_c]; rw [if_neg (by omega)]] at ih
      exact ev_fg 4 (ih hlt (by omega) _ (Or.inr ⟨rfl, (hx.resolve_left (fun q => h25 q.1)).2.elim (fun k hk => ⟨k, hk.1, by omega, hk.2.2⟩)⟩))
    · refine ev_iload dX6_stamp_28 rfl ?_
      refine ev_if_le (tgt := 53) dX6_stamp_30 rfl (fun h30 => ?_) (fun h30 => ?_)
      · refine ev_iconst (v := 0) dX6_stamp_53 rfl ?_
        refine ev_istore_n dX6_stamp_54 (by decide) ?_
        refine ev_iincN dX6_stamp_55 rfl (by decide) ?_
        refine ev_goto (tgt := 6) dX6_stamp_58 rfl ?_
        rw [show nI (al_c tx n (i + 1)) = nI (al_c tx n i) + nI (ct tx i n) by rw [nI_add]; simp only [al_c]; rw [if_neg (by omega)]] at ih
        exact ev_fg 4 (ih hlt (by omega) _ (Or.inl ⟨rfl, fun k h1 h2 => by
          by_cases hk : k = i
          · subst hk; exact fun q => q.1 h30
          · exact (hx.resolve_right (fun q => absurd (q.1.symm.trans h25) (by decide))).2 k h1 (by omega)⟩))
      · refine ev_aload_n dX6_stamp_33 rfl ?_
        refine ev_getq dX6_stamp_34 fl_X6_86 rfl (hB.1 29 _ rfl) (hB.2 29 32 _ rfl) ?_
        refine ev_iload_n dX6_stamp_37 rfl ?_
        refine ev_iald dX6_stamp_38 (hB.1 55 _ rfl) (j := i) rfl (by omega) (by decide) ?_
        refine ev_iload dX6_stamp_39 rfl ?_
        refine ev_iadd dX6_stamp_41 ?_
        refine ev_aload_n dX6_stamp_42 rfl ?_
        refine ev_geti dX6_stamp_43 fl_X6_89 rfl (hB.1 29 _ rfl) ?_
        refine ev_icmp_le (tgt := 53) dX6_stamp_46 rfl (fun h46 => ?_) (fun h46 => ?_)
        · refine ev_iconst (v := 0) dX6_stamp_53 rfl ?_
          refine ev_istore_n dX6_stamp_54 (by decide) ?_
          refine ev_iincN dX6_stamp_55 rfl (by decide) ?_
          refine ev_goto (tgt := 6) dX6_stamp_58 rfl ?_
          rw [show nI (al_c tx n (i + 1)) = nI (al_c tx n i) + nI (ct tx i n) by rw [nI_add]; simp only [al_c]; rw [if_neg (by omega)]] at ih
          exact ev_fg 4 (ih hlt (by omega) _ (Or.inl ⟨rfl, fun k h1 h2 => by
            by_cases hk : k = i
            · subst hk; exact fun q => q.2 h46
            · exact (hx.resolve_right (fun q => absurd (q.1.symm.trans h25) (by decide))).2 k h1 (by omega)⟩))
        · refine ev_iconst (v := 1) dX6_stamp_49 rfl ?_
          refine ev_goto (tgt := 54) dX6_stamp_50 rfl ?_
          refine ev_istore_n dX6_stamp_54 (by decide) ?_
          refine ev_iincN dX6_stamp_55 rfl (by decide) ?_
          refine ev_goto (tgt := 6) dX6_stamp_58 rfl ?_
          rw [show nI (al_c tx n (i + 1)) = nI (al_c tx n i) + nI (ct tx i n) by rw [nI_add]; simp only [al_c]; rw [if_neg (by omega)]] at ih
          exact ev_fg 4 (ih hlt (by omega) _ (Or.inr ⟨rfl, i, hi1, by omega, h30, h46⟩))
set_option maxRecDepth 100000 in
set_option maxHeartbeats 4000000 in
theorem t_X6_stamp {sh : SH} {mi : MI} {mr : MR} (hB : ba_c sh mr) (n : Nat) (hn : mi 29 25 = nI n) (hn40 : n ≤ 40) (tx : Nat → Nat) (htx : ∀ i, i < n → mi 51 i = nI (tx i) ∧ tx i ≤ 26) : EV none 1 0 0 mX6_stamp 0 (en_l mX6_stamp [pv_r 29]) [] sh mi mr (fun v_ sh_ mi_ mr_ => sh_ = sh ∧ mr_ = mr ∧ ((nI (cl_l tx n) = 0 ∧ v_ = some (pv_i (-4)) ∧ mi_ = mi) ∨ (¬ nI (cl_l tx n) = 0 ∧ (∃ k, 1 ≤ k ∧ k ≤ 26 ∧ (¬ nI (ct tx k n) ≤ 0 ∧ ¬ (mi 55 k + nI (ct tx k n)) ≤ mi 29 33)) ∧ v_ = some (pv_i (-5)) ∧ mi_ = mi) ∨ (¬ nI (cl_l tx n) = 0 ∧ (∀ k, 1 ≤ k → k ≤ 26 → ¬ (¬ nI (ct tx k n) ≤ 0 ∧ ¬ (mi 55 k + nI (ct tx k n)) ≤ mi 29 33)) ∧ v_ = some (pv_i (nI (cl_l tx n))) ∧ (∀ a c, a ≠ 55 → mi_ a c = mi a c) ∧ ∀ k, 1 ≤ k → k ≤ 26 → mi_ 55 k = mi 55 k + nI (ct tx k n)))) := by
  show EV none 1 0 0 mX6_stamp 0 [some (pv_r 29), none, none, none, none] [] sh mi mr _
  refine ev_iconst (v := 0) dX6_stamp_0 rfl ?_
  refine ev_istore_n dX6_stamp_1 (by decide) ?_
  refine ev_iconst (v := 0) dX6_stamp_2 rfl ?_
  refine ev_istore_n dX6_stamp_3 (by decide) ?_
  refine ev_iconst (v := 1) dX6_stamp_4 rfl ?_
  refine ev_istore_n dX6_stamp_5 (by decide) ?_
  exact lp_X6_stamp1 hB n hn hn40 tx htx 1 (by decide) (by decide) 0 (Or.inl ⟨rfl, fun k h1 h2 => by omega⟩)
