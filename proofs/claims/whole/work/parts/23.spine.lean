set_option maxRecDepth 100000 in
set_option maxHeartbeats 4000000 in
theorem t_X4_addSign {sh : SH} {mi : MI} {mr : MR} (hB : ba_c sh mr) (p1 : Int32) (n : Nat) (hn : mi 12 3 = nI n) (hn40 : n ≤ 40) : EV none 0 0 0 mX4_addSign 0 (en_l mX4_addSign [pv_r 12, pv_i p1]) [] sh mi mr (fun v_ sh_ mi_ mr_ => (((mi 12 3) < 40) ∧ (ok_r sh mr ((up_2 (up_2 mi 16 n p1) 12 3 (((up_2 mi 16 n p1) 12 3) + 1)) 12 3) (up_2 (up_2 mi 16 n p1) 12 3 (((up_2 mi 16 n p1) 12 3) + 1))) v_ sh_ mi_ mr_) ∨ ((¬ (mi 12 3) < 40) ∧ (ok_r sh mr (-6) mi) v_ sh_ mi_ mr_)) := by
  show EV none 0 0 0 mX4_addSign 0 [some (pv_r 12), some (pv_i p1)] [] sh mi mr _
  refine ev_aload_n dX4_addSign_0 rfl ?_
  refine ev_geti dX4_addSign_1 fl_X4_21 rfl (hB.1 12 _ rfl) ?_
  refine ev_bipush (v := 40) dX4_addSign_4 rfl ?_
  refine ev_icmp_lt (tgt := 12) dX4_addSign_6 rfl (fun h6 => ?_) (fun h6 => ?_)
  · refine ev_aload_n dX4_addSign_12 rfl ?_
    refine ev_getq dX4_addSign_13 fl_X4_31 rfl (hB.1 12 _ rfl) (hB.2 12 6 _ rfl) ?_
    refine ev_aload_n dX4_addSign_16 rfl ?_
    refine ev_geti dX4_addSign_17 fl_X4_21 rfl (hB.1 12 _ rfl) ?_
    refine ev_iload_n dX4_addSign_20 rfl ?_
    refine ev_iast dX4_addSign_21 (hB.1 16 _ rfl) (j := n) (by simp [up_2, pk_mul, nI_add, n_5, n_6, n_12, n_144, hn]) ((nl_lt hn (b := 40) rfl (by omega) (by decide)).mp h6) (by decide) ?_
    refine ev_aload_n dX4_addSign_22 rfl ?_
    refine ev_dup dX4_addSign_23 ?_
    refine ev_geti dX4_addSign_24 fl_X4_21 rfl (hB.1 12 _ rfl) ?_
    refine ev_iconst (v := 1) dX4_addSign_27 rfl ?_
    refine ev_iadd dX4_addSign_28 ?_
    refine ev_puti dX4_addSign_29 fl_X4_21 rfl rfl (hB.1 12 _ rfl) ?_
    refine ev_aload_n dX4_addSign_32 rfl ?_
    refine ev_geti dX4_addSign_33 fl_X4_21 rfl (hB.1 12 _ rfl) ?_
    exact ev_ireturn (ty := .int) dX4_addSign_36 rfl rfl (Or.inl ⟨h6, rfl, rfl, rfl, rfl⟩)
  · refine ev_bipush (v := (-6)) dX4_addSign_9 rfl ?_
    exact ev_ireturn (ty := .int) dX4_addSign_11 rfl rfl (Or.inr ⟨h6, rfl, rfl, rfl, rfl⟩)
set_option maxRecDepth 100000 in
set_option maxHeartbeats 4000000 in
theorem t_X5_sign {sh : SH} {mi : MI} {mr : MR} (hB : ba_c sh mr) (p1 : Int32) (n : Nat) (hn : mi 12 3 = nI n) (hn40 : n ≤ 40) : EV none 2 0 0 mX5_sign 0 (en_l mX5_sign [pv_r 0, pv_i p1]) [] sh mi mr (fun v_ sh_ mi_ mr_ => ((0 ≤ p1 ∧ p1 ≤ 26) ∧ ((mi 12 3) < 40) ∧ (ok_r sh mr ((up_2 (up_2 mi 16 n p1) 12 3 (((up_2 mi 16 n p1) 12 3) + 1)) 12 3) (up_2 (up_2 mi 16 n p1) 12 3 (((up_2 mi 16 n p1) 12 3) + 1))) v_ sh_ mi_ mr_) ∨ ((0 ≤ p1 ∧ p1 ≤ 26) ∧ (¬ (mi 12 3) < 40) ∧ (ok_r sh mr (-6) mi) v_ sh_ mi_ mr_) ∨ ((¬ (0 ≤ p1 ∧ p1 ≤ 26)) ∧ (ok_r sh mr (-2) mi) v_ sh_ mi_ mr_)) := by
  show EV none 2 0 0 mX5_sign 0 [some (pv_r 0), some (pv_i p1)] [] sh mi mr _
  refine ev_iload_n dX5_sign_0 rfl ?_
  refine ev_s1i dX5_sign_1 cs_X5_156 (Nat.le_of_ble_eq_true rfl) (by decide) (t_X5_isSign _) ?_
  refine ev_ifb_ne (tgt := 10) dX5_sign_4 rfl (fun h4 => ?_) (fun h4 => ?_)
  · refine ev_aload_n dX5_sign_10 rfl ?_
    refine ev_getq dX5_sign_11 fl_X5_25 rfl (hB.1 0 _ rfl) (hB.2 0 2 _ rfl) ?_
    refine ev_iload_n dX5_sign_14 rfl ?_
    refine ev_callv (av := [pv_i p1]) dX5_sign_15 cv_X5_162 (hB.1 12 _ rfl) rfl rfl (Nat.le_of_ble_eq_true rfl) (by decide) (Or.inl (fun v_ s_ m_ r_ h_ => by rcases h_ with ⟨_, _, e_, _, _⟩ | ⟨_, _, e_, _, _⟩ <;> rw [e_])) (Nat.zero_add _) (Nat.zero_add _) (t_X4_addSign hB _ n hn hn40) ?_
    rintro v_ sh_ mi_ mr_ (⟨qh6, e1_, e2_, e3_, e4_⟩ | ⟨qh6, e1_, e2_, e3_, e4_⟩)
    · subst e1_
      have e2_ := e2_.symm
      subst e2_
      have e3_ := e3_.symm
      subst e3_
      have e4_ := e4_.symm
      subst e4_
      exact ev_ireturn (ty := .int) dX5_sign_18 rfl rfl (Or.inl ⟨h4, qh6, rfl, rfl, rfl, rfl⟩)
    · subst e1_
      have e2_ := e2_.symm
      subst e2_
      have e3_ := e3_.symm
      subst e3_
      have e4_ := e4_.symm
      subst e4_
      exact ev_ireturn (ty := .int) dX5_sign_18 rfl rfl (Or.inr (Or.inl ⟨h4, qh6, rfl, rfl, rfl, rfl⟩))
  · refine ev_bipush (v := (-2)) dX5_sign_7 rfl ?_
    exact ev_ireturn (ty := .int) dX5_sign_9 rfl rfl (Or.inr (Or.inr ⟨h4, rfl, rfl, rfl, rfl⟩))
set_option maxRecDepth 100000 in
set_option maxHeartbeats 4000000 in
theorem t_X5_wipe {sh : SH} {mi : MI} {mr : MR} (hB : ba_c sh mr) : EV none 0 0 0 mX5_wipe 0 (en_l mX5_wipe [pv_r 0]) [] sh mi mr (ok_r sh mr (mi 12 3) (up_2 mi 12 3 0)) := by
  show EV none 0 0 0 mX5_wipe 0 [some (pv_r 0), none] [] sh mi mr _
  refine ev_aload_n dX5_wipe_0 rfl ?_
  refine ev_getq dX5_wipe_1 fl_X5_25 rfl (hB.1 0 _ rfl) (hB.2 0 2 _ rfl) ?_
  refine ev_geti dX5_wipe_4 fl_X5_165 rfl (hB.1 12 _ rfl) ?_
  refine ev_istore_n dX5_wipe_7 (by decide) ?_
  refine ev_aload_n dX5_wipe_8 rfl ?_
  refine ev_getq dX5_wipe_9 fl_X5_25 rfl (hB.1 0 _ rfl) (hB.2 0 2 _ rfl) ?_
  refine ev_iconst (v := 0) dX5_wipe_12 rfl ?_
  refine ev_puti dX5_wipe_13 fl_X5_165 rfl rfl (hB.1 12 _ rfl) ?_
  refine ev_iload_n dX5_wipe_16 rfl ?_
  exact ev_ireturn (ty := .int) dX5_wipe_17 rfl rfl ⟨rfl, rfl, rfl, rfl⟩
set_option maxRecDepth 100000 in
set_option maxHeartbeats 4000000 in
theorem t_X5_last {sh : SH} {mi : MI} {mr : MR} (hB : ba_c sh mr) (p1 : Int32) : EV none 2 0 0 mX5_last 0 (en_l mX5_last [pv_r 0, pv_i p1]) [] sh mi mr (fun v_ sh_ mi_ mr_ => ((1 ≤ p1 ∧ p1 ≤ 1000) ∧ (ok_r sh mr (mi 12 5) (up_2 mi 12 5 p1)) v_ sh_ mi_ mr_) ∨ ((¬ (1 ≤ p1 ∧ p1 ≤ 1000)) ∧ (ok_r sh mr (-3) mi) v_ sh_ mi_ mr_)) := by
  show EV none 2 0 0 mX5_last 0 [some (pv_r 0), some (pv_i p1), none] [] sh mi mr _
  refine ev_iload_n dX5_last_0 rfl ?_
  refine ev_iconst (v := 1) dX5_last_1 rfl ?_
  refine ev_sipush (v := 1000) dX5_last_2 rfl ?_
  refine ev_s3i dX5_last_5 cs_X5_57 (Nat.le_of_ble_eq_true rfl) (by decide) (t_X5_within _ _ _) ?_
  refine ev_ifb_ne (tgt := 14) dX5_last_8 rfl (fun h8 => ?_) (fun h8 => ?_)
  · refine ev_aload_n dX5_last_14 rfl ?_
    refine ev_getq dX5_last_15 fl_X5_25 rfl (hB.1 0 _ rfl) (hB.2 0 2 _ rfl) ?_
    refine ev_geti dX5_last_18 fl_X5_189 rfl (hB.1 12 _ rfl) ?_
    refine ev_istore_n dX5_last_21 (by decide) ?_
    refine ev_aload_n dX5_last_22 rfl ?_
    refine ev_getq dX5_last_23 fl_X5_25 rfl (hB.1 0 _ rfl) (hB.2 0 2 _ rfl) ?_
    refine ev_iload_n dX5_last_26 rfl ?_
    refine ev_puti dX5_last_27 fl_X5_189 rfl rfl (hB.1 12 _ rfl) ?_
    refine ev_iload_n dX5_last_30 rfl ?_
    exact ev_ireturn (ty := .int) dX5_last_31 rfl rfl (Or.inl ⟨h8, rfl, rfl, rfl, rfl⟩)
  · refine ev_bipush (v := (-3)) dX5_last_11 rfl ?_
    exact ev_ireturn (ty := .int) dX5_last_13 rfl rfl (Or.inr ⟨h8, rfl, rfl, rfl, rfl⟩)
set_option maxRecDepth 100000 in
set_option maxHeartbeats 4000000 in
theorem t_X5_width_u {sh : SH} {mi : MI} {mr : MR} (hB : ba_c sh mr) (p1 p2 : Int32) (hu : ¬ (0 ≤ p1 ∧ p1 ≤ 26)) : EV none 2 0 0 mX5_width 0 (en_l mX5_width [pv_r 0, pv_i p1, pv_i p2]) [] sh mi mr (ok_r sh mr (-2) mi) := by
  show EV none 2 0 0 mX5_width 0 [some (pv_r 0), some (pv_i p1), some (pv_i p2), none] [] sh mi mr _
  refine ev_iload_n dX5_width_0 rfl ?_
  refine ev_s1i dX5_width_1 cs_X5_156 (Nat.le_of_ble_eq_true rfl) (by decide) (t_X5_isSign _) ?_
  refine ev_if_ne_f (tgt := 10) dX5_width_4 rfl (bi_f hu) ?_
  refine ev_bipush (v := (-2)) dX5_width_7 rfl ?_
  exact ev_ireturn (ty := .int) dX5_width_9 rfl rfl ⟨rfl, rfl, rfl, rfl⟩
set_option maxRecDepth 100000 in
set_option maxHeartbeats 4000000 in
theorem t_X5_width_k {sh : SH} {mi : MI} {mr : MR} (hB : ba_c sh mr) (k : Nat) (hk : k ≤ 26) (p2 : Int32) : EV none 2 0 0 mX5_width 0 (en_l mX5_width [pv_r 0, pv_i (nI k), pv_i p2]) [] sh mi mr (fun v_ sh_ mi_ mr_ => ((¬ (nI k) = 0) ∧ (1 ≤ p2 ∧ p2 ≤ 20) ∧ (ok_r sh mr (mi 13 k) (up_2 mi 13 k p2)) v_ sh_ mi_ mr_) ∨ ((¬ (nI k) = 0) ∧ (¬ (1 ≤ p2 ∧ p2 ≤ 20)) ∧ (ok_r sh mr (-3) mi) v_ sh_ mi_ mr_) ∨ (((nI k) = 0) ∧ (0 ≤ p2 ∧ p2 ≤ 20) ∧ (ok_r sh mr (mi 13 k) (up_2 mi 13 k p2)) v_ sh_ mi_ mr_) ∨ (((nI k) = 0) ∧ (¬ (0 ≤ p2 ∧ p2 ≤ 20)) ∧ (ok_r sh mr (-3) mi) v_ sh_ mi_ mr_)) := by
  show EV none 2 0 0 mX5_width 0 [some (pv_r 0), some (pv_i (nI k)), some (pv_i p2), none] [] sh mi mr _
  refine ev_iload_n dX5_width_0 rfl ?_
  refine ev_s1i dX5_width_1 cs_X5_156 (Nat.le_of_ble_eq_true rfl) (by decide) (t_X5_isSign _) ?_
  refine ev_if_ne_t (tgt := 10) dX5_width_4 rfl (by rw [bi_1 ((i_in 26 (n := 26) rfl (by decide)).mpr ⟨k, hk, rfl⟩)]; decide) ?_
  refine ev_iload_n dX5_width_10 rfl ?_
  refine ev_iload_n dX5_width_11 rfl ?_
  refine ev_if_ne (tgt := 19) dX5_width_12 rfl (fun h12 => ?_) (fun h12 => ?_)
  · refine ev_iconst (v := 1) dX5_width_19 rfl ?_
    refine ev_bipush (v := 20) dX5_width_20 rfl ?_
    refine ev_s3i dX5_width_22 cs_X5_57 (Nat.le_of_ble_eq_true rfl) (by decide) (t_X5_within _ _ _) ?_
    refine ev_ifb_ne (tgt := 31) dX5_width_25 rfl (fun h25 => ?_) (fun h25 => ?_)
    · refine ev_aload_n dX5_width_31 rfl ?_
      refine ev_getq dX5_width_32 fl_X5_25 rfl (hB.1 0 _ rfl) (hB.2 0 2 _ rfl) ?_
      refine ev_getq dX5_width_35 fl_X5_159 rfl (hB.1 12 _ rfl) (hB.2 12 0 _ rfl) ?_
      refine ev_iload_n dX5_width_38 rfl ?_
      refine ev_iald dX5_width_39 (hB.1 13 _ rfl) (j := k) rfl (by omega) (by decide) ?_
      refine ev_istore_n dX5_width_40 (by decide) ?_
      refine ev_aload_n dX5_width_41 rfl ?_
      refine ev_getq dX5_width_42 fl_X5_25 rfl (hB.1 0 _ rfl) (hB.2 0 2 _ rfl) ?_
      refine ev_getq dX5_width_45 fl_X5_159 rfl (hB.1 12 _ rfl) (hB.2 12 0 _ rfl) ?_
      refine ev_iload_n dX5_width_48 rfl ?_
      refine ev_iload_n dX5_width_49 rfl ?_
      refine ev_iast dX5_width_50 (hB.1 13 _ rfl) (j := k) rfl (by omega) (by decide) ?_
      refine ev_iload_n dX5_width_51 rfl ?_
      exact ev_ireturn (ty := .int) dX5_width_52 rfl rfl (Or.inl ⟨h12, h25, rfl, rfl, rfl, rfl⟩)
    · refine ev_bipush (v := (-3)) dX5_width_28 rfl ?_
      exact ev_ireturn (ty := .int) dX5_width_30 rfl rfl (Or.inr (Or.inl ⟨h12, h25, rfl, rfl, rfl, rfl⟩))
  · refine ev_iconst (v := 0) dX5_width_15 rfl ?_
    refine ev_goto (tgt := 20) dX5_width_16 rfl ?_
    refine ev_bipush (v := 20) dX5_width_20 rfl ?_
    refine ev_s3i dX5_width_22 cs_X5_57 (Nat.le_of_ble_eq_true rfl) (by decide) (t_X5_within _ _ _) ?_
    refine ev_ifb_ne (tgt := 31) dX5_width_25 rfl (fun h25 => ?_) (fun h25 => ?_)
    · refine ev_aload_n dX5_width_31 rfl ?_
      refine ev_getq dX5_width_32 fl_X5_25 rfl (hB.1 0 _ rfl) (hB.2 0 2 _ rfl) ?_
      refine ev_getq dX5_width_35 fl_X5_159 rfl (hB.1 12 _ rfl) (hB.2 12 0 _ rfl) ?_
      refine ev_iload_n dX5_width_38 rfl ?_
      refine ev_iald dX5_width_39 (hB.1 13 _ rfl) (j := k) rfl (by omega) (by decide) ?_
      refine ev_istore_n dX5_width_40 (by decide) ?_
      refine ev_aload_n dX5_width_41 rfl ?_
      refine ev_getq dX5_width_42 fl_X5_25 rfl (hB.1 0 _ rfl) (hB.2 0 2 _ rfl) ?_
      refine ev_getq dX5_width_45 fl_X5_159 rfl (hB.1 12 _ rfl) (hB.2 12 0 _ rfl) ?_
      refine ev_iload_n dX5_width_48 rfl ?_
      refine ev_iload_n dX5_width_49 rfl ?_
      refine ev_iast dX5_width_50 (hB.1 13 _ rfl) (j := k) rfl (by omega) (by decide) ?_
      refine ev_iload_n dX5_width_51 rfl ?_
      exact ev_ireturn (ty := .int) dX5_width_52 rfl rfl (Or.inr (Or.inr (Or.inl ⟨h12, h25, rfl, rfl, rfl, rfl⟩)))
    · refine ev_bipush (v := (-3)) dX5_width_28 rfl ?_
      exact ev_ireturn (ty := .int) dX5_width_30 rfl rfl (Or.inr (Or.inr (Or.inr ⟨h12, h25, rfl, rfl, rfl, rfl⟩)))
set_option maxRecDepth 100000 in
set_option maxHeartbeats 4000000 in
theorem t_X5_sharpen_u {sh : SH} {mi : MI} {mr : MR} (hB : ba_c sh mr) (p1 : Int32) (hu : ¬ (1 ≤ p1 ∧ p1 ≤ 26)) : EV none 2 0 0 mX5_sharpen 0 (en_l mX5_sharpen [pv_r 0, pv_i p1]) [] sh mi mr (ok_r sh mr (-2) mi) := by
  show EV none 2 0 0 mX5_sharpen 0 [some (pv_r 0), some (pv_i p1), none] [] sh mi mr _
  refine ev_iload_n dX5_sharpen_0 rfl ?_
  refine ev_iconst (v := 1) dX5_sharpen_1 rfl ?_
  refine ev_bipush (v := 26) dX5_sharpen_2 rfl ?_
  refine ev_s3i dX5_sharpen_4 cs_X5_57 (Nat.le_of_ble_eq_true rfl) (by decide) (t_X5_within _ _ _) ?_
  refine ev_if_ne_f (tgt := 13) dX5_sharpen_7 rfl (bi_f hu) ?_
  refine ev_bipush (v := (-2)) dX5_sharpen_10 rfl ?_
  exact ev_ireturn (ty := .int) dX5_sharpen_12 rfl rfl ⟨rfl, rfl, rfl, rfl⟩
theorem i_lh {k lo hi : Nat} (h1 : lo ≤ k) (h2 : k ≤ hi) (hh : hi < 2 ^ 31) : nI lo ≤ nI k ∧ nI k ≤ nI hi := ⟨nI_le h1 (by omega), nI_le h2 hh⟩
theorem i_lo {x : Int32} {lo hi : Nat} (hh : hi < 2 ^ 31) (hl : lo < 2 ^ 31) (h : nI lo ≤ x ∧ x ≤ nI hi) : ∃ k, lo ≤ k ∧ k ≤ hi ∧ x = nI k := by
  obtain ⟨k, hk, rfl⟩ := (i_in (nI hi) rfl hh).mp ⟨Int32.le_trans (nI_pos' hl) h.1, h.2⟩
  exact ⟨k, (nI_leI hl (by omega)).mp h.1, hk, rfl⟩
set_option maxRecDepth 100000 in
set_option maxHeartbeats 4000000 in
theorem t_X5_sharpen_k {sh : SH} {mi : MI} {mr : MR} (hB : ba_c sh mr) (k : Nat) (hk1 : 1 ≤ k) (hk : k ≤ 26) : EV none 2 0 0 mX5_sharpen 0 (en_l mX5_sharpen [pv_r 0, pv_i (nI k)]) [] sh mi mr (ok_r sh mr (mi 14 k) (up_2 mi 14 k 0)) := by
  show EV none 2 0 0 mX5_sharpen 0 [some (pv_r 0), some (pv_i (nI k)), none] [] sh mi mr _
  refine ev_iload_n dX5_sharpen_0 rfl ?_
  refine ev_iconst (v := 1) dX5_sharpen_1 rfl ?_
  refine ev_bipush (v := 26) dX5_sharpen_2 rfl ?_
  refine ev_s3i dX5_sharpen_4 cs_X5_57 (Nat.le_of_ble_eq_true rfl) (by decide) (t_X5_within _ _ _) ?_
  refine ev_if_ne_t (tgt := 13) dX5_sharpen_7 rfl (by rw [bi_1 (show (1 : Int32) ≤ nI k ∧ nI k ≤ 26 from i_lh (lo := 1) (hi := 26) hk1 hk (by decide))]; decide) ?_
  refine ev_aload_n dX5_sharpen_13 rfl ?_
  refine ev_getq dX5_sharpen_14 fl_X5_25 rfl (hB.1 0 _ rfl) (hB.2 0 2 _ rfl) ?_
  refine ev_getq dX5_sharpen_17 fl_X5_186 rfl (hB.1 12 _ rfl) (hB.2 12 1 _ rfl) ?_
  refine ev_iload_n dX5_sharpen_20 rfl ?_
  refine ev_iald dX5_sharpen_21 (hB.1 14 _ rfl) (j := k) rfl (by omega) (by decide) ?_
  refine ev_istore_n dX5_sharpen_22 (by decide) ?_
  refine ev_aload_n dX5_sharpen_23 rfl ?_
  refine ev_getq dX5_sharpen_24 fl_X5_25 rfl (hB.1 0 _ rfl) (hB.2 0 2 _ rfl) ?_
  refine ev_getq dX5_sharpen_27 fl_X5_186 rfl (hB.1 12 _ rfl) (hB.2 12 1 _ rfl) ?_
  refine ev_iload_n dX5_sharpen_30 rfl ?_
  refine ev_iconst (v := 0) dX5_sharpen_31 rfl ?_
  refine ev_iast dX5_sharpen_32 (hB.1 14 _ rfl) (j := k) rfl (by omega) (by decide) ?_
  refine ev_iload_n dX5_sharpen_33 rfl ?_
  exact ev_ireturn (ty := .int) dX5_sharpen_34 rfl rfl ⟨rfl, rfl, rfl, rfl⟩
set_option maxRecDepth 100000 in
set_option maxHeartbeats 4000000 in
theorem t_X5_line_u {sh : SH} {mi : MI} {mr : MR} (hB : ba_c sh mr) (p1 : Int32) (hu : ¬ (0 ≤ p1 ∧ p1 ≤ (mi 12 4) - 1)) : EV none 2 0 0 mX5_line 0 (en_l mX5_line [pv_r 0, pv_i p1]) [] sh mi mr (ok_r sh mr (-3) mi) := by
  show EV none 2 0 0 mX5_line 0 [some (pv_r 0), some (pv_i p1)] [] sh mi mr _
  refine ev_iload_n dX5_line_0 rfl ?_
  refine ev_iconst (v := 0) dX5_line_1 rfl ?_
  refine ev_aload_n dX5_line_2 rfl ?_
  refine ev_getq dX5_line_3 fl_X5_25 rfl (hB.1 0 _ rfl) (hB.2 0 2 _ rfl) ?_
  refine ev_geti dX5_line_6 fl_X5_171 rfl (hB.1 12 _ rfl) ?_
  refine ev_iconst (v := 1) dX5_line_9 rfl ?_
  refine ev_isub dX5_line_10 ?_
  refine ev_s3i dX5_line_11 cs_X5_57 (Nat.le_of_ble_eq_true rfl) (by decide) (t_X5_within _ _ _) ?_
  refine ev_if_ne_f (tgt := 20) dX5_line_14 rfl (bi_f hu) ?_
  refine ev_bipush (v := (-3)) dX5_line_17 rfl ?_
  exact ev_ireturn (ty := .int) dX5_line_19 rfl rfl ⟨rfl, rfl, rfl, rfl⟩
set_option maxRecDepth 100000 in
set_option maxHeartbeats 4000000 in
theorem t_X5_line_k {sh : SH} {mi : MI} {mr : MR} (hB : ba_c sh mr) (n : Nat) (hn : mi 12 4 = nI n) (hn6 : n ≤ 6) (k : Nat) (hk : k < n) : EV none 2 0 0 mX5_line 0 (en_l mX5_line [pv_r 0, pv_i (nI k)]) [] sh mi mr (ok_r sh mr (mi 15 k) mi) := by
  show EV none 2 0 0 mX5_line 0 [some (pv_r 0), some (pv_i (nI k))] [] sh mi mr _
  refine ev_iload_n dX5_line_0 rfl ?_
  refine ev_iconst (v := 0) dX5_line_1 rfl ?_
  refine ev_aload_n dX5_line_2 rfl ?_
  refine ev_getq dX5_line_3 fl_X5_25 rfl (hB.1 0 _ rfl) (hB.2 0 2 _ rfl) ?_
  refine ev_geti dX5_line_6 fl_X5_171 rfl (hB.1 12 _ rfl) ?_
  refine ev_iconst (v := 1) dX5_line_9 rfl ?_
  refine ev_isub dX5_line_10 ?_
  refine ev_s3i dX5_line_11 cs_X5_57 (Nat.le_of_ble_eq_true rfl) (by decide) (t_X5_within _ _ _) ?_
  refine ev_if_ne_t (tgt := 20) dX5_line_14 rfl (by rw [bi_1 (by rw [hn]; exact (i_cases (by omega)).mpr ⟨k, hk, rfl⟩)]; decide) ?_
  refine ev_aload_n dX5_line_20 rfl ?_
  refine ev_getq dX5_line_21 fl_X5_25 rfl (hB.1 0 _ rfl) (hB.2 0 2 _ rfl) ?_
  refine ev_getq dX5_line_24 fl_X5_174 rfl (hB.1 12 _ rfl) (hB.2 12 2 _ rfl) ?_
  refine ev_iload_n dX5_line_27 rfl ?_
  refine ev_iald dX5_line_28 (hB.1 15 _ rfl) (j := k) rfl (by omega) (by decide) ?_
  exact ev_ireturn (ty := .int) dX5_line_29 rfl rfl ⟨rfl, rfl, rfl, rfl⟩
/-- how often letter k stands among the first i signs; how many letters there are -/
def ct (tx : Nat → Nat) (k : Nat) : Nat → Nat
  | 0 => 0
  | i + 1 => ct tx k i + (if tx i = k then 1 else 0)
def cl_l (tx : Nat → Nat) : Nat → Nat
  | 0 => 0
  | i + 1 => cl_l tx i + (if tx i = 0 then 0 else 1)
theorem ct_le (tx : Nat → Nat) (k : Nat) : ∀ i, ct tx k i ≤ i
  | 0 => Nat.le_refl _
  | i + 1 => by
    have := ct_le tx k i
    unfold ct
    split <;> omega
theorem cl_le (tx : Nat → Nat) : ∀ i, cl_l tx i ≤ i
  | 0 => Nat.le_refl _
  | i + 1 => by
    have := cl_le tx i
    unfold cl_l
    split <;> omega
/-- outside cell k nothing differs -/
def ag_1 (k : Nat) (mi m : MI) : Prop := ∀ a c, a ≠ k → m a c = mi a c
theorem ag_up {k j : Nat} {v : Int32} {mi m : MI} (h : ag_1 k mi m) : ag_1 k mi (up_2 m k j v) := fun a c ha => by
  simp only [up_2]
  rw [if_neg (fun q => ha q.1)]
  exact h a c ha
theorem up_at {m : MI} {k j : Nat} {v : Int32} : up_2 m k j v k j = v := by simp [up_2]
theorem up_ne {m : MI} {k j a c : Nat} {v : Int32} (h : a ≠ k ∨ c ≠ j) : up_2 m k j v a c = m a c := by
  simp only [up_2]
  rw [if_neg (by omega)]
set_option maxRecDepth 100000 in
set_option maxHeartbeats 4000000 in
theorem lp_X4_count2 {sh : SH} {mi : MI} {mr : MR} (hB : ba_c sh mr) (n : Nat) (hn : mi 12 3 = nI n) (hn40 : n ≤ 40) (tx : Nat → Nat) (htx : ∀ i, i < n → mi 16 i = nI (tx i) ∧ tx i ≤ 26) : ∀ i, i ≤ n → ∀ m, ag_1 17 mi m → (∀ k, 1 ≤ k → k ≤ 26 → m 17 k = nI (ct tx k i)) → EV none 0 0 0 mX4_countLetters 25 [some (pv_r 12), some (pv_i (nI (cl_l tx i))), some (pv_i (nI i))] [] sh m mr (fun v_ sh_ mi_ mr_ => v_ = some (pv_i (nI (cl_l tx n))) ∧ sh_ = sh ∧ mr_ = mr ∧ ag_1 17 mi mi_ ∧ ∀ k, 1 ≤ k → k ≤ 26 → mi_ 17 k = nI (ct tx k n)) := by
  refine lp_i n (fun i hi ih => ?_)
  intro m hag hct
  refine ev_iload_n dX4_countLetters_25 rfl ?_
  refine ev_aload_n dX4_countLetters_26 rfl ?_
  refine ev_geti dX4_countLetters_27 fl_X4_21 rfl (hB.1 12 _ rfl) ?_
  refine ev_icmp_ge (tgt := 66) dX4_countLetters_30 rfl (fun h30 => ?_) (fun h30 => ?_)
  · have hin : i = n := by have := (nl_le ((hag 12 3 (by decide)).trans hn) rfl (by omega) (by omega)).mp h30; omega
    subst hin
    refine ev_iload_n dX4_countLetters_66 rfl ?_
    exact ev_ireturn (ty := .int) dX4_countLetters_67 rfl rfl ⟨rfl, rfl, rfl, hag, hct⟩
  · have hlt : i < n := by have := (not_congr (nl_le ((hag 12 3 (by decide)).trans hn) rfl (by omega) (by omega))).mp h30; omega
    have hs : m 16 i = nI (tx i) := (hag 16 i (by decide)).trans (htx i hlt).1
    have hs2 := (htx i hlt).2
    refine ev_aload_n dX4_countLetters_33 rfl ?_
    refine ev_getq dX4_countLetters_34 fl_X4_31 rfl (hB.1 12 _ rfl) (hB.2 12 6 _ rfl) ?_
    refine ev_iload_n dX4_countLetters_37 rfl ?_
    refine ev_iald dX4_countLetters_38 (hB.1 16 _ rfl) (j := i) rfl (by omega) (by decide) ?_
    refine ev_if_eq (tgt := 60) dX4_countLetters_39 rfl (fun h39 => ?_) (fun h39 => ?_)
    · refine ev_iincN dX4_countLetters_60 rfl (by decide) ?_
      refine ev_goto (tgt := 25) dX4_countLetters_63 rfl ?_
      have h0 : tx i = 0 := by rw [hs] at h39; exact (nI_eq (b := 0) (by omega) (by decide)).mp h39
      rw [show cl_l tx (i + 1) = cl_l tx i by simp [cl_l, h0]] at ih
      exact ih hlt m hag (fun k h1 h2 => by rw [hct k h1 h2]; simp only [ct]; rw [if_neg (by omega)]; rfl)
    · refine ev_aload_n dX4_countLetters_42 rfl ?_
      refine ev_getq dX4_countLetters_43 fl_X4_34 rfl (hB.1 12 _ rfl) (hB.2 12 7 _ rfl) ?_
      refine ev_aload_n dX4_countLetters_46 rfl ?_
      refine ev_getq dX4_countLetters_47 fl_X4_31 rfl (hB.1 12 _ rfl) (hB.2 12 6 _ rfl) ?_
      refine ev_iload_n dX4_countLetters_50 rfl ?_
      refine ev_iald dX4_countLetters_51 (hB.1 16 _ rfl) (j := i) rfl (by omega) (by decide) ?_
      refine ev_dup2 dX4_countLetters_52 ?_
      refine ev_iald dX4_countLetters_53 (hB.1 17 _ rfl) (j := tx i) hs (by omega) (by decide) ?_
      refine ev_iconst (v := 1) dX4_countLetters_54 rfl ?_
      refine ev_iadd dX4_countLetters_55 ?_
      refine ev_iast dX4_countLetters_56 (hB.1 17 _ rfl) (j := tx i) hs (by omega) (by decide) ?_
      refine ev_iincN dX4_countLetters_57 rfl (by decide) ?_
      refine ev_iincN dX4_countLetters_60 rfl (by decide) ?_
      refine ev_goto (tgt := 25) dX4_countLetters_63 rfl ?_
      have h0 : tx i ≠ 0 := by rw [hs] at h39; exact fun e => h39 (by rw [e]; rfl)
      rw [show cl_l tx (i + 1) = cl_l tx i + 1 by simp [cl_l, h0]] at ih
      refine ih hlt _ (ag_up hag) (fun k h1 h2 => ?_)
      by_cases hk : k = tx i
      · subst hk
        rw [up_at, hct _ h1 h2, nI_1]; simp [ct]
      · rw [up_ne (Or.inr hk), hct k h1 h2]; simp only [ct]; rw [if_neg (fun e => hk e.symm)]; rfl
set_option maxRecDepth 100000 in
set_option maxHeartbeats 4000000 in
theorem lp_X4_count1 {sh : SH} {mi : MI} {mr : MR} (hB : ba_c sh mr) (n : Nat) (hn : mi 12 3 = nI n) (hn40 : n ≤ 40) (tx : Nat → Nat) (htx : ∀ i, i < n → mi 16 i = nI (tx i) ∧ tx i ≤ 26) : ∀ i, i ≤ 27 → 1 ≤ i → ∀ m, ag_1 17 mi m → (∀ k, 1 ≤ k → k < i → m 17 k = 0) → EV none 0 0 0 mX4_countLetters 4 [some (pv_r 12), some (pv_i 0), some (pv_i (nI i))] [] sh m mr (fun v_ sh_ mi_ mr_ => v_ = some (pv_i (nI (cl_l tx n))) ∧ sh_ = sh ∧ mr_ = mr ∧ ag_1 17 mi mi_ ∧ ∀ k, 1 ≤ k → k ≤ 26 → mi_ 17 k = nI (ct tx k n)) := by
  refine lp_i 27 (fun i hi ih => ?_)
  intro hi1 m hag hz
  refine ev_iload_n dX4_countLetters_4 rfl ?_
  refine ev_bipush (v := 26) dX4_countLetters_5 rfl ?_
  refine ev_icmp_gt (tgt := 23) dX4_countLetters_7 rfl (fun h7 => ?_) (fun h7 => ?_)
  · have hin : 26 < i := (nl_lt (x := 26) (a := 26) rfl (b := i) rfl (by decide) (by omega)).mp h7
    refine ev_iconst (v := 0) dX4_countLetters_23 rfl ?_
    refine ev_istore_n dX4_countLetters_24 (by decide) ?_
    exact lp_X4_count2 hB n hn hn40 tx htx 0 (Nat.zero_le n) m hag (fun k h1 h2 => hz k h1 (by omega))
  · have hlt : i < 27 := by have := (not_congr (nl_lt (x := 26) (a := 26) rfl (b := i) rfl (by decide) (by omega))).mp h7; omega
    refine ev_aload_n dX4_countLetters_10 rfl ?_
    refine ev_getq dX4_countLetters_11 fl_X4_34 rfl (hB.1 12 _ rfl) (hB.2 12 7 _ rfl) ?_
    refine ev_iload_n dX4_countLetters_14 rfl ?_
    refine ev_iconst (v := 0) dX4_countLetters_15 rfl ?_
    refine ev_iast dX4_countLetters_16 (hB.1 17 _ rfl) (j := i) rfl (by omega) (by decide) ?_
    refine ev_iincN dX4_countLetters_17 rfl (by decide) ?_
    refine ev_goto (tgt := 4) dX4_countLetters_20 rfl ?_
    refine ih hlt (by omega) _ (ag_up hag) (fun k h1 h2 => ?_)
    by_cases hk : k = i
    · subst hk; exact up_at
    · rw [up_ne (Or.inr hk)]; exact hz k h1 (by omega)
set_option maxRecDepth 100000 in
set_option maxHeartbeats 4000000 in
theorem t_X4_countLetters {sh : SH} {mi : MI} {mr : MR} (hB : ba_c sh mr) (n : Nat) (hn : mi 12 3 = nI n) (hn40 : n ≤ 40) (tx : Nat → Nat) (htx : ∀ i, i < n → mi 16 i = nI (tx i) ∧ tx i ≤ 26) : EV none 0 0 0 mX4_countLetters 0 (en_l mX4_countLetters [pv_r 12]) [] sh mi mr (fun v_ sh_ mi_ mr_ => v_ = some (pv_i (nI (cl_l tx n))) ∧ sh_ = sh ∧ mr_ = mr ∧ ag_1 17 mi mi_ ∧ ∀ k, 1 ≤ k → k ≤ 26 → mi_ 17 k = nI (ct tx k n)) := by
  show EV none 0 0 0 mX4_countLetters 0 [some (pv_r 12), none, none] [] sh mi mr _
  refine ev_iconst (v := 0) dX4_countLetters_0 rfl ?_
  refine ev_istore_n dX4_countLetters_1 (by decide) ?_
  refine ev_iconst (v := 1) dX4_countLetters_2 rfl ?_
  refine ev_istore_n dX4_countLetters_3 (by decide) ?_
  exact lp_X4_count1 hB n hn hn40 tx htx 1 (by decide) (by decide) mi (fun _ _ _ => rfl) (fun k h1 h2 => by omega)
set_option maxRecDepth 100000 in
set_option maxHeartbeats 4000000 in
theorem lp_X4_wouldBlunt {sh : SH} {mi : MI} {mr : MR} (hB : ba_c sh mr) : ∀ i, i ≤ 27 → 1 ≤ i → (∀ k, 1 ≤ k → k < i → ¬ (¬ mi 17 k ≤ 0 ∧ ¬ (mi 14 k + mi 17 k) ≤ mi 12 5)) → EV none 0 0 0 mX4_wouldBlunt 2 [some (pv_r 12), some (pv_i (nI i))] [] sh mi mr (fun v_ sh_ mi_ mr_ => ((∃ k, 1 ≤ k ∧ k ≤ 26 ∧ (¬ mi 17 k ≤ 0 ∧ ¬ (mi 14 k + mi 17 k) ≤ mi 12 5)) ∧ (ok_r sh mr 1 mi) v_ sh_ mi_ mr_) ∨ ((∀ k, 1 ≤ k → k ≤ 26 → ¬ (¬ mi 17 k ≤ 0 ∧ ¬ (mi 14 k + mi 17 k) ≤ mi 12 5)) ∧ (ok_r sh mr 0 mi) v_ sh_ mi_ mr_)) := by
  refine lp_i 27 (fun i hi ih => ?_)
  intro hi1 hz
  refine ev_iload_n dX4_wouldBlunt_2 rfl ?_
  refine ev_bipush (v := 26) dX4_wouldBlunt_3 rfl ?_
  refine ev_icmp_gt (tgt := 45) dX4_wouldBlunt_5 rfl (fun h5 => ?_) (fun h5 => ?_)
  · have hin : 26 < i := (nl_lt (x := 26) (a := 26) rfl (b := i) rfl (by decide) (by omega)).mp h5
    refine ev_iconst (v := 0) dX4_wouldBlunt_45 rfl ?_
    exact ev_ireturn (ty := .boolean) dX4_wouldBlunt_46 rfl rfl (Or.inr ⟨fun k h1 h2 => hz k h1 (by omega), rfl, rfl, rfl, rfl⟩)
  · have hlt : i < 27 := by have := (not_congr (nl_lt (x := 26) (a := 26) rfl (b := i) rfl (by decide) (by omega))).mp h5; omega
    refine ev_aload_n dX4_wouldBlunt_8 rfl ?_
    refine ev_getq dX4_wouldBlunt_9 fl_X4_34 rfl (hB.1 12 _ rfl) (hB.2 12 7 _ rfl) ?_
    refine ev_iload_n dX4_wouldBlunt_12 rfl ?_
    refine ev_iald dX4_wouldBlunt_13 (hB.1 17 _ rfl) (j := i) rfl (by omega) (by decide) ?_
    refine ev_if_le (tgt := 39) dX4_wouldBlunt_14 rfl (fun h14 => ?_) (fun h14 => ?_)
    · refine ev_iincN dX4_wouldBlunt_39 rfl (by decide) ?_
      refine ev_goto (tgt := 2) dX4_wouldBlunt_42 rfl ?_
      exact ih hlt (by omega) (fun k h1 h2 => by
        by_cases hk : k = i
        · subst hk; exact fun q => q.1 h14
        · exact hz k h1 (by omega))
    · refine ev_aload_n dX4_wouldBlunt_17 rfl ?_
      refine ev_getq dX4_wouldBlunt_18 fl_X4_15 rfl (hB.1 12 _ rfl) (hB.2 12 1 _ rfl) ?_
      refine ev_iload_n dX4_wouldBlunt_21 rfl ?_
      refine ev_iald dX4_wouldBlunt_22 (hB.1 14 _ rfl) (j := i) rfl (by omega) (by decide) ?_
      refine ev_aload_n dX4_wouldBlunt_23 rfl ?_
      refine ev_getq dX4_wouldBlunt_24 fl_X4_34 rfl (hB.1 12 _ rfl) (hB.2 12 7 _ rfl) ?_
      refine ev_iload_n dX4_wouldBlunt_27 rfl ?_
      refine ev_iald dX4_wouldBlunt_28 (hB.1 17 _ rfl) (j := i) rfl (by omega) (by decide) ?_
      refine ev_iadd dX4_wouldBlunt_29 ?_
      refine ev_aload_n dX4_wouldBlunt_30 rfl ?_
      refine ev_geti dX4_wouldBlunt_31 fl_X4_28 rfl (hB.1 12 _ rfl) ?_
      refine ev_icmp_le (tgt := 39) dX4_wouldBlunt_34 rfl (fun h34 => ?_) (fun h34 => ?_)
      · refine ev_iincN dX4_wouldBlunt_39 rfl (by decide) ?_
        refine ev_goto (tgt := 2) dX4_wouldBlunt_42 rfl ?_
        exact ih hlt (by omega) (fun k h1 h2 => by
          by_cases hk : k = i
          · subst hk; exact fun q => q.2 h34
          · exact hz k h1 (by omega))
      · refine ev_iconst (v := 1) dX4_wouldBlunt_37 rfl ?_
        exact ev_ireturn (ty := .boolean) dX4_wouldBlunt_38 rfl rfl (Or.inl ⟨⟨i, hi1, by omega, h14, h34⟩, rfl, rfl, rfl, rfl⟩)
set_option maxRecDepth 100000 in
set_option maxHeartbeats 4000000 in
theorem t_X4_wouldBlunt {sh : SH} {mi : MI} {mr : MR} (hB : ba_c sh mr) : EV none 0 0 0 mX4_wouldBlunt 0 (en_l mX4_wouldBlunt [pv_r 12]) [] sh mi mr (fun v_ sh_ mi_ mr_ => ((∃ k, 1 ≤ k ∧ k ≤ 26 ∧ (¬ mi 17 k ≤ 0 ∧ ¬ (mi 14 k + mi 17 k) ≤ mi 12 5)) ∧ (ok_r sh mr 1 mi) v_ sh_ mi_ mr_) ∨ ((∀ k, 1 ≤ k → k ≤ 26 → ¬ (¬ mi 17 k ≤ 0 ∧ ¬ (mi 14 k + mi 17 k) ≤ mi 12 5)) ∧ (ok_r sh mr 0 mi) v_ sh_ mi_ mr_)) := by
  show EV none 0 0 0 mX4_wouldBlunt 0 [some (pv_r 12), none] [] sh mi mr _
  refine ev_iconst (v := 1) dX4_wouldBlunt_0 rfl ?_
  refine ev_istore_n dX4_wouldBlunt_1 (by decide) ?_
  exact lp_X4_wouldBlunt hB 1 (by decide) (by decide) (fun k h1 h2 => by omega)
set_option maxRecDepth 100000 in
set_option maxHeartbeats 4000000 in
theorem lp_X4_stampAll {sh : SH} {mi : MI} {mr : MR} (hB : ba_c sh mr) : ∀ i, i ≤ 27 → 1 ≤ i → ∀ m, ag_1 14 mi m → (∀ k, 1 ≤ k → k < i → m 14 k = mi 14 k + mi 17 k) → (∀ k, i ≤ k → k ≤ 26 → m 14 k = mi 14 k) → EV none 0 0 0 mX4_stampAll 2 [some (pv_r 12), some (pv_i (nI i))] [] sh m mr (fun v_ sh_ mi_ mr_ => v_ = none ∧ sh_ = sh ∧ mr_ = mr ∧ ag_1 14 mi mi_ ∧ ∀ k, 1 ≤ k → k ≤ 26 → mi_ 14 k = mi 14 k + mi 17 k) := by
  refine lp_i 27 (fun i hi ih => ?_)
  intro hi1 m hag hs hr
  refine ev_iload_n dX4_stampAll_2 rfl ?_
  refine ev_bipush (v := 26) dX4_stampAll_3 rfl ?_
  refine ev_icmp_gt (tgt := 29) dX4_stampAll_5 rfl (fun h5 => ?_) (fun h5 => ?_)
  · have hin : 26 < i := (nl_lt (x := 26) (a := 26) rfl (b := i) rfl (by decide) (by omega)).mp h5
    exact ev_return dX4_stampAll_29 rfl ⟨rfl, rfl, rfl, hag, fun k h1 h2 => hs k h1 (by omega)⟩
  · have hlt : i < 27 := by have := (not_congr (nl_lt (x := 26) (a := 26) rfl (b := i) rfl (by decide) (by omega))).mp h5; omega
    refine ev_aload_n dX4_stampAll_8 rfl ?_
    refine ev_getq dX4_stampAll_9 fl_X4_15 rfl (hB.1 12 _ rfl) (hB.2 12 1 _ rfl) ?_
    refine ev_iload_n dX4_stampAll_12 rfl ?_
    refine ev_dup2 dX4_stampAll_13 ?_
    refine ev_iald dX4_stampAll_14 (hB.1 14 _ rfl) (j := i) rfl (by omega) (by decide) ?_
    refine ev_aload_n dX4_stampAll_15 rfl ?_
    refine ev_getq dX4_stampAll_16 fl_X4_34 rfl (hB.1 12 _ rfl) (hB.2 12 7 _ rfl) ?_
    refine ev_iload_n dX4_stampAll_19 rfl ?_
    refine ev_iald dX4_stampAll_20 (hB.1 17 _ rfl) (j := i) rfl (by omega) (by decide) ?_
    refine ev_iadd dX4_stampAll_21 ?_
    refine ev_iast dX4_stampAll_22 (hB.1 14 _ rfl) (j := i) rfl (by omega) (by decide) ?_
    refine ev_iincN dX4_stampAll_23 rfl (by decide) ?_
    refine ev_goto (tgt := 2) dX4_stampAll_26 rfl ?_
    refine ih hlt (by omega) _ (ag_up hag) (fun k h1 h2 => ?_) (fun k h1 h2 => ?_)
    · by_cases hk : k = i
      · subst hk; rw [up_at, hr k (Nat.le_refl k) (by omega), hag 17 k (by decide)]
      · rw [up_ne (Or.inr hk)]; exact hs k h1 (by omega)
    · rw [up_ne (Or.inr (by omega))]; exact hr k (by omega) h2
set_option maxRecDepth 100000 in
set_option maxHeartbeats 4000000 in
theorem t_X4_stampAll {sh : SH} {mi : MI} {mr : MR} (hB : ba_c sh mr) : EV none 0 0 0 mX4_stampAll 0 (en_l mX4_stampAll [pv_r 12]) [] sh mi mr (fun v_ sh_ mi_ mr_ => v_ = none ∧ sh_ = sh ∧ mr_ = mr ∧ ag_1 14 mi mi_ ∧ ∀ k, 1 ≤ k → k ≤ 26 → mi_ 14 k = mi 14 k + mi 17 k) := by
  show EV none 0 0 0 mX4_stampAll 0 [some (pv_r 12), none] [] sh mi mr _
  refine ev_iconst (v := 1) dX4_stampAll_0 rfl ?_
  refine ev_istore_n dX4_stampAll_1 (by decide) ?_
  exact lp_X4_stampAll hB 1 (by decide) (by decide) mi (fun _ _ _ => rfl) (fun k h1 h2 => by omega) (fun k h1 h2 => rfl)
set_option maxRecDepth 100000 in
set_option maxHeartbeats 4000000 in
theorem t_X5_stamp {sh : SH} {mi : MI} {mr : MR} (hB : ba_c sh mr) (n : Nat) (hn : mi 12 3 = nI n) (hn40 : n ≤ 40) (tx : Nat → Nat) (htx : ∀ i, i < n → mi 16 i = nI (tx i) ∧ tx i ≤ 26) : EV none 1 0 0 mX5_stamp 0 (en_l mX5_stamp [pv_r 0]) [] sh mi mr (fun v_ sh_ mi_ mr_ => sh_ = sh ∧ mr_ = mr ∧ ((nI (cl_l tx n) = 0 ∧ v_ = some (pv_i (-4)) ∧ ag_1 17 mi mi_) ∨ (¬ nI (cl_l tx n) = 0 ∧ (∃ k, 1 ≤ k ∧ k ≤ 26 ∧ (¬ nI (ct tx k n) ≤ 0 ∧ ¬ (mi 14 k + nI (ct tx k n)) ≤ mi 12 5)) ∧ v_ = some (pv_i (-5)) ∧ ag_1 17 mi mi_) ∨ (¬ nI (cl_l tx n) = 0 ∧ (∀ k, 1 ≤ k → k ≤ 26 → ¬ (¬ nI (ct tx k n) ≤ 0 ∧ ¬ (mi 14 k + nI (ct tx k n)) ≤ mi 12 5)) ∧ v_ = some (pv_i (nI (cl_l tx n))) ∧ (∀ a c, a ≠ 17 → a ≠ 14 → mi_ a c = mi a c) ∧ ∀ k, 1 ≤ k → k ≤ 26 → mi_ 14 k = mi 14 k + nI (ct tx k n)))) := by
  show EV none 1 0 0 mX5_stamp 0 [some (pv_r 0), none] [] sh mi mr _
  refine ev_aload_n dX5_stamp_0 rfl ?_
  refine ev_getq dX5_stamp_1 fl_X5_25 rfl (hB.1 0 _ rfl) (hB.2 0 2 _ rfl) ?_
  refine ev_callv (av := []) dX5_stamp_4 cv_X5_177 (hB.1 12 _ rfl) rfl rfl (Nat.le_of_ble_eq_true rfl) (by decide) (Or.inl (fun v_ s_ m_ r_ h_ => by rw [h_.2.1])) (Nat.zero_add _) (Nat.zero_add _) (t_X4_countLetters hB n hn hn40 tx htx) ?_
  rintro v_ sh_ m1 mr_ ⟨e1_, e2_, e3_, hag, hct⟩
  subst e1_
  have e2_ := e2_.symm
  subst e2_
  have e3_ := e3_.symm
  subst e3_
  refine ev_istore_n dX5_stamp_7 (by decide) ?_
  refine ev_iload_n dX5_stamp_8 rfl ?_
  refine ev_if_ne (tgt := 15) dX5_stamp_9 rfl (fun h9 => ?_) (fun h9 => ?_)
  · refine ev_aload_n dX5_stamp_15 rfl ?_
    refine ev_getq dX5_stamp_16 fl_X5_25 rfl (hB.1 0 _ rfl) (hB.2 0 2 _ rfl) ?_
    refine ev_callv (av := []) dX5_stamp_19 cv_X5_180 (hB.1 12 _ rfl) rfl rfl (Nat.le_of_ble_eq_true rfl) (by decide) (Or.inl (fun v_ s_ m_ r_ h_ => by rcases h_ with ⟨_, _, e_, _, _⟩ | ⟨_, _, e_, _, _⟩ <;> rw [e_])) (Nat.zero_add _) (Nat.zero_add _) (t_X4_wouldBlunt hB) ?_
    rintro v_ sh_ mi_ mr_ (⟨qa, e1_, e2_, e3_, e4_⟩ | ⟨qb, e1_, e2_, e3_, e4_⟩)
    · subst e1_
      have e2_ := e2_.symm
      subst e2_
      have e3_ := e3_.symm
      subst e3_
      have e4_ := e4_.symm
      subst e4_
      refine ev_if_eq_f (tgt := 28) dX5_stamp_22 rfl (by decide) ?_
      refine ev_bipush (v := (-5)) dX5_stamp_25 rfl ?_
      exact ev_ireturn (ty := .int) dX5_stamp_27 rfl rfl ⟨rfl, rfl, Or.inr (Or.inl ⟨h9, by obtain ⟨k, h1, h2, h3⟩ := qa; rw [hct k h1 h2, hag 14 k (by decide), hag 12 5 (by decide)] at h3; exact ⟨k, h1, h2, h3⟩, rfl, hag⟩)⟩
    · subst e1_
      have e2_ := e2_.symm
      subst e2_
      have e3_ := e3_.symm
      subst e3_
      have e4_ := e4_.symm
      subst e4_
      refine ev_if_eq_t (tgt := 28) dX5_stamp_22 rfl (by decide) ?_
      refine ev_aload_n dX5_stamp_28 rfl ?_
      refine ev_getq dX5_stamp_29 fl_X5_25 rfl (hB.1 0 _ rfl) (hB.2 0 2 _ rfl) ?_
      refine ev_callv (av := []) dX5_stamp_32 cv_X5_183 (hB.1 12 _ rfl) rfl rfl (Nat.le_of_ble_eq_true rfl) (by decide) (Or.inl (fun v_ s_ m_ r_ h_ => by rw [h_.2.1])) (Nat.zero_add _) (Nat.zero_add _) (t_X4_stampAll hB) ?_
      rintro v_ sh_ m2 mr_ ⟨e1_, e2_, e3_, hag2, hst⟩
      subst e1_
      have e2_ := e2_.symm
      subst e2_
      have e3_ := e3_.symm
      subst e3_
      refine ev_iload_n dX5_stamp_35 rfl ?_
      exact ev_ireturn (ty := .int) dX5_stamp_36 rfl rfl ⟨rfl, rfl, Or.inr (Or.inr ⟨h9, fun k h1 h2 => by have h3 := qb k h1 h2; rw [hct k h1 h2, hag 14 k (by decide), hag 12 5 (by decide)] at h3; exact h3, rfl, fun a c h1 h2 => (hag2 a c h2).trans (hag a c h1), fun k h1 h2 => by rw [hst k h1 h2, hct k h1 h2, hag 14 k (by decide)]⟩)⟩
  · refine ev_bipush (v := (-4)) dX5_stamp_12 rfl ?_
    exact ev_ireturn (ty := .int) dX5_stamp_14 rfl rfl ⟨rfl, rfl, Or.inl ⟨h9, rfl, hag⟩⟩
