set_option maxRecDepth 100000 in
set_option maxHeartbeats 4000000 in
theorem t_X5_days {sh : SH} {mi : MI} {mr : MR} (hB : ba_c sh mr) (n : Int32) : EV none 2 0 0 mX5_days 0 (en_l mX5_days [pv_r 0, pv_i n]) [] sh mi mr (fun v_ sh_ mi_ mr_ => ((¬ (1 ≤ n ∧ n ≤ 100)) ∧ (ok_r sh mr (-3) mi) v_ sh_ mi_ mr_) ∨ ((1 ≤ n ∧ n ≤ 100) ∧ (((mi 0 7) + n) ≤ 1000) ∧ (ok_r sh mr ((up_2 mi 0 7 ((mi 0 7) + n)) 0 7) (up_2 mi 0 7 ((mi 0 7) + n))) v_ sh_ mi_ mr_) ∨ ((1 ≤ n ∧ n ≤ 100) ∧ (¬ ((mi 0 7) + n) ≤ 1000) ∧ (ok_r sh mr (-3) mi) v_ sh_ mi_ mr_)) := by
  show EV none 2 0 0 mX5_days 0 [some (pv_r 0), some (pv_i n)] [] sh mi mr _
  refine ev_iload_n dX5_days_0 rfl ?_
  refine ev_iconst (v := 1) dX5_days_1 rfl ?_
  refine ev_bipush (v := 100) dX5_days_2 rfl ?_
  refine ev_s3i dX5_days_4 cs_X5_57 (Nat.le_of_ble_eq_true rfl) (by decide) (t_X5_within _ _ _) ?_
  refine ev_ifb_eq (tgt := 22) dX5_days_7 rfl (fun h7 => ?_) (fun h7 => ?_)
  · refine ev_bipush (v := (-3)) dX5_days_22 rfl ?_
    exact ev_ireturn (ty := .int) dX5_days_24 rfl rfl (Or.inl ⟨h7, rfl, rfl, rfl, rfl⟩)
  · refine ev_aload_n dX5_days_10 rfl ?_
    refine ev_geti dX5_days_11 fl_X5_49 rfl (hB.1 0 _ rfl) ?_
    refine ev_iload_n dX5_days_14 rfl ?_
    refine ev_iadd dX5_days_15 ?_
    refine ev_sipush (v := 1000) dX5_days_16 rfl ?_
    refine ev_icmp_le (tgt := 25) dX5_days_19 rfl (fun h19 => ?_) (fun h19 => ?_)
    · refine ev_aload_n dX5_days_25 rfl ?_
      refine ev_dup dX5_days_26 ?_
      refine ev_geti dX5_days_27 fl_X5_49 rfl (hB.1 0 _ rfl) ?_
      refine ev_iload_n dX5_days_30 rfl ?_
      refine ev_iadd dX5_days_31 ?_
      refine ev_puti dX5_days_32 fl_X5_49 rfl rfl (hB.1 0 _ rfl) ?_
      refine ev_aload_n dX5_days_35 rfl ?_
      refine ev_geti dX5_days_36 fl_X5_49 rfl (hB.1 0 _ rfl) ?_
      exact ev_ireturn (ty := .int) dX5_days_39 rfl rfl (Or.inr (Or.inl ⟨h7, h19, rfl, rfl, rfl, rfl⟩))
    · refine ev_bipush (v := (-3)) dX5_days_22 rfl ?_
      exact ev_ireturn (ty := .int) dX5_days_24 rfl rfl (Or.inr (Or.inr ⟨h7, h19, rfl, rfl, rfl, rfl⟩))
set_option maxRecDepth 100000 in
set_option maxHeartbeats 4000000 in
theorem t_X6_days {sh : SH} {mi : MI} {mr : MR} (hB : ba_c sh mr) (n : Int32) : EV none 2 0 0 mX6_days 0 (en_l mX6_days [pv_r 29, pv_i n]) [] sh mi mr (fun v_ sh_ mi_ mr_ => ((¬ (1 ≤ n ∧ n ≤ 100)) ∧ (ok_r sh mr (-3) mi) v_ sh_ mi_ mr_) ∨ ((1 ≤ n ∧ n ≤ 100) ∧ (((mi 29 0) + n) ≤ 1000) ∧ (ok_r sh mr ((up_2 mi 29 0 ((mi 29 0) + n)) 29 0) (up_2 mi 29 0 ((mi 29 0) + n))) v_ sh_ mi_ mr_) ∨ ((1 ≤ n ∧ n ≤ 100) ∧ (¬ ((mi 29 0) + n) ≤ 1000) ∧ (ok_r sh mr (-3) mi) v_ sh_ mi_ mr_)) := by
  show EV none 2 0 0 mX6_days 0 [some (pv_r 29), some (pv_i n)] [] sh mi mr _
  refine ev_iload_n dX6_days_0 rfl ?_
  refine ev_iconst (v := 1) dX6_days_1 rfl ?_
  refine ev_bipush (v := 100) dX6_days_2 rfl ?_
  refine ev_s3i dX6_days_4 cs_X6_129 (Nat.le_of_ble_eq_true rfl) (by decide) (t_X6_in _ _ _) ?_
  refine ev_ifb_eq (tgt := 22) dX6_days_7 rfl (fun h7 => ?_) (fun h7 => ?_)
  · refine ev_bipush (v := (-3)) dX6_days_22 rfl ?_
    exact ev_ireturn (ty := .int) dX6_days_24 rfl rfl (Or.inl ⟨h7, rfl, rfl, rfl, rfl⟩)
  · refine ev_aload_n dX6_days_10 rfl ?_
    refine ev_geti dX6_days_11 fl_X6_148 rfl (hB.1 29 _ rfl) ?_
    refine ev_iload_n dX6_days_14 rfl ?_
    refine ev_iadd dX6_days_15 ?_
    refine ev_sipush (v := 1000) dX6_days_16 rfl ?_
    refine ev_icmp_le (tgt := 25) dX6_days_19 rfl (fun h19 => ?_) (fun h19 => ?_)
    · refine ev_aload_n dX6_days_25 rfl ?_
      refine ev_dup dX6_days_26 ?_
      refine ev_geti dX6_days_27 fl_X6_148 rfl (hB.1 29 _ rfl) ?_
      refine ev_iload_n dX6_days_30 rfl ?_
      refine ev_iadd dX6_days_31 ?_
      refine ev_puti dX6_days_32 fl_X6_148 rfl rfl (hB.1 29 _ rfl) ?_
      refine ev_aload_n dX6_days_35 rfl ?_
      refine ev_geti dX6_days_36 fl_X6_148 rfl (hB.1 29 _ rfl) ?_
      exact ev_ireturn (ty := .int) dX6_days_39 rfl rfl (Or.inr (Or.inl ⟨h7, h19, rfl, rfl, rfl, rfl⟩))
    · refine ev_bipush (v := (-3)) dX6_days_22 rfl ?_
      exact ev_ireturn (ty := .int) dX6_days_24 rfl rfl (Or.inr (Or.inr ⟨h7, h19, rfl, rfl, rfl, rfl⟩))
set_option maxRecDepth 100000 in
set_option maxHeartbeats 4000000 in
theorem t_X1_noteRate {sh : SH} {mi : MI} {mr : MR} (hB : ba_c sh mr) (p1 p2 p3 p4 : Int32) (n : Nat) (hn : mi 22 0 = nI n) (hn30 : n ≤ 30) : EV none 0 0 0 mX1_noteRate 0 (en_l mX1_noteRate [pv_r 22, pv_i p1, pv_i p2, pv_i p3, pv_i p4]) [] sh mi mr (fun v_ sh_ mi_ mr_ => (((mi 22 0) < 30) ∧ (ok_r sh mr ((up_2 (up_2 (up_2 (up_2 (up_2 mi 23 n p1) 24 n p2) 25 n p3) 26 n p4) 22 0 (((up_2 (up_2 (up_2 (up_2 mi 23 n p1) 24 n p2) 25 n p3) 26 n p4) 22 0) + 1)) 22 0) (up_2 (up_2 (up_2 (up_2 (up_2 mi 23 n p1) 24 n p2) 25 n p3) 26 n p4) 22 0 (((up_2 (up_2 (up_2 (up_2 mi 23 n p1) 24 n p2) 25 n p3) 26 n p4) 22 0) + 1))) v_ sh_ mi_ mr_) ∨ ((¬ (mi 22 0) < 30) ∧ (ok_r sh mr (-6) mi) v_ sh_ mi_ mr_)) := by
  show EV none 0 0 0 mX1_noteRate 0 [some (pv_r 22), some (pv_i p1), some (pv_i p2), some (pv_i p3), some (pv_i p4)] [] sh mi mr _
  refine ev_aload_n dX1_noteRate_0 rfl ?_
  refine ev_geti dX1_noteRate_1 fl_X1_9 rfl (hB.1 22 _ rfl) ?_
  refine ev_bipush (v := 30) dX1_noteRate_4 rfl ?_
  refine ev_icmp_lt (tgt := 12) dX1_noteRate_6 rfl (fun h6 => ?_) (fun h6 => ?_)
  · refine ev_aload_n dX1_noteRate_12 rfl ?_
    refine ev_getq dX1_noteRate_13 fl_X1_18 rfl (hB.1 22 _ rfl) (hB.2 22 2 _ rfl) ?_
    refine ev_aload_n dX1_noteRate_16 rfl ?_
    refine ev_geti dX1_noteRate_17 fl_X1_9 rfl (hB.1 22 _ rfl) ?_
    refine ev_iload_n dX1_noteRate_20 rfl ?_
    refine ev_iast dX1_noteRate_21 (hB.1 23 _ rfl) (j := n) (by simp [up_2, pk_mul, nI_add, n_5, n_6, n_12, n_144, hn]) ((nl_lt hn (b := 30) rfl (by omega) (by decide)).mp h6) (by decide) ?_
    refine ev_aload_n dX1_noteRate_22 rfl ?_
    refine ev_getq dX1_noteRate_23 fl_X1_22 rfl (hB.1 22 _ rfl) (hB.2 22 3 _ rfl) ?_
    refine ev_aload_n dX1_noteRate_26 rfl ?_
    refine ev_geti dX1_noteRate_27 fl_X1_9 rfl (hB.1 22 _ rfl) ?_
    refine ev_iload_n dX1_noteRate_30 rfl ?_
    refine ev_iast dX1_noteRate_31 (hB.1 24 _ rfl) (j := n) (by simp [up_2, pk_mul, nI_add, n_5, n_6, n_12, n_144, hn]) ((nl_lt hn (b := 30) rfl (by omega) (by decide)).mp h6) (by decide) ?_
    refine ev_aload_n dX1_noteRate_32 rfl ?_
    refine ev_getq dX1_noteRate_33 fl_X1_25 rfl (hB.1 22 _ rfl) (hB.2 22 4 _ rfl) ?_
    refine ev_aload_n dX1_noteRate_36 rfl ?_
    refine ev_geti dX1_noteRate_37 fl_X1_9 rfl (hB.1 22 _ rfl) ?_
    refine ev_iload_n dX1_noteRate_40 rfl ?_
    refine ev_iast dX1_noteRate_41 (hB.1 25 _ rfl) (j := n) (by simp [up_2, pk_mul, nI_add, n_5, n_6, n_12, n_144, hn]) ((nl_lt hn (b := 30) rfl (by omega) (by decide)).mp h6) (by decide) ?_
    refine ev_aload_n dX1_noteRate_42 rfl ?_
    refine ev_getq dX1_noteRate_43 fl_X1_28 rfl (hB.1 22 _ rfl) (hB.2 22 5 _ rfl) ?_
    refine ev_aload_n dX1_noteRate_46 rfl ?_
    refine ev_geti dX1_noteRate_47 fl_X1_9 rfl (hB.1 22 _ rfl) ?_
    refine ev_iload dX1_noteRate_50 rfl ?_
    refine ev_iast dX1_noteRate_52 (hB.1 26 _ rfl) (j := n) (by simp [up_2, pk_mul, nI_add, n_5, n_6, n_12, n_144, hn]) ((nl_lt hn (b := 30) rfl (by omega) (by decide)).mp h6) (by decide) ?_
    refine ev_aload_n dX1_noteRate_53 rfl ?_
    refine ev_dup dX1_noteRate_54 ?_
    refine ev_geti dX1_noteRate_55 fl_X1_9 rfl (hB.1 22 _ rfl) ?_
    refine ev_iconst (v := 1) dX1_noteRate_58 rfl ?_
    refine ev_iadd dX1_noteRate_59 ?_
    refine ev_puti dX1_noteRate_60 fl_X1_9 rfl rfl (hB.1 22 _ rfl) ?_
    refine ev_aload_n dX1_noteRate_63 rfl ?_
    refine ev_geti dX1_noteRate_64 fl_X1_9 rfl (hB.1 22 _ rfl) ?_
    exact ev_ireturn (ty := .int) dX1_noteRate_67 rfl rfl (Or.inl ⟨h6, rfl, rfl, rfl, rfl⟩)
  · refine ev_bipush (v := (-6)) dX1_noteRate_9 rfl ?_
    exact ev_ireturn (ty := .int) dX1_noteRate_11 rfl rfl (Or.inr ⟨h6, rfl, rfl, rfl, rfl⟩)
set_option maxRecDepth 100000 in
set_option maxHeartbeats 4000000 in
theorem t_X5_rate {sh : SH} {mi : MI} {mr : MR} (hB : ba_c sh mr) (p1 p2 p3 : Int32) (n : Nat) (hn : mi 22 0 = nI n) (hn30 : n ≤ 30) : EV none 2 0 0 mX5_rate 0 (en_l mX5_rate [pv_r 0, pv_i p1, pv_i p2, pv_i p3]) [] sh mi mr (fun v_ sh_ mi_ mr_ => ((0 ≤ p1 ∧ p1 ≤ 4) ∧ (¬ (0 ≤ p2 ∧ p2 ≤ 1000)) ∧ (ok_r sh mr (-3) mi) v_ sh_ mi_ mr_) ∨ ((0 ≤ p1 ∧ p1 ≤ 4) ∧ (0 ≤ p2 ∧ p2 ≤ 1000) ∧ (0 ≤ p3 ∧ p3 ≤ 500) ∧ ((mi 22 0) < 30) ∧ (ok_r sh mr ((up_2 (up_2 (up_2 (up_2 (up_2 mi 23 n p1) 24 n p2) 25 n p3) 26 n (mi 0 7)) 22 0 (((up_2 (up_2 (up_2 (up_2 mi 23 n p1) 24 n p2) 25 n p3) 26 n (mi 0 7)) 22 0) + 1)) 22 0) (up_2 (up_2 (up_2 (up_2 (up_2 mi 23 n p1) 24 n p2) 25 n p3) 26 n (mi 0 7)) 22 0 (((up_2 (up_2 (up_2 (up_2 mi 23 n p1) 24 n p2) 25 n p3) 26 n (mi 0 7)) 22 0) + 1))) v_ sh_ mi_ mr_) ∨ ((0 ≤ p1 ∧ p1 ≤ 4) ∧ (0 ≤ p2 ∧ p2 ≤ 1000) ∧ (0 ≤ p3 ∧ p3 ≤ 500) ∧ (¬ (mi 22 0) < 30) ∧ (ok_r sh mr (-6) mi) v_ sh_ mi_ mr_) ∨ ((0 ≤ p1 ∧ p1 ≤ 4) ∧ (0 ≤ p2 ∧ p2 ≤ 1000) ∧ (¬ (0 ≤ p3 ∧ p3 ≤ 500)) ∧ (ok_r sh mr (-3) mi) v_ sh_ mi_ mr_) ∨ ((¬ (0 ≤ p1 ∧ p1 ≤ 4)) ∧ (ok_r sh mr (-2) mi) v_ sh_ mi_ mr_)) := by
  show EV none 2 0 0 mX5_rate 0 [some (pv_r 0), some (pv_i p1), some (pv_i p2), some (pv_i p3)] [] sh mi mr _
  refine ev_iload_n dX5_rate_0 rfl ?_
  refine ev_s1i dX5_rate_1 cs_X5_105 (Nat.le_of_ble_eq_true rfl) (by decide) (t_X5_isBench _) ?_
  refine ev_ifb_ne (tgt := 10) dX5_rate_4 rfl (fun h4 => ?_) (fun h4 => ?_)
  · refine ev_iload_n dX5_rate_10 rfl ?_
    refine ev_s1i dX5_rate_11 cs_X5_225 (Nat.le_of_ble_eq_true rfl) (by decide) (t_X5_isDay _) ?_
    refine ev_ifb_eq (tgt := 28) dX5_rate_14 rfl (fun h14 => ?_) (fun h14 => ?_)
    · refine ev_bipush (v := (-3)) dX5_rate_28 rfl ?_
      exact ev_ireturn (ty := .int) dX5_rate_30 rfl rfl (Or.inl ⟨h4, h14, rfl, rfl, rfl, rfl⟩)
    · refine ev_iload_n dX5_rate_17 rfl ?_
      refine ev_iconst (v := 0) dX5_rate_18 rfl ?_
      refine ev_sipush (v := 500) dX5_rate_19 rfl ?_
      refine ev_s3i dX5_rate_22 cs_X5_57 (Nat.le_of_ble_eq_true rfl) (by decide) (t_X5_within _ _ _) ?_
      refine ev_ifb_ne (tgt := 31) dX5_rate_25 rfl (fun h25 => ?_) (fun h25 => ?_)
      · refine ev_aload_n dX5_rate_31 rfl ?_
        refine ev_getq dX5_rate_32 fl_X5_38 rfl (hB.1 0 _ rfl) (hB.2 0 4 _ rfl) ?_
        refine ev_iload_n dX5_rate_35 rfl ?_
        refine ev_iload_n dX5_rate_36 rfl ?_
        refine ev_iload_n dX5_rate_37 rfl ?_
        refine ev_aload_n dX5_rate_38 rfl ?_
        refine ev_geti dX5_rate_39 fl_X5_49 rfl (hB.1 0 _ rfl) ?_
        refine ev_callv (av := [pv_i p1, pv_i p2, pv_i p3, pv_i (mi 0 7)]) dX5_rate_42 cv_X5_228 (hB.1 22 _ rfl) rfl rfl (Nat.le_of_ble_eq_true rfl) (by decide) (Or.inl (fun v_ s_ m_ r_ h_ => by rcases h_ with ⟨_, _, e_, _, _⟩ | ⟨_, _, e_, _, _⟩ <;> rw [e_])) (Nat.zero_add _) (Nat.zero_add _) (t_X1_noteRate hB _ _ _ _ n hn hn30) ?_
        rintro v_ sh_ mi_ mr_ (⟨qh6, e1_, e2_, e3_, e4_⟩ | ⟨qh6, e1_, e2_, e3_, e4_⟩)
        · subst e1_
          have e2_ := e2_.symm
          subst e2_
          have e3_ := e3_.symm
          subst e3_
          have e4_ := e4_.symm
          subst e4_
          exact ev_ireturn (ty := .int) dX5_rate_45 rfl rfl (Or.inr (Or.inl ⟨h4, h14, h25, qh6, rfl, rfl, rfl, rfl⟩))
        · subst e1_
          have e2_ := e2_.symm
          subst e2_
          have e3_ := e3_.symm
          subst e3_
          have e4_ := e4_.symm
          subst e4_
          exact ev_ireturn (ty := .int) dX5_rate_45 rfl rfl (Or.inr (Or.inr (Or.inl ⟨h4, h14, h25, qh6, rfl, rfl, rfl, rfl⟩)))
      · refine ev_bipush (v := (-3)) dX5_rate_28 rfl ?_
        exact ev_ireturn (ty := .int) dX5_rate_30 rfl rfl (Or.inr (Or.inr (Or.inr (Or.inl ⟨h4, h14, h25, rfl, rfl, rfl, rfl⟩))))
  · refine ev_bipush (v := (-2)) dX5_rate_7 rfl ?_
    exact ev_ireturn (ty := .int) dX5_rate_9 rfl rfl (Or.inr (Or.inr (Or.inr (Or.inr ⟨h4, rfl, rfl, rfl, rfl⟩))))
set_option maxRecDepth 100000 in
set_option maxHeartbeats 4000000 in
theorem t_X6_rate {sh : SH} {mi : MI} {mr : MR} (hB : ba_c sh mr) (p1 p2 p3 : Int32) (n : Nat) (hn : mi 29 42 = nI n) (hn30 : n ≤ 30) : EV none 2 0 0 mX6_rate 0 (en_l mX6_rate [pv_r 29, pv_i p1, pv_i p2, pv_i p3]) [] sh mi mr (fun v_ sh_ mi_ mr_ => ((0 ≤ p1 ∧ p1 ≤ 4) ∧ (¬ (0 ≤ p2 ∧ p2 ≤ 1000)) ∧ (ok_r sh mr (-3) mi) v_ sh_ mi_ mr_) ∨ ((0 ≤ p1 ∧ p1 ≤ 4) ∧ (0 ≤ p2 ∧ p2 ≤ 1000) ∧ (0 ≤ p3 ∧ p3 ≤ 500) ∧ (¬ (mi 29 42) = 30) ∧ (ok_r sh mr ((up_2 (up_2 (up_2 (up_2 (up_2 mi 63 n p1) 64 n p2) 65 n p3) 66 n ((up_2 (up_2 (up_2 mi 63 n p1) 64 n p2) 65 n p3) 29 0)) 29 42 (((up_2 (up_2 (up_2 (up_2 mi 63 n p1) 64 n p2) 65 n p3) 66 n ((up_2 (up_2 (up_2 mi 63 n p1) 64 n p2) 65 n p3) 29 0)) 29 42) + 1)) 29 42) (up_2 (up_2 (up_2 (up_2 (up_2 mi 63 n p1) 64 n p2) 65 n p3) 66 n ((up_2 (up_2 (up_2 mi 63 n p1) 64 n p2) 65 n p3) 29 0)) 29 42 (((up_2 (up_2 (up_2 (up_2 mi 63 n p1) 64 n p2) 65 n p3) 66 n ((up_2 (up_2 (up_2 mi 63 n p1) 64 n p2) 65 n p3) 29 0)) 29 42) + 1))) v_ sh_ mi_ mr_) ∨ ((0 ≤ p1 ∧ p1 ≤ 4) ∧ (0 ≤ p2 ∧ p2 ≤ 1000) ∧ (0 ≤ p3 ∧ p3 ≤ 500) ∧ ((mi 29 42) = 30) ∧ (ok_r sh mr (-6) mi) v_ sh_ mi_ mr_) ∨ ((0 ≤ p1 ∧ p1 ≤ 4) ∧ (0 ≤ p2 ∧ p2 ≤ 1000) ∧ (¬ (0 ≤ p3 ∧ p3 ≤ 500)) ∧ (ok_r sh mr (-3) mi) v_ sh_ mi_ mr_) ∨ ((¬ (0 ≤ p1 ∧ p1 ≤ 4)) ∧ (ok_r sh mr (-2) mi) v_ sh_ mi_ mr_)) := by
  show EV none 2 0 0 mX6_rate 0 [some (pv_r 29), some (pv_i p1), some (pv_i p2), some (pv_i p3)] [] sh mi mr _
  refine ev_iload_n dX6_rate_0 rfl ?_
  refine ev_s1i dX6_rate_1 cs_X6_151 (Nat.le_of_ble_eq_true rfl) (by decide) (t_X6_isBench _) ?_
  refine ev_ifb_ne (tgt := 10) dX6_rate_4 rfl (fun h4 => ?_) (fun h4 => ?_)
  · refine ev_iload_n dX6_rate_10 rfl ?_
    refine ev_s1i dX6_rate_11 cs_X6_209 (Nat.le_of_ble_eq_true rfl) (by decide) (t_X6_isDay _) ?_
    refine ev_ifb_eq (tgt := 28) dX6_rate_14 rfl (fun h14 => ?_) (fun h14 => ?_)
    · refine ev_bipush (v := (-3)) dX6_rate_28 rfl ?_
      exact ev_ireturn (ty := .int) dX6_rate_30 rfl rfl (Or.inl ⟨h4, h14, rfl, rfl, rfl, rfl⟩)
    · refine ev_iload_n dX6_rate_17 rfl ?_
      refine ev_iconst (v := 0) dX6_rate_18 rfl ?_
      refine ev_sipush (v := 500) dX6_rate_19 rfl ?_
      refine ev_s3i dX6_rate_22 cs_X6_129 (Nat.le_of_ble_eq_true rfl) (by decide) (t_X6_in _ _ _) ?_
      refine ev_ifb_ne (tgt := 31) dX6_rate_25 rfl (fun h25 => ?_) (fun h25 => ?_)
      · refine ev_aload_n dX6_rate_31 rfl ?_
        refine ev_geti dX6_rate_32 fl_X6_212 rfl (hB.1 29 _ rfl) ?_
        refine ev_bipush (v := 30) dX6_rate_35 rfl ?_
        refine ev_icmp_ne (tgt := 43) dX6_rate_37 rfl (fun h37 => ?_) (fun h37 => ?_)
        · refine ev_aload_n dX6_rate_43 rfl ?_
          refine ev_getq dX6_rate_44 fl_X6_114 rfl (hB.1 29 _ rfl) (hB.2 29 43 _ rfl) ?_
          refine ev_aload_n dX6_rate_47 rfl ?_
          refine ev_geti dX6_rate_48 fl_X6_212 rfl (hB.1 29 _ rfl) ?_
          refine ev_iload_n dX6_rate_51 rfl ?_
          refine ev_iast dX6_rate_52 (hB.1 63 _ rfl) (j := n) (by simp [up_2, pk_mul, nI_add, n_5, n_6, n_12, n_144, hn]) (by have := (not_congr (nl_eq hn (b := 30) rfl (by omega) (by decide))).mp h37; omega) (by decide) ?_
          refine ev_aload_n dX6_rate_53 rfl ?_
          refine ev_getq dX6_rate_54 fl_X6_117 rfl (hB.1 29 _ rfl) (hB.2 29 44 _ rfl) ?_
          refine ev_aload_n dX6_rate_57 rfl ?_
          refine ev_geti dX6_rate_58 fl_X6_212 rfl (hB.1 29 _ rfl) ?_
          refine ev_iload_n dX6_rate_61 rfl ?_
          refine ev_iast dX6_rate_62 (hB.1 64 _ rfl) (j := n) (by simp [up_2, pk_mul, nI_add, n_5, n_6, n_12, n_144, hn]) (by have := (not_congr (nl_eq hn (b := 30) rfl (by omega) (by decide))).mp h37; omega) (by decide) ?_
          refine ev_aload_n dX6_rate_63 rfl ?_
          refine ev_getq dX6_rate_64 fl_X6_120 rfl (hB.1 29 _ rfl) (hB.2 29 45 _ rfl) ?_
          refine ev_aload_n dX6_rate_67 rfl ?_
          refine ev_geti dX6_rate_68 fl_X6_212 rfl (hB.1 29 _ rfl) ?_
          refine ev_iload_n dX6_rate_71 rfl ?_
          refine ev_iast dX6_rate_72 (hB.1 65 _ rfl) (j := n) (by simp [up_2, pk_mul, nI_add, n_5, n_6, n_12, n_144, hn]) (by have := (not_congr (nl_eq hn (b := 30) rfl (by omega) (by decide))).mp h37; omega) (by decide) ?_
          refine ev_aload_n dX6_rate_73 rfl ?_
          refine ev_getq dX6_rate_74 fl_X6_123 rfl (hB.1 29 _ rfl) (hB.2 29 46 _ rfl) ?_
          refine ev_aload_n dX6_rate_77 rfl ?_
          refine ev_geti dX6_rate_78 fl_X6_212 rfl (hB.1 29 _ rfl) ?_
          refine ev_aload_n dX6_rate_81 rfl ?_
          refine ev_geti dX6_rate_82 fl_X6_148 rfl (hB.1 29 _ rfl) ?_
          refine ev_iast dX6_rate_85 (hB.1 66 _ rfl) (j := n) (by simp [up_2, pk_mul, nI_add, n_5, n_6, n_12, n_144, hn]) (by have := (not_congr (nl_eq hn (b := 30) rfl (by omega) (by decide))).mp h37; omega) (by decide) ?_
          refine ev_aload_n dX6_rate_86 rfl ?_
          refine ev_dup dX6_rate_87 ?_
          refine ev_geti dX6_rate_88 fl_X6_212 rfl (hB.1 29 _ rfl) ?_
          refine ev_iconst (v := 1) dX6_rate_91 rfl ?_
          refine ev_iadd dX6_rate_92 ?_
          refine ev_puti dX6_rate_93 fl_X6_212 rfl rfl (hB.1 29 _ rfl) ?_
          refine ev_aload_n dX6_rate_96 rfl ?_
          refine ev_geti dX6_rate_97 fl_X6_212 rfl (hB.1 29 _ rfl) ?_
          exact ev_ireturn (ty := .int) dX6_rate_100 rfl rfl (Or.inr (Or.inl ⟨h4, h14, h25, h37, rfl, rfl, rfl, rfl⟩))
        · refine ev_bipush (v := (-6)) dX6_rate_40 rfl ?_
          exact ev_ireturn (ty := .int) dX6_rate_42 rfl rfl (Or.inr (Or.inr (Or.inl ⟨h4, h14, h25, h37, rfl, rfl, rfl, rfl⟩)))
      · refine ev_bipush (v := (-3)) dX6_rate_28 rfl ?_
        exact ev_ireturn (ty := .int) dX6_rate_30 rfl rfl (Or.inr (Or.inr (Or.inr (Or.inl ⟨h4, h14, h25, rfl, rfl, rfl, rfl⟩))))
  · refine ev_bipush (v := (-2)) dX6_rate_7 rfl ?_
    exact ev_ireturn (ty := .int) dX6_rate_9 rfl rfl (Or.inr (Or.inr (Or.inr (Or.inr ⟨h4, rfl, rfl, rfl, rfl⟩))))
/-- which of the rates counts, of the first i: the latest beginning, the last told -/
def ro (rb rf rt : Nat → Int32) (b d t : Int32) : Nat → Option Nat
  | 0 => none
  | i + 1 => match ro rb rf rt b d t i with
    | none => if rb i = b ∧ rt i ≤ t ∧ rf i ≤ d then some i else none
    | some k => if (rb i = b ∧ rt i ≤ t ∧ rf i ≤ d) ∧ rf k ≤ rf i then some i else some k
def ro_l (rf : Nat → Int32) (q : Option Nat) : Int32 := match q with
  | none => -1
  | some k => rf k
def ro_p (rp : Nat → Int32) (q : Option Nat) : Int32 := match q with
  | none => 0
  | some k => rp k
theorem ro_lt {rb rf rt : Nat → Int32} {b d t : Int32} : ∀ {i k : Nat}, ro rb rf rt b d t i = some k → k < i
  | 0, k, h => by cases h
  | i + 1, k, h => by
    unfold ro at h
    split at h
    · split at h
      · cases h; omega
      · cases h
    · rename_i q hq
      split at h
      · cases h; omega
      · cases h
        have := ro_lt hq
        omega
theorem ro_take {rb rf rt : Nat → Int32} {b d t : Int32} {i : Nat} (h1 : rb i = b) (h2 : rt i ≤ t) (h3 : rf i ≤ d) (h4 : ¬ rf i < ro_l rf (ro rb rf rt b d t i)) : ro rb rf rt b d t (i + 1) = some i := by
  unfold ro
  split
  · rw [if_pos ⟨h1, h2, h3⟩]
  · rename_i k hk
    rw [hk] at h4
    rw [if_pos ⟨⟨h1, h2, h3⟩, Int32.not_lt.mp h4⟩]
theorem ro_keep {rb rf rt : Nat → Int32} {b d t : Int32} {i : Nat} (h : ¬ (rb i = b ∧ rt i ≤ t ∧ rf i ≤ d)) : ro rb rf rt b d t (i + 1) = ro rb rf rt b d t i := by
  conv => lhs; unfold ro
  split
  · rename_i hk
    rw [if_neg h, hk]
  · rename_i k hk
    rw [if_neg (fun q => h q.1), hk]
theorem ro_less {rb rf rt : Nat → Int32} {b d t : Int32} {i : Nat} (hp : -1 ≤ rf i) (h : rf i < ro_l rf (ro rb rf rt b d t i)) : ro rb rf rt b d t (i + 1) = ro rb rf rt b d t i := by
  conv => lhs; unfold ro
  split
  · rename_i hk
    rw [hk] at h
    exact absurd hp (Int32.not_le.mpr h)
  · rename_i k hk
    rw [hk] at h
    rw [if_neg (fun q => Int32.not_le.mpr h q.2), hk]
theorem ro_congr {rb rf rt rb2 rf2 rt2 : Nat → Int32} {b d t : Int32} : ∀ n, (∀ i, i < n → rb i = rb2 i ∧ rf i = rf2 i ∧ rt i = rt2 i) → ro rb rf rt b d t n = ro rb2 rf2 rt2 b d t n
  | 0, _ => rfl
  | n + 1, h => by
    have ih := ro_congr (b := b) (d := d) (t := t) n (fun i hi => h i (by omega))
    unfold ro
    rw [ih]
    obtain ⟨e1, e2, e3⟩ := h n (by omega)
    rw [e1, e2, e3]
    split
    · rfl
    · rename_i k hk
      have hk2 := ro_lt hk
      rw [(h k (by omega)).2.1]
/-- the wages of the first i passes -/
def wg (pb pd rb rf rt rp : Nat → Int32) (n : Nat) (a b t : Int32) : Nat → Int32
  | 0 => 0
  | i + 1 => if a ≤ pd i ∧ pd i ≤ b then wg pb pd rb rf rt rp n a b t i + ro_p rp (ro rb rf rt (pb i) (pd i) t n) else wg pb pd rb rf rt rp n a b t i
theorem wg_congr {pb pd rb rf rt rp pb2 pd2 rb2 rf2 rt2 rp2 : Nat → Int32} {a b t : Int32} {n : Nat} (h : ∀ i, i < n → rb i = rb2 i ∧ rf i = rf2 i ∧ rt i = rt2 i ∧ rp i = rp2 i) : ∀ m, (∀ i, i < m → pb i = pb2 i ∧ pd i = pd2 i) → wg pb pd rb rf rt rp n a b t m = wg pb2 pd2 rb2 rf2 rt2 rp2 n a b t m
  | 0, _ => rfl
  | m + 1, hm => by
    have ih := wg_congr (a := a) (b := b) (t := t) h m (fun i hi => hm i (by omega))
    obtain ⟨e1, e2⟩ := hm m (by omega)
    unfold wg
    rw [ih, e1, e2, ro_congr n (fun i hi => ⟨(h i hi).1, (h i hi).2.1, (h i hi).2.2.1⟩)]
    cases hr : ro rb2 rf2 rt2 (pb2 m) (pd2 m) t n with
    | none => rfl
    | some k =>
      have := ro_lt hr
      simp [ro_p, (h k this).2.2.2]
set_option maxRecDepth 100000 in
set_option maxHeartbeats 4000000 in
theorem lp_X1_penceAt {sh : SH} {mi : MI} {mr : MR} (hB : ba_c sh mr) (p1 p2 p3 : Int32) (n : Nat) (hn : mi 22 0 = nI n) (hn30 : n ≤ 30) (hp : ∀ i, i < n → -1 ≤ mi 24 i) : ∀ i, i ≤ n → EV none 0 0 0 mX1_penceAt 9 [some (pv_r 22), some (pv_i p1), some (pv_i p2), some (pv_i p3), some (pv_i (ro_l (mi 24) (ro (mi 23) (mi 24) (mi 26) p1 p2 p3 i))), some (pv_i (ro_p (mi 25) (ro (mi 23) (mi 24) (mi 26) p1 p2 p3 i))), some (pv_i (nI i)), none] [] sh mi mr (ok_r sh mr (ro_p (mi 25) (ro (mi 23) (mi 24) (mi 26) p1 p2 p3 n)) mi) := by
  refine lp_i n (fun i hi ih => ?_)
  refine ev_iload dX1_penceAt_9 rfl ?_
  refine ev_aload_n dX1_penceAt_11 rfl ?_
  refine ev_geti dX1_penceAt_12 fl_X1_9 rfl (hB.1 22 _ rfl) ?_
  refine ev_icmp_ge (tgt := 99) dX1_penceAt_15 rfl (fun h15 => ?_) (fun h15 => ?_)
  · have hin : i = n := by have := (nl_le hn rfl (by omega) (by omega)).mp h15; omega
    subst hin
    refine ev_iload dX1_penceAt_99 rfl ?_
    exact ev_ireturn (ty := .int) dX1_penceAt_101 rfl rfl ⟨rfl, rfl, rfl, rfl⟩
  · have hlt : i < n := by have := (not_congr (nl_le hn rfl (by omega) (by omega))).mp h15; omega
    refine ev_aload_n dX1_penceAt_18 rfl ?_
    refine ev_getq dX1_penceAt_19 fl_X1_18 rfl (hB.1 22 _ rfl) (hB.2 22 2 _ rfl) ?_
    refine ev_iload dX1_penceAt_22 rfl ?_
    refine ev_iald dX1_penceAt_24 (hB.1 23 _ rfl) (j := i) rfl (by omega) (by decide) ?_
    refine ev_iload_n dX1_penceAt_25 rfl ?_
    refine ev_icmp_ne (tgt := 55) dX1_penceAt_26 rfl (fun h26 => ?_) (fun h26 => ?_)
    · refine ev_iconst (v := 0) dX1_penceAt_55 rfl ?_
      refine ev_istore dX1_penceAt_56 (by decide) ?_
      refine ev_iload dX1_penceAt_58 rfl ?_
      refine ev_if_eq_t (tgt := 93) dX1_penceAt_60 rfl (by decide) ?_
      refine ev_iincN dX1_penceAt_93 rfl (by decide) ?_
      refine ev_goto (tgt := 9) dX1_penceAt_96 rfl ?_
      have q := ih hlt
      rw [ro_keep (fun q => h26 q.1)] at q
      exact ev_fg 7 q
    · refine ev_aload_n dX1_penceAt_29 rfl ?_
      refine ev_getq dX1_penceAt_30 fl_X1_28 rfl (hB.1 22 _ rfl) (hB.2 22 5 _ rfl) ?_
      refine ev_iload dX1_penceAt_33 rfl ?_
      refine ev_iald dX1_penceAt_35 (hB.1 26 _ rfl) (j := i) rfl (by omega) (by decide) ?_
      refine ev_iload_n dX1_penceAt_36 rfl ?_
      refine ev_icmp_gt (tgt := 55) dX1_penceAt_37 rfl (fun h37 => ?_) (fun h37 => ?_)
      · refine ev_iconst (v := 0) dX1_penceAt_55 rfl ?_
        refine ev_istore dX1_penceAt_56 (by decide) ?_
        refine ev_iload dX1_penceAt_58 rfl ?_
        refine ev_if_eq_t (tgt := 93) dX1_penceAt_60 rfl (by decide) ?_
        refine ev_iincN dX1_penceAt_93 rfl (by decide) ?_
        refine ev_goto (tgt := 9) dX1_penceAt_96 rfl ?_
        have q := ih hlt
        rw [ro_keep (fun q => absurd q.2.1 (Int32.not_le.mpr h37))] at q
        exact ev_fg 7 q
      · refine ev_aload_n dX1_penceAt_40 rfl ?_
        refine ev_getq dX1_penceAt_41 fl_X1_22 rfl (hB.1 22 _ rfl) (hB.2 22 3 _ rfl) ?_
        refine ev_iload dX1_penceAt_44 rfl ?_
        refine ev_iald dX1_penceAt_46 (hB.1 24 _ rfl) (j := i) rfl (by omega) (by decide) ?_
        refine ev_iload_n dX1_penceAt_47 rfl ?_
        refine ev_icmp_gt (tgt := 55) dX1_penceAt_48 rfl (fun h48 => ?_) (fun h48 => ?_)
        · refine ev_iconst (v := 0) dX1_penceAt_55 rfl ?_
          refine ev_istore dX1_penceAt_56 (by decide) ?_
          refine ev_iload dX1_penceAt_58 rfl ?_
          refine ev_if_eq_t (tgt := 93) dX1_penceAt_60 rfl (by decide) ?_
          refine ev_iincN dX1_penceAt_93 rfl (by decide) ?_
          refine ev_goto (tgt := 9) dX1_penceAt_96 rfl ?_
          have q := ih hlt
          rw [ro_keep (fun q => absurd q.2.2 (Int32.not_le.mpr h48))] at q
          exact ev_fg 7 q
        · refine ev_iconst (v := 1) dX1_penceAt_51 rfl ?_
          refine ev_goto (tgt := 56) dX1_penceAt_52 rfl ?_
          refine ev_istore dX1_penceAt_56 (by decide) ?_
          refine ev_iload dX1_penceAt_58 rfl ?_
          refine ev_if_eq_f (tgt := 93) dX1_penceAt_60 rfl (by decide) ?_
          refine ev_aload_n dX1_penceAt_63 rfl ?_
          refine ev_getq dX1_penceAt_64 fl_X1_22 rfl (hB.1 22 _ rfl) (hB.2 22 3 _ rfl) ?_
          refine ev_iload dX1_penceAt_67 rfl ?_
          refine ev_iald dX1_penceAt_69 (hB.1 24 _ rfl) (j := i) rfl (by omega) (by decide) ?_
          refine ev_iload dX1_penceAt_70 rfl ?_
          refine ev_icmp_lt (tgt := 93) dX1_penceAt_72 rfl (fun h72 => ?_) (fun h72 => ?_)
          · refine ev_iincN dX1_penceAt_93 rfl (by decide) ?_
            refine ev_goto (tgt := 9) dX1_penceAt_96 rfl ?_
            have q := ih hlt
            rw [ro_less (hp i hlt) h72] at q
            exact ev_fg 7 q
          · refine ev_aload_n dX1_penceAt_75 rfl ?_
            refine ev_getq dX1_penceAt_76 fl_X1_22 rfl (hB.1 22 _ rfl) (hB.2 22 3 _ rfl) ?_
            refine ev_iload dX1_penceAt_79 rfl ?_
            refine ev_iald dX1_penceAt_81 (hB.1 24 _ rfl) (j := i) rfl (by omega) (by decide) ?_
            refine ev_istore dX1_penceAt_82 (by decide) ?_
            refine ev_aload_n dX1_penceAt_84 rfl ?_
            refine ev_getq dX1_penceAt_85 fl_X1_25 rfl (hB.1 22 _ rfl) (hB.2 22 4 _ rfl) ?_
            refine ev_iload dX1_penceAt_88 rfl ?_
            refine ev_iald dX1_penceAt_90 (hB.1 25 _ rfl) (j := i) rfl (by omega) (by decide) ?_
            refine ev_istore dX1_penceAt_91 (by decide) ?_
            refine ev_iincN dX1_penceAt_93 rfl (by decide) ?_
            refine ev_goto (tgt := 9) dX1_penceAt_96 rfl ?_
            have q := ih hlt
            rw [ro_take h26 (Int32.not_lt.mp h37) (Int32.not_lt.mp h48) h72] at q
            exact ev_fg 7 q
set_option maxRecDepth 100000 in
set_option maxHeartbeats 4000000 in
theorem t_X1_penceAt {sh : SH} {mi : MI} {mr : MR} (hB : ba_c sh mr) (p1 p2 p3 : Int32) (n : Nat) (hn : mi 22 0 = nI n) (hn30 : n ≤ 30) (hp : ∀ i, i < n → -1 ≤ mi 24 i) : EV none 0 0 0 mX1_penceAt 0 (en_l mX1_penceAt [pv_r 22, pv_i p1, pv_i p2, pv_i p3]) [] sh mi mr (ok_r sh mr (ro_p (mi 25) (ro (mi 23) (mi 24) (mi 26) p1 p2 p3 n)) mi) := by
  show EV none 0 0 0 mX1_penceAt 0 [some (pv_r 22), some (pv_i p1), some (pv_i p2), some (pv_i p3), none, none, none, none] [] sh mi mr _
  refine ev_iconst (v := (-1)) dX1_penceAt_0 rfl ?_
  refine ev_istore dX1_penceAt_1 (by decide) ?_
  refine ev_iconst (v := 0) dX1_penceAt_3 rfl ?_
  refine ev_istore dX1_penceAt_4 (by decide) ?_
  refine ev_iconst (v := 0) dX1_penceAt_6 rfl ?_
  refine ev_istore dX1_penceAt_7 (by decide) ?_
  exact lp_X1_penceAt hB p1 p2 p3 n hn hn30 hp 0 (Nat.zero_le n)
set_option maxRecDepth 100000 in
set_option maxHeartbeats 4000000 in
theorem t_X5_rateAt {sh : SH} {mi : MI} {mr : MR} (hB : ba_c sh mr) (p1 p2 p3 : Int32) (n : Nat) (hn : mi 22 0 = nI n) (hn30 : n ≤ 30) (hp : ∀ i, i < n → -1 ≤ mi 24 i) : EV none 2 0 0 mX5_rateAt 0 (en_l mX5_rateAt [pv_r 0, pv_i p1, pv_i p2, pv_i p3]) [] sh mi mr (fun v_ sh_ mi_ mr_ => ((0 ≤ p1 ∧ p1 ≤ 4) ∧ (¬ (0 ≤ p2 ∧ p2 ≤ 1000)) ∧ (ok_r sh mr (-3) mi) v_ sh_ mi_ mr_) ∨ ((0 ≤ p1 ∧ p1 ≤ 4) ∧ (0 ≤ p2 ∧ p2 ≤ 1000) ∧ (0 ≤ p3 ∧ p3 ≤ 1000) ∧ (ok_r sh mr (ro_p (mi 25) (ro (mi 23) (mi 24) (mi 26) p1 p2 p3 n)) mi) v_ sh_ mi_ mr_) ∨ ((0 ≤ p1 ∧ p1 ≤ 4) ∧ (0 ≤ p2 ∧ p2 ≤ 1000) ∧ (¬ (0 ≤ p3 ∧ p3 ≤ 1000)) ∧ (ok_r sh mr (-3) mi) v_ sh_ mi_ mr_) ∨ ((¬ (0 ≤ p1 ∧ p1 ≤ 4)) ∧ (ok_r sh mr (-2) mi) v_ sh_ mi_ mr_)) := by
  show EV none 2 0 0 mX5_rateAt 0 [some (pv_r 0), some (pv_i p1), some (pv_i p2), some (pv_i p3)] [] sh mi mr _
  refine ev_iload_n dX5_rateAt_0 rfl ?_
  refine ev_s1i dX5_rateAt_1 cs_X5_105 (Nat.le_of_ble_eq_true rfl) (by decide) (t_X5_isBench _) ?_
  refine ev_ifb_ne (tgt := 10) dX5_rateAt_4 rfl (fun h4 => ?_) (fun h4 => ?_)
  · refine ev_iload_n dX5_rateAt_10 rfl ?_
    refine ev_s1i dX5_rateAt_11 cs_X5_225 (Nat.le_of_ble_eq_true rfl) (by decide) (t_X5_isDay _) ?_
    refine ev_ifb_eq (tgt := 24) dX5_rateAt_14 rfl (fun h14 => ?_) (fun h14 => ?_)
    · refine ev_bipush (v := (-3)) dX5_rateAt_24 rfl ?_
      exact ev_ireturn (ty := .int) dX5_rateAt_26 rfl rfl (Or.inl ⟨h4, h14, rfl, rfl, rfl, rfl⟩)
    · refine ev_iload_n dX5_rateAt_17 rfl ?_
      refine ev_s1i dX5_rateAt_18 cs_X5_225 (Nat.le_of_ble_eq_true rfl) (by decide) (t_X5_isDay _) ?_
      refine ev_ifb_ne (tgt := 27) dX5_rateAt_21 rfl (fun h21 => ?_) (fun h21 => ?_)
      · refine ev_aload_n dX5_rateAt_27 rfl ?_
        refine ev_getq dX5_rateAt_28 fl_X5_38 rfl (hB.1 0 _ rfl) (hB.2 0 4 _ rfl) ?_
        refine ev_iload_n dX5_rateAt_31 rfl ?_
        refine ev_iload_n dX5_rateAt_32 rfl ?_
        refine ev_iload_n dX5_rateAt_33 rfl ?_
        refine ev_v3i dX5_rateAt_34 cv_X5_232 (hB.1 22 _ rfl) (Nat.le_of_ble_eq_true rfl) (by decide) (t_X1_penceAt hB _ _ _ n hn hn30 hp) ?_
        exact ev_ireturn (ty := .int) dX5_rateAt_37 rfl rfl (Or.inr (Or.inl ⟨h4, h14, h21, rfl, rfl, rfl, rfl⟩))
      · refine ev_bipush (v := (-3)) dX5_rateAt_24 rfl ?_
        exact ev_ireturn (ty := .int) dX5_rateAt_26 rfl rfl (Or.inr (Or.inr (Or.inl ⟨h4, h14, h21, rfl, rfl, rfl, rfl⟩)))
  · refine ev_bipush (v := (-2)) dX5_rateAt_7 rfl ?_
    exact ev_ireturn (ty := .int) dX5_rateAt_9 rfl rfl (Or.inr (Or.inr (Or.inr ⟨h4, rfl, rfl, rfl, rfl⟩)))
set_option maxRecDepth 100000 in
set_option maxHeartbeats 4000000 in
theorem lp_X1_earned {sh : SH} {mi : MI} {mr : MR} (hB : ba_c sh mr) (p1 p2 p3 : Int32) (n : Nat) (hn : mi 22 0 = nI n) (hn30 : n ≤ 30) (hp : ∀ i, i < n → -1 ≤ mi 24 i) (m : Nat) (hm : mi 22 1 = nI m) (hm50 : m ≤ 50) : ∀ i, i ≤ m → EV none 1 0 0 mX1_earned 6 [some (pv_r 22), some (pv_i p1), some (pv_i p2), some (pv_i p3), some (pv_i (wg (mi 27) (mi 28) (mi 23) (mi 24) (mi 26) (mi 25) n p1 p2 p3 i)), some (pv_i (nI i))] [] sh mi mr (ok_r sh mr (wg (mi 27) (mi 28) (mi 23) (mi 24) (mi 26) (mi 25) n p1 p2 p3 m) mi) := by
  refine lp_i m (fun i hi ih => ?_)
  refine ev_iload dX1_earned_6 rfl ?_
  refine ev_aload_n dX1_earned_8 rfl ?_
  refine ev_geti dX1_earned_9 fl_X1_15 rfl (hB.1 22 _ rfl) ?_
  refine ev_icmp_ge (tgt := 60) dX1_earned_12 rfl (fun h12 => ?_) (fun h12 => ?_)
  · have hin : i = m := by have := (nl_le hm rfl (by omega) (by omega)).mp h12; omega
    subst hin
    refine ev_iload dX1_earned_60 rfl ?_
    exact ev_ireturn (ty := .int) dX1_earned_62 rfl rfl ⟨rfl, rfl, rfl, rfl⟩
  · have hlt : i < m := by have := (not_congr (nl_le hm rfl (by omega) (by omega))).mp h12; omega
    refine ev_aload_n dX1_earned_15 rfl ?_
    refine ev_getq dX1_earned_16 fl_X1_34 rfl (hB.1 22 _ rfl) (hB.2 22 7 _ rfl) ?_
    refine ev_iload dX1_earned_19 rfl ?_
    refine ev_iald dX1_earned_21 (hB.1 28 _ rfl) (j := i) rfl (by omega) (by decide) ?_
    refine ev_iload_n dX1_earned_22 rfl ?_
    refine ev_iload_n dX1_earned_23 rfl ?_
    refine ev_t3i dX1_earned_24 cn_X1_37 (Nat.le_of_ble_eq_true rfl) (by decide) (t_X5_within _ _ _) ?_
    refine ev_ifb_eq (tgt := 54) dX1_earned_27 rfl (fun h27 => ?_) (fun h27 => ?_)
    · refine ev_iincN dX1_earned_54 rfl (by decide) ?_
      refine ev_goto (tgt := 6) dX1_earned_57 rfl ?_
      have q := ih hlt
      rw [show (wg (mi 27) (mi 28) (mi 23) (mi 24) (mi 26) (mi 25) n p1 p2 p3 (i + 1)) = _ from if_neg h27] at q
      exact q
    · refine ev_iload dX1_earned_30 rfl ?_
      refine ev_aload_n dX1_earned_32 rfl ?_
      refine ev_aload_n dX1_earned_33 rfl ?_
      refine ev_getq dX1_earned_34 fl_X1_31 rfl (hB.1 22 _ rfl) (hB.2 22 6 _ rfl) ?_
      refine ev_iload dX1_earned_37 rfl ?_
      refine ev_iald dX1_earned_39 (hB.1 27 _ rfl) (j := i) rfl (by omega) (by decide) ?_
      refine ev_aload_n dX1_earned_40 rfl ?_
      refine ev_getq dX1_earned_41 fl_X1_34 rfl (hB.1 22 _ rfl) (hB.2 22 7 _ rfl) ?_
      refine ev_iload dX1_earned_44 rfl ?_
      refine ev_iald dX1_earned_46 (hB.1 28 _ rfl) (j := i) rfl (by omega) (by decide) ?_
      refine ev_iload_n dX1_earned_47 rfl ?_
      refine ev_v3i dX1_earned_48 cv_X1_41 (hB.1 22 _ rfl) (Nat.le_of_ble_eq_true rfl) (by decide) (t_X1_penceAt hB _ _ _ n hn hn30 hp) ?_
      refine ev_iadd dX1_earned_51 ?_
      refine ev_istore dX1_earned_52 (by decide) ?_
      refine ev_iincN dX1_earned_54 rfl (by decide) ?_
      refine ev_goto (tgt := 6) dX1_earned_57 rfl ?_
      have q := ih hlt
      rw [show (wg (mi 27) (mi 28) (mi 23) (mi 24) (mi 26) (mi 25) n p1 p2 p3 (i + 1)) = _ from if_pos h27] at q
      exact q
set_option maxRecDepth 100000 in
set_option maxHeartbeats 4000000 in
theorem t_X1_earned {sh : SH} {mi : MI} {mr : MR} (hB : ba_c sh mr) (p1 p2 p3 : Int32) (n : Nat) (hn : mi 22 0 = nI n) (hn30 : n ≤ 30) (hp : ∀ i, i < n → -1 ≤ mi 24 i) (m : Nat) (hm : mi 22 1 = nI m) (hm50 : m ≤ 50) : EV none 1 0 0 mX1_earned 0 (en_l mX1_earned [pv_r 22, pv_i p1, pv_i p2, pv_i p3]) [] sh mi mr (ok_r sh mr (wg (mi 27) (mi 28) (mi 23) (mi 24) (mi 26) (mi 25) n p1 p2 p3 m) mi) := by
  show EV none 1 0 0 mX1_earned 0 [some (pv_r 22), some (pv_i p1), some (pv_i p2), some (pv_i p3), none, none] [] sh mi mr _
  refine ev_iconst (v := 0) dX1_earned_0 rfl ?_
  refine ev_istore dX1_earned_1 (by decide) ?_
  refine ev_iconst (v := 0) dX1_earned_3 rfl ?_
  refine ev_istore dX1_earned_4 (by decide) ?_
  exact lp_X1_earned hB p1 p2 p3 n hn hn30 hp m hm hm50 0 (Nat.zero_le m)
set_option maxRecDepth 100000 in
set_option maxHeartbeats 4000000 in
theorem t_X5_wages {sh : SH} {mi : MI} {mr : MR} (hB : ba_c sh mr) (p1 p2 p3 : Int32) (n : Nat) (hn : mi 22 0 = nI n) (hn30 : n ≤ 30) (hp : ∀ i, i < n → -1 ≤ mi 24 i) (m : Nat) (hm : mi 22 1 = nI m) (hm50 : m ≤ 50) : EV none 2 0 0 mX5_wages 0 (en_l mX5_wages [pv_r 0, pv_i p1, pv_i p2, pv_i p3]) [] sh mi mr (fun v_ sh_ mi_ mr_ => ((¬ (0 ≤ p1 ∧ p1 ≤ 1000)) ∧ (ok_r sh mr (-3) mi) v_ sh_ mi_ mr_) ∨ ((0 ≤ p1 ∧ p1 ≤ 1000) ∧ (¬ (0 ≤ p2 ∧ p2 ≤ 1000)) ∧ (ok_r sh mr (-3) mi) v_ sh_ mi_ mr_) ∨ ((0 ≤ p1 ∧ p1 ≤ 1000) ∧ (0 ≤ p2 ∧ p2 ≤ 1000) ∧ (0 ≤ p3 ∧ p3 ≤ 1000) ∧ (ok_r sh mr (wg (mi 27) (mi 28) (mi 23) (mi 24) (mi 26) (mi 25) n p1 p2 p3 m) mi) v_ sh_ mi_ mr_) ∨ ((0 ≤ p1 ∧ p1 ≤ 1000) ∧ (0 ≤ p2 ∧ p2 ≤ 1000) ∧ (¬ (0 ≤ p3 ∧ p3 ≤ 1000)) ∧ (ok_r sh mr (-3) mi) v_ sh_ mi_ mr_)) := by
  show EV none 2 0 0 mX5_wages 0 [some (pv_r 0), some (pv_i p1), some (pv_i p2), some (pv_i p3)] [] sh mi mr _
  refine ev_iload_n dX5_wages_0 rfl ?_
  refine ev_s1i dX5_wages_1 cs_X5_225 (Nat.le_of_ble_eq_true rfl) (by decide) (t_X5_isDay _) ?_
  refine ev_ifb_eq (tgt := 21) dX5_wages_4 rfl (fun h4 => ?_) (fun h4 => ?_)
  · refine ev_bipush (v := (-3)) dX5_wages_21 rfl ?_
    exact ev_ireturn (ty := .int) dX5_wages_23 rfl rfl (Or.inl ⟨h4, rfl, rfl, rfl, rfl⟩)
  · refine ev_iload_n dX5_wages_7 rfl ?_
    refine ev_s1i dX5_wages_8 cs_X5_225 (Nat.le_of_ble_eq_true rfl) (by decide) (t_X5_isDay _) ?_
    refine ev_ifb_eq (tgt := 21) dX5_wages_11 rfl (fun h11 => ?_) (fun h11 => ?_)
    · refine ev_bipush (v := (-3)) dX5_wages_21 rfl ?_
      exact ev_ireturn (ty := .int) dX5_wages_23 rfl rfl (Or.inr (Or.inl ⟨h4, h11, rfl, rfl, rfl, rfl⟩))
    · refine ev_iload_n dX5_wages_14 rfl ?_
      refine ev_s1i dX5_wages_15 cs_X5_225 (Nat.le_of_ble_eq_true rfl) (by decide) (t_X5_isDay _) ?_
      refine ev_ifb_ne (tgt := 24) dX5_wages_18 rfl (fun h18 => ?_) (fun h18 => ?_)
      · refine ev_aload_n dX5_wages_24 rfl ?_
        refine ev_getq dX5_wages_25 fl_X5_38 rfl (hB.1 0 _ rfl) (hB.2 0 4 _ rfl) ?_
        refine ev_iload_n dX5_wages_28 rfl ?_
        refine ev_iload_n dX5_wages_29 rfl ?_
        refine ev_iload_n dX5_wages_30 rfl ?_
        refine ev_v3i dX5_wages_31 cv_X5_235 (hB.1 22 _ rfl) (Nat.le_of_ble_eq_true rfl) (by decide) (t_X1_earned hB _ _ _ n hn hn30 hp m hm hm50) ?_
        exact ev_ireturn (ty := .int) dX5_wages_34 rfl rfl (Or.inr (Or.inr (Or.inl ⟨h4, h11, h18, rfl, rfl, rfl, rfl⟩)))
      · refine ev_bipush (v := (-3)) dX5_wages_21 rfl ?_
        exact ev_ireturn (ty := .int) dX5_wages_23 rfl rfl (Or.inr (Or.inr (Or.inr ⟨h4, h11, h18, rfl, rfl, rfl, rfl⟩)))
set_option maxRecDepth 100000 in
set_option maxHeartbeats 4000000 in
theorem t_X1_notePass {sh : SH} {mi : MI} {mr : MR} (hB : ba_c sh mr) (p1 p2 : Int32) (m : Nat) (hm : mi 22 1 = nI m) (hm50 : m ≤ 50) : EV none 0 0 0 mX1_notePass 0 (en_l mX1_notePass [pv_r 22, pv_i p1, pv_i p2]) [] sh mi mr (fun v_ sh_ mi_ mr_ => (((mi 22 1) < 50) ∧ (ok_n sh mr (up_2 (up_2 (up_2 mi 27 m p1) 28 m p2) 22 1 (((up_2 (up_2 mi 27 m p1) 28 m p2) 22 1) + 1))) v_ sh_ mi_ mr_) ∨ ((¬ (mi 22 1) < 50) ∧ (ok_n sh mr mi) v_ sh_ mi_ mr_)) := by
  show EV none 0 0 0 mX1_notePass 0 [some (pv_r 22), some (pv_i p1), some (pv_i p2)] [] sh mi mr _
  refine ev_aload_n dX1_notePass_0 rfl ?_
  refine ev_geti dX1_notePass_1 fl_X1_15 rfl (hB.1 22 _ rfl) ?_
  refine ev_bipush (v := 50) dX1_notePass_4 rfl ?_
  refine ev_icmp_lt (tgt := 10) dX1_notePass_6 rfl (fun h6 => ?_) (fun h6 => ?_)
  · refine ev_aload_n dX1_notePass_10 rfl ?_
    refine ev_getq dX1_notePass_11 fl_X1_31 rfl (hB.1 22 _ rfl) (hB.2 22 6 _ rfl) ?_
    refine ev_aload_n dX1_notePass_14 rfl ?_
    refine ev_geti dX1_notePass_15 fl_X1_15 rfl (hB.1 22 _ rfl) ?_
    refine ev_iload_n dX1_notePass_18 rfl ?_
    refine ev_iast dX1_notePass_19 (hB.1 27 _ rfl) (j := m) (by simp [up_2, pk_mul, nI_add, n_5, n_6, n_12, n_144, hm]) ((nl_lt hm (b := 50) rfl (by omega) (by decide)).mp h6) (by decide) ?_
    refine ev_aload_n dX1_notePass_20 rfl ?_
    refine ev_getq dX1_notePass_21 fl_X1_34 rfl (hB.1 22 _ rfl) (hB.2 22 7 _ rfl) ?_
    refine ev_aload_n dX1_notePass_24 rfl ?_
    refine ev_geti dX1_notePass_25 fl_X1_15 rfl (hB.1 22 _ rfl) ?_
    refine ev_iload_n dX1_notePass_28 rfl ?_
    refine ev_iast dX1_notePass_29 (hB.1 28 _ rfl) (j := m) (by simp [up_2, pk_mul, nI_add, n_5, n_6, n_12, n_144, hm]) ((nl_lt hm (b := 50) rfl (by omega) (by decide)).mp h6) (by decide) ?_
    refine ev_aload_n dX1_notePass_30 rfl ?_
    refine ev_dup dX1_notePass_31 ?_
    refine ev_geti dX1_notePass_32 fl_X1_15 rfl (hB.1 22 _ rfl) ?_
    refine ev_iconst (v := 1) dX1_notePass_35 rfl ?_
    refine ev_iadd dX1_notePass_36 ?_
    refine ev_puti dX1_notePass_37 fl_X1_15 rfl rfl (hB.1 22 _ rfl) ?_
    exact ev_return dX1_notePass_40 rfl (Or.inl ⟨h6, rfl, rfl, rfl, rfl⟩)
  · exact ev_return dX1_notePass_9 rfl (Or.inr ⟨h6, rfl, rfl, rfl, rfl⟩)
def ro_b (q : Option Nat) : Int32 := match q with
  | none => -1
  | some k => nI k
set_option maxRecDepth 100000 in
set_option maxHeartbeats 4000000 in
theorem lp_X6_rateOf {sh : SH} {mi : MI} {mr : MR} (hB : ba_c sh mr) (p1 p2 p3 : Int32) (n : Nat) (hn : mi 29 42 = nI n) (hn30 : n ≤ 30) (hp : ∀ i, i < n → -1 ≤ mi 64 i) : ∀ i, i ≤ n → EV none 0 0 0 mX6_rateOf 6 [some (pv_r 29), some (pv_i p1), some (pv_i p2), some (pv_i p3), some (pv_i (ro_b (ro (mi 63) (mi 64) (mi 66) p1 p2 p3 i))), some (pv_i (nI i)), none] [] sh mi mr (ok_r sh mr (ro_p (mi 65) (ro (mi 63) (mi 64) (mi 66) p1 p2 p3 n)) mi) := by
  refine lp_i n (fun i hi ih => ?_)
  cases hr : ro (mi 63) (mi 64) (mi 66) p1 p2 p3 i with
  | none =>
    show EV none 0 0 0 mX6_rateOf 6 [some (pv_r 29), some (pv_i p1), some (pv_i p2), some (pv_i p3), some (pv_i (-1)), some (pv_i (nI i)), none] [] sh mi mr _
    refine ev_iload dX6_rateOf_6 rfl ?_
    refine ev_aload_n dX6_rateOf_8 rfl ?_
    refine ev_geti dX6_rateOf_9 fl_X6_212 rfl (hB.1 29 _ rfl) ?_
    refine ev_icmp_ge (tgt := 98) dX6_rateOf_12 rfl (fun h12 => ?_) (fun h12 => ?_)
    · have hin : i = n := by have := (nl_le hn rfl (by omega) (by omega)).mp h12; omega
      subst hin
      refine ev_iload dX6_rateOf_98 rfl ?_
      refine ev_iconst (v := (-1)) dX6_rateOf_100 rfl ?_
      refine ev_icmp_ne_f (tgt := 108) dX6_rateOf_101 rfl rfl ?_
      refine ev_iconst (v := 0) dX6_rateOf_104 rfl ?_
      refine ev_goto (tgt := 115) dX6_rateOf_105 rfl ?_
      exact ev_ireturn (ty := .int) dX6_rateOf_115 rfl rfl ⟨by rw [hr]; rfl, rfl, rfl, rfl⟩
    · have hlt : i < n := by have := (not_congr (nl_le hn rfl (by omega) (by omega))).mp h12; omega
      refine ev_aload_n dX6_rateOf_15 rfl ?_
      refine ev_getq dX6_rateOf_16 fl_X6_114 rfl (hB.1 29 _ rfl) (hB.2 29 43 _ rfl) ?_
      refine ev_iload dX6_rateOf_19 rfl ?_
      refine ev_iald dX6_rateOf_21 (hB.1 63 _ rfl) (j := i) rfl (by omega) (by decide) ?_
      refine ev_iload_n dX6_rateOf_22 rfl ?_
      refine ev_icmp_ne (tgt := 52) dX6_rateOf_23 rfl (fun h23 => ?_) (fun h23 => ?_)
      · refine ev_iconst (v := 0) dX6_rateOf_52 rfl ?_
        refine ev_istore dX6_rateOf_53 (by decide) ?_
        refine ev_iload dX6_rateOf_55 rfl ?_
        refine ev_if_eq_t (tgt := 88) dX6_rateOf_57 rfl (by decide) ?_
        refine ev_iload dX6_rateOf_88 rfl ?_
        refine ev_istore dX6_rateOf_90 (by decide) ?_
        refine ev_iincN dX6_rateOf_92 rfl (by decide) ?_
        refine ev_goto (tgt := 6) dX6_rateOf_95 rfl ?_
        have q := ih hlt
        rw [ro_keep (fun q => h23 q.1), hr] at q
        exact ev_fg 6 q
      · refine ev_aload_n dX6_rateOf_26 rfl ?_
        refine ev_getq dX6_rateOf_27 fl_X6_123 rfl (hB.1 29 _ rfl) (hB.2 29 46 _ rfl) ?_
        refine ev_iload dX6_rateOf_30 rfl ?_
        refine ev_iald dX6_rateOf_32 (hB.1 66 _ rfl) (j := i) rfl (by omega) (by decide) ?_
        refine ev_iload_n dX6_rateOf_33 rfl ?_
        refine ev_icmp_gt (tgt := 52) dX6_rateOf_34 rfl (fun h34 => ?_) (fun h34 => ?_)
        · refine ev_iconst (v := 0) dX6_rateOf_52 rfl ?_
          refine ev_istore dX6_rateOf_53 (by decide) ?_
          refine ev_iload dX6_rateOf_55 rfl ?_
          refine ev_if_eq_t (tgt := 88) dX6_rateOf_57 rfl (by decide) ?_
          refine ev_iload dX6_rateOf_88 rfl ?_
          refine ev_istore dX6_rateOf_90 (by decide) ?_
          refine ev_iincN dX6_rateOf_92 rfl (by decide) ?_
          refine ev_goto (tgt := 6) dX6_rateOf_95 rfl ?_
          have q := ih hlt
          rw [ro_keep (fun q => absurd q.2.1 (Int32.not_le.mpr h34)), hr] at q
          exact ev_fg 6 q
        · refine ev_aload_n dX6_rateOf_37 rfl ?_
          refine ev_getq dX6_rateOf_38 fl_X6_117 rfl (hB.1 29 _ rfl) (hB.2 29 44 _ rfl) ?_
          refine ev_iload dX6_rateOf_41 rfl ?_
          refine ev_iald dX6_rateOf_43 (hB.1 64 _ rfl) (j := i) rfl (by omega) (by decide) ?_
          refine ev_iload_n dX6_rateOf_44 rfl ?_
          refine ev_icmp_gt (tgt := 52) dX6_rateOf_45 rfl (fun h45 => ?_) (fun h45 => ?_)
          · refine ev_iconst (v := 0) dX6_rateOf_52 rfl ?_
            refine ev_istore dX6_rateOf_53 (by decide) ?_
            refine ev_iload dX6_rateOf_55 rfl ?_
            refine ev_if_eq_t (tgt := 88) dX6_rateOf_57 rfl (by decide) ?_
            refine ev_iload dX6_rateOf_88 rfl ?_
            refine ev_istore dX6_rateOf_90 (by decide) ?_
            refine ev_iincN dX6_rateOf_92 rfl (by decide) ?_
            refine ev_goto (tgt := 6) dX6_rateOf_95 rfl ?_
            have q := ih hlt
            rw [ro_keep (fun q => absurd q.2.2 (Int32.not_le.mpr h45)), hr] at q
            exact ev_fg 6 q
          · refine ev_iconst (v := 1) dX6_rateOf_48 rfl ?_
            refine ev_goto (tgt := 53) dX6_rateOf_49 rfl ?_
            refine ev_istore dX6_rateOf_53 (by decide) ?_
            refine ev_iload dX6_rateOf_55 rfl ?_
            refine ev_if_eq_f (tgt := 88) dX6_rateOf_57 rfl (by decide) ?_
            refine ev_iload dX6_rateOf_60 rfl ?_
            refine ev_iconst (v := (-1)) dX6_rateOf_62 rfl ?_
            refine ev_icmp_eq_t (tgt := 83) dX6_rateOf_63 rfl rfl ?_
            refine ev_iload dX6_rateOf_83 rfl ?_
            refine ev_goto (tgt := 90) dX6_rateOf_85 rfl ?_
            refine ev_istore dX6_rateOf_90 (by decide) ?_
            refine ev_iincN dX6_rateOf_92 rfl (by decide) ?_
            refine ev_goto (tgt := 6) dX6_rateOf_95 rfl ?_
            have q := ih hlt
            rw [ro_take h23 (Int32.not_lt.mp h34) (Int32.not_lt.mp h45) (by rw [hr]; exact Int32.not_lt.mpr (hp i hlt))] at q
            exact ev_fg 6 q
  | some k =>
    have hki := ro_lt hr
    show EV none 0 0 0 mX6_rateOf 6 [some (pv_r 29), some (pv_i p1), some (pv_i p2), some (pv_i p3), some (pv_i (nI k)), some (pv_i (nI i)), none] [] sh mi mr _
    refine ev_iload dX6_rateOf_6 rfl ?_
    refine ev_aload_n dX6_rateOf_8 rfl ?_
    refine ev_geti dX6_rateOf_9 fl_X6_212 rfl (hB.1 29 _ rfl) ?_
    refine ev_icmp_ge (tgt := 98) dX6_rateOf_12 rfl (fun h12 => ?_) (fun h12 => ?_)
    · have hin : i = n := by have := (nl_le hn rfl (by omega) (by omega)).mp h12; omega
      subst hin
      refine ev_iload dX6_rateOf_98 rfl ?_
      refine ev_iconst (v := (-1)) dX6_rateOf_100 rfl ?_
      refine ev_icmp_ne_t (tgt := 108) dX6_rateOf_101 rfl (nI_m1 (by omega)) ?_
      refine ev_aload_n dX6_rateOf_108 rfl ?_
      refine ev_getq dX6_rateOf_109 fl_X6_120 rfl (hB.1 29 _ rfl) (hB.2 29 45 _ rfl) ?_
      refine ev_iload dX6_rateOf_112 rfl ?_
      refine ev_iald dX6_rateOf_114 (hB.1 65 _ rfl) (j := k) rfl (by omega) (by decide) ?_
      exact ev_ireturn (ty := .int) dX6_rateOf_115 rfl rfl ⟨by rw [hr]; rfl, rfl, rfl, rfl⟩
    · have hlt : i < n := by have := (not_congr (nl_le hn rfl (by omega) (by omega))).mp h12; omega
      refine ev_aload_n dX6_rateOf_15 rfl ?_
      refine ev_getq dX6_rateOf_16 fl_X6_114 rfl (hB.1 29 _ rfl) (hB.2 29 43 _ rfl) ?_
      refine ev_iload dX6_rateOf_19 rfl ?_
      refine ev_iald dX6_rateOf_21 (hB.1 63 _ rfl) (j := i) rfl (by omega) (by decide) ?_
      refine ev_iload_n dX6_rateOf_22 rfl ?_
      refine ev_icmp_ne (tgt := 52) dX6_rateOf_23 rfl (fun h23 => ?_) (fun h23 => ?_)
      · refine ev_iconst (v := 0) dX6_rateOf_52 rfl ?_
        refine ev_istore dX6_rateOf_53 (by decide) ?_
        refine ev_iload dX6_rateOf_55 rfl ?_
        refine ev_if_eq_t (tgt := 88) dX6_rateOf_57 rfl (by decide) ?_
        refine ev_iload dX6_rateOf_88 rfl ?_
        refine ev_istore dX6_rateOf_90 (by decide) ?_
        refine ev_iincN dX6_rateOf_92 rfl (by decide) ?_
        refine ev_goto (tgt := 6) dX6_rateOf_95 rfl ?_
        have q := ih hlt
        rw [ro_keep (fun q => h23 q.1), hr] at q
        exact ev_fg 6 q
      · refine ev_aload_n dX6_rateOf_26 rfl ?_
        refine ev_getq dX6_rateOf_27 fl_X6_123 rfl (hB.1 29 _ rfl) (hB.2 29 46 _ rfl) ?_
        refine ev_iload dX6_rateOf_30 rfl ?_
        refine ev_iald dX6_rateOf_32 (hB.1 66 _ rfl) (j := i) rfl (by omega) (by decide) ?_
        refine ev_iload_n dX6_rateOf_33 rfl ?_
        refine ev_icmp_gt (tgt := 52) dX6_rateOf_34 rfl (fun h34 => ?_) (fun h34 => ?_)
        · refine ev_iconst (v := 0) dX6_rateOf_52 rfl ?_
          refine ev_istore dX6_rateOf_53 (by decide) ?_
          refine ev_iload dX6_rateOf_55 rfl ?_
          refine ev_if_eq_t (tgt := 88) dX6_rateOf_57 rfl (by decide) ?_
          refine ev_iload dX6_rateOf_88 rfl ?_
          refine ev_istore dX6_rateOf_90 (by decide) ?_
          refine ev_iincN dX6_rateOf_92 rfl (by decide) ?_
          refine ev_goto (tgt := 6) dX6_rateOf_95 rfl ?_
          have q := ih hlt
          rw [ro_keep (fun q => absurd q.2.1 (Int32.not_le.mpr h34)), hr] at q
          exact ev_fg 6 q
        · refine ev_aload_n dX6_rateOf_37 rfl ?_
          refine ev_getq dX6_rateOf_38 fl_X6_117 rfl (hB.1 29 _ rfl) (hB.2 29 44 _ rfl) ?_
          refine ev_iload dX6_rateOf_41 rfl ?_
          refine ev_iald dX6_rateOf_43 (hB.1 64 _ rfl) (j := i) rfl (by omega) (by decide) ?_
          refine ev_iload_n dX6_rateOf_44 rfl ?_
          refine ev_icmp_gt (tgt := 52) dX6_rateOf_45 rfl (fun h45 => ?_) (fun h45 => ?_)
          · refine ev_iconst (v := 0) dX6_rateOf_52 rfl ?_
            refine ev_istore dX6_rateOf_53 (by decide) ?_
            refine ev_iload dX6_rateOf_55 rfl ?_
            refine ev_if_eq_t (tgt := 88) dX6_rateOf_57 rfl (by decide) ?_
            refine ev_iload dX6_rateOf_88 rfl ?_
            refine ev_istore dX6_rateOf_90 (by decide) ?_
            refine ev_iincN dX6_rateOf_92 rfl (by decide) ?_
            refine ev_goto (tgt := 6) dX6_rateOf_95 rfl ?_
            have q := ih hlt
            rw [ro_keep (fun q => absurd q.2.2 (Int32.not_le.mpr h45)), hr] at q
            exact ev_fg 6 q
          · refine ev_iconst (v := 1) dX6_rateOf_48 rfl ?_
            refine ev_goto (tgt := 53) dX6_rateOf_49 rfl ?_
            refine ev_istore dX6_rateOf_53 (by decide) ?_
            refine ev_iload dX6_rateOf_55 rfl ?_
            refine ev_if_eq_f (tgt := 88) dX6_rateOf_57 rfl (by decide) ?_
            refine ev_iload dX6_rateOf_60 rfl ?_
            refine ev_iconst (v := (-1)) dX6_rateOf_62 rfl ?_
            refine ev_icmp_eq_f (tgt := 83) dX6_rateOf_63 rfl (nI_m1 (by omega)) ?_
            refine ev_aload_n dX6_rateOf_66 rfl ?_
            refine ev_getq dX6_rateOf_67 fl_X6_117 rfl (hB.1 29 _ rfl) (hB.2 29 44 _ rfl) ?_
            refine ev_iload dX6_rateOf_70 rfl ?_
            refine ev_iald dX6_rateOf_72 (hB.1 64 _ rfl) (j := i) rfl (by omega) (by decide) ?_
            refine ev_aload_n dX6_rateOf_73 rfl ?_
            refine ev_getq dX6_rateOf_74 fl_X6_117 rfl (hB.1 29 _ rfl) (hB.2 29 44 _ rfl) ?_
            refine ev_iload dX6_rateOf_77 rfl ?_
            refine ev_iald dX6_rateOf_79 (hB.1 64 _ rfl) (j := k) rfl (by omega) (by decide) ?_
            refine ev_icmp_lt (tgt := 88) dX6_rateOf_80 rfl (fun h80 => ?_) (fun h80 => ?_)
            · refine ev_iload dX6_rateOf_88 rfl ?_
              refine ev_istore dX6_rateOf_90 (by decide) ?_
              refine ev_iincN dX6_rateOf_92 rfl (by decide) ?_
              refine ev_goto (tgt := 6) dX6_rateOf_95 rfl ?_
              have q := ih hlt
              rw [ro_less (hp i hlt) (by rw [hr]; exact h80), hr] at q
              exact ev_fg 6 q
            · refine ev_iload dX6_rateOf_83 rfl ?_
              refine ev_goto (tgt := 90) dX6_rateOf_85 rfl ?_
              refine ev_istore dX6_rateOf_90 (by decide) ?_
              refine ev_iincN dX6_rateOf_92 rfl (by decide) ?_
              refine ev_goto (tgt := 6) dX6_rateOf_95 rfl ?_
              have q := ih hlt
              rw [ro_take h23 (Int32.not_lt.mp h34) (Int32.not_lt.mp h45) (by rw [hr]; exact h80)] at q
              exact ev_fg 6 q
set_option maxRecDepth 100000 in
set_option maxHeartbeats 4000000 in
theorem t_X6_rateOf {sh : SH} {mi : MI} {mr : MR} (hB : ba_c sh mr) (p1 p2 p3 : Int32) (n : Nat) (hn : mi 29 42 = nI n) (hn30 : n ≤ 30) (hp : ∀ i, i < n → -1 ≤ mi 64 i) : EV none 0 0 0 mX6_rateOf 0 (en_l mX6_rateOf [pv_r 29, pv_i p1, pv_i p2, pv_i p3]) [] sh mi mr (ok_r sh mr (ro_p (mi 65) (ro (mi 63) (mi 64) (mi 66) p1 p2 p3 n)) mi) := by
  show EV none 0 0 0 mX6_rateOf 0 [some (pv_r 29), some (pv_i p1), some (pv_i p2), some (pv_i p3), none, none, none] [] sh mi mr _
  refine ev_iconst (v := (-1)) dX6_rateOf_0 rfl ?_
  refine ev_istore dX6_rateOf_1 (by decide) ?_
  refine ev_iconst (v := 0) dX6_rateOf_3 rfl ?_
  refine ev_istore dX6_rateOf_4 (by decide) ?_
  exact lp_X6_rateOf hB p1 p2 p3 n hn hn30 hp 0 (Nat.zero_le n)
set_option maxRecDepth 100000 in
set_option maxHeartbeats 4000000 in
theorem t_X6_rateAt {sh : SH} {mi : MI} {mr : MR} (hB : ba_c sh mr) (p1 p2 p3 : Int32) (n : Nat) (hn : mi 29 42 = nI n) (hn30 : n ≤ 30) (hp : ∀ i, i < n → -1 ≤ mi 64 i) : EV none 2 0 0 mX6_rateAt 0 (en_l mX6_rateAt [pv_r 29, pv_i p1, pv_i p2, pv_i p3]) [] sh mi mr (fun v_ sh_ mi_ mr_ => ((0 ≤ p1 ∧ p1 ≤ 4) ∧ (¬ (0 ≤ p2 ∧ p2 ≤ 1000)) ∧ (ok_r sh mr (-3) mi) v_ sh_ mi_ mr_) ∨ ((0 ≤ p1 ∧ p1 ≤ 4) ∧ (0 ≤ p2 ∧ p2 ≤ 1000) ∧ (¬ (0 ≤ p3 ∧ p3 ≤ 1000)) ∧ (ok_r sh mr (-3) mi) v_ sh_ mi_ mr_) ∨ ((0 ≤ p1 ∧ p1 ≤ 4) ∧ (0 ≤ p2 ∧ p2 ≤ 1000) ∧ (0 ≤ p3 ∧ p3 ≤ 1000) ∧ (ok_r sh mr (ro_p (mi 65) (ro (mi 63) (mi 64) (mi 66) p1 p2 p3 n)) mi) v_ sh_ mi_ mr_) ∨ ((¬ (0 ≤ p1 ∧ p1 ≤ 4)) ∧ (ok_r sh mr (-2) mi) v_ sh_ mi_ mr_)) := by
  show EV none 2 0 0 mX6_rateAt 0 [some (pv_r 29), some (pv_i p1), some (pv_i p2), some (pv_i p3)] [] sh mi mr _
  refine ev_iload_n dX6_rateAt_0 rfl ?_
  refine ev_s1i dX6_rateAt_1 cs_X6_151 (Nat.le_of_ble_eq_true rfl) (by decide) (t_X6_isBench _) ?_
  refine ev_ifb_ne (tgt := 10) dX6_rateAt_4 rfl (fun h4 => ?_) (fun h4 => ?_)
  · refine ev_iload_n dX6_rateAt_10 rfl ?_
    refine ev_s1i dX6_rateAt_11 cs_X6_209 (Nat.le_of_ble_eq_true rfl) (by decide) (t_X6_isDay _) ?_
    refine ev_ifb_eq (tgt := 34) dX6_rateAt_14 rfl (fun h14 => ?_) (fun h14 => ?_)
    · refine ev_bipush (v := (-3)) dX6_rateAt_34 rfl ?_
      exact ev_ireturn (ty := .int) dX6_rateAt_36 rfl rfl (Or.inl ⟨h4, h14, rfl, rfl, rfl, rfl⟩)
    · refine ev_iload_n dX6_rateAt_17 rfl ?_
      refine ev_s1i dX6_rateAt_18 cs_X6_209 (Nat.le_of_ble_eq_true rfl) (by decide) (t_X6_isDay _) ?_
      refine ev_ifb_eq (tgt := 34) dX6_rateAt_21 rfl (fun h21 => ?_) (fun h21 => ?_)
      · refine ev_bipush (v := (-3)) dX6_rateAt_34 rfl ?_
        exact ev_ireturn (ty := .int) dX6_rateAt_36 rfl rfl (Or.inr (Or.inl ⟨h4, h14, h21, rfl, rfl, rfl, rfl⟩))
      · refine ev_aload_n dX6_rateAt_24 rfl ?_
        refine ev_iload_n dX6_rateAt_25 rfl ?_
        refine ev_iload_n dX6_rateAt_26 rfl ?_
        refine ev_iload_n dX6_rateAt_27 rfl ?_
        refine ev_v3i dX6_rateAt_28 cv_X6_215 (hB.1 29 _ rfl) (Nat.le_of_ble_eq_true rfl) (by decide) (t_X6_rateOf hB _ _ _ n hn hn30 hp) ?_
        refine ev_goto (tgt := 36) dX6_rateAt_31 rfl ?_
        exact ev_ireturn (ty := .int) dX6_rateAt_36 rfl rfl (Or.inr (Or.inr (Or.inl ⟨h4, h14, h21, rfl, rfl, rfl, rfl⟩)))
  · refine ev_bipush (v := (-2)) dX6_rateAt_7 rfl ?_
    exact ev_ireturn (ty := .int) dX6_rateAt_9 rfl rfl (Or.inr (Or.inr (Or.inr ⟨h4, rfl, rfl, rfl, rfl⟩)))
set_option maxRecDepth 100000 in
set_option maxHeartbeats 4000000 in
theorem lp_X6_wages {sh : SH} {mi : MI} {mr : MR} (hB : ba_c sh mr) (p1 p2 p3 : Int32) (n : Nat) (hn : mi 29 42 = nI n) (hn30 : n ≤ 30) (hp : ∀ i, i < n → -1 ≤ mi 64 i) (m : Nat) (hm : mi 29 13 = nI m) (hm50 : m ≤ 50) : ∀ i, i ≤ m → EV none 2 0 0 mX6_wages 30 [some (pv_r 29), some (pv_i p1), some (pv_i p2), some (pv_i p3), some (pv_i (wg (mi 41) (mi 42) (mi 63) (mi 64) (mi 66) (mi 65) n p1 p2 p3 i)), some (pv_i (nI i))] [] sh mi mr (ok_r sh mr (wg (mi 41) (mi 42) (mi 63) (mi 64) (mi 66) (mi 65) n p1 p2 p3 m) mi) := by
  refine lp_i m (fun i hi ih => ?_)
  refine ev_iload dX6_wages_30 rfl ?_
  refine ev_aload_n dX6_wages_32 rfl ?_
  refine ev_geti dX6_wages_33 fl_X6_145 rfl (hB.1 29 _ rfl) ?_
  refine ev_icmp_ge (tgt := 88) dX6_wages_36 rfl (fun h36 => ?_) (fun h36 => ?_)
  · have hin : i = m := by have := (nl_le hm rfl (by omega) (by omega)).mp h36; omega
    subst hin
    refine ev_iload dX6_wages_88 rfl ?_
    exact ev_ireturn (ty := .int) dX6_wages_90 rfl rfl ⟨rfl, rfl, rfl, rfl⟩
  · have hlt : i < m := by have := (not_congr (nl_le hm rfl (by omega) (by omega))).mp h36; omega
    refine ev_iload dX6_wages_39 rfl ?_
    refine ev_aload_n dX6_wages_41 rfl ?_
    refine ev_getq dX6_wages_42 fl_X6_47 rfl (hB.1 29 _ rfl) (hB.2 29 15 _ rfl) ?_
    refine ev_iload dX6_wages_45 rfl ?_
    refine ev_iald dX6_wages_47 (hB.1 42 _ rfl) (j := i) rfl (by omega) (by decide) ?_
    refine ev_iload_n dX6_wages_48 rfl ?_
    refine ev_iload_n dX6_wages_49 rfl ?_
    refine ev_s3i dX6_wages_50 cs_X6_129 (Nat.le_of_ble_eq_true rfl) (by decide) (t_X6_in _ _ _) ?_
    refine ev_ifb_eq (tgt := 78) dX6_wages_53 rfl (fun h53 => ?_) (fun h53 => ?_)
    · refine ev_iconst (v := 0) dX6_wages_78 rfl ?_
      refine ev_iadd dX6_wages_79 ?_
      refine ev_istore dX6_wages_80 (by decide) ?_
      refine ev_iincN dX6_wages_82 rfl (by decide) ?_
      refine ev_goto (tgt := 30) dX6_wages_85 rfl ?_
      have q := ih hlt
      rw [show (wg (mi 41) (mi 42) (mi 63) (mi 64) (mi 66) (mi 65) n p1 p2 p3 (i + 1)) = _ from if_neg h53] at q
      rw [← Int32.add_zero (wg (mi 41) (mi 42) (mi 63) (mi 64) (mi 66) (mi 65) n p1 p2 p3 i)] at q
      exact q
    · refine ev_aload_n dX6_wages_56 rfl ?_
      refine ev_aload_n dX6_wages_57 rfl ?_
      refine ev_getq dX6_wages_58 fl_X6_44 rfl (hB.1 29 _ rfl) (hB.2 29 14 _ rfl) ?_
      refine ev_iload dX6_wages_61 rfl ?_
      refine ev_iald dX6_wages_63 (hB.1 41 _ rfl) (j := i) rfl (by omega) (by decide) ?_
      refine ev_aload_n dX6_wages_64 rfl ?_
      refine ev_getq dX6_wages_65 fl_X6_47 rfl (hB.1 29 _ rfl) (hB.2 29 15 _ rfl) ?_
      refine ev_iload dX6_wages_68 rfl ?_
      refine ev_iald dX6_wages_70 (hB.1 42 _ rfl) (j := i) rfl (by omega) (by decide) ?_
      refine ev_iload_n dX6_wages_71 rfl ?_
      refine ev_v3i dX6_wages_72 cv_X6_215 (hB.1 29 _ rfl) (Nat.le_of_ble_eq_true rfl) (by decide) (t_X6_rateOf hB _ _ _ n hn hn30 hp) ?_
      refine ev_goto (tgt := 79) dX6_wages_75 rfl ?_
      refine ev_iadd dX6_wages_79 ?_
      refine ev_istore dX6_wages_80 (by decide) ?_
      refine ev_iincN dX6_wages_82 rfl (by decide) ?_
      refine ev_goto (tgt := 30) dX6_wages_85 rfl ?_
      have q := ih hlt
      rw [show (wg (mi 41) (mi 42) (mi 63) (mi 64) (mi 66) (mi 65) n p1 p2 p3 (i + 1)) = _ from if_pos h53] at q
      exact q
set_option maxRecDepth 100000 in
set_option maxHeartbeats 4000000 in
theorem t_X6_wages {sh : SH} {mi : MI} {mr : MR} (hB : ba_c sh mr) (p1 p2 p3 : Int32) (n : Nat) (hn : mi 29 42 = nI n) (hn30 : n ≤ 30) (hp : ∀ i, i < n → -1 ≤ mi 64 i) (m : Nat) (hm : mi 29 13 = nI m) (hm50 : m ≤ 50) : EV none 2 0 0 mX6_wages 0 (en_l mX6_wages [pv_r 29, pv_i p1, pv_i p2, pv_i p3]) [] sh mi mr (fun v_ sh_ mi_ mr_ => ((¬ (0 ≤ p1 ∧ p1 ≤ 1000)) ∧ (ok_r sh mr (-3) mi) v_ sh_ mi_ mr_) ∨ ((0 ≤ p1 ∧ p1 ≤ 1000) ∧ (¬ (0 ≤ p2 ∧ p2 ≤ 1000)) ∧ (ok_r sh mr (-3) mi) v_ sh_ mi_ mr_) ∨ ((0 ≤ p1 ∧ p1 ≤ 1000) ∧ (0 ≤ p2 ∧ p2 ≤ 1000) ∧ (0 ≤ p3 ∧ p3 ≤ 1000) ∧ (ok_r sh mr (wg (mi 41) (mi 42) (mi 63) (mi 64) (mi 66) (mi 65) n p1 p2 p3 m) mi) v_ sh_ mi_ mr_) ∨ ((0 ≤ p1 ∧ p1 ≤ 1000) ∧ (0 ≤ p2 ∧ p2 ≤ 1000) ∧ (¬ (0 ≤ p3 ∧ p3 ≤ 1000)) ∧ (ok_r sh mr (-3) mi) v_ sh_ mi_ mr_)) := by
  show EV none 2 0 0 mX6_wages 0 [some (pv_r 29), some (pv_i p1), some (pv_i p2), some (pv_i p3), none, none] [] sh mi mr _
  refine ev_iload_n dX6_wages_0 rfl ?_
  refine ev_s1i dX6_wages_1 cs_X6_209 (Nat.le_of_ble_eq_true rfl) (by decide) (t_X6_isDay _) ?_
  refine ev_ifb_eq (tgt := 21) dX6_wages_4 rfl (fun h4 => ?_) (fun h4 => ?_)
  · refine ev_bipush (v := (-3)) dX6_wages_21 rfl ?_
    exact ev_ireturn (ty := .int) dX6_wages_23 rfl rfl (Or.inl ⟨h4, rfl, rfl, rfl, rfl⟩)
  · refine ev_iload_n dX6_wages_7 rfl ?_
    refine ev_s1i dX6_wages_8 cs_X6_209 (Nat.le_of_ble_eq_true rfl) (by decide) (t_X6_isDay _) ?_
    refine ev_ifb_eq (tgt := 21) dX6_wages_11 rfl (fun h11 => ?_) (fun h11 => ?_)
    · refine ev_bipush (v := (-3)) dX6_wages_21 rfl ?_
      exact ev_ireturn (ty := .int) dX6_wages_23 rfl rfl (Or.inr (Or.inl ⟨h4, h11, rfl, rfl, rfl, rfl⟩))
    · refine ev_iload_n dX6_wages_14 rfl ?_
      refine ev_s1i dX6_wages_15 cs_X6_209 (Nat.le_of_ble_eq_true rfl) (by decide) (t_X6_isDay _) ?_
      refine ev_ifb_ne (tgt := 24) dX6_wages_18 rfl (fun h18 => ?_) (fun h18 => ?_)
      · refine ev_iconst (v := 0) dX6_wages_24 rfl ?_
        refine ev_istore dX6_wages_25 (by decide) ?_
        refine ev_iconst (v := 0) dX6_wages_27 rfl ?_
        refine ev_istore dX6_wages_28 (by decide) ?_
        exact ev_post (fun v_ s_ m_ r_ h_ => (Or.inr (Or.inr (Or.inl ⟨h4, h11, h18, h_⟩)))) (lp_X6_wages hB p1 p2 p3 n hn hn30 hp m hm hm50 0 (Nat.zero_le m))
      · refine ev_bipush (v := (-3)) dX6_wages_21 rfl ?_
        exact ev_ireturn (ty := .int) dX6_wages_23 rfl rfl (Or.inr (Or.inr (Or.inr ⟨h4, h11, h18, rfl, rfl, rfl, rfl⟩)))
