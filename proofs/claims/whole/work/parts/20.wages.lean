set_option maxRecDepth 100000 in
set_option maxHeartbeats 4000000 in
theorem t_X5_days {sh : SH} {mi : MI} {mr : MR} (hB : ba_c sh mr) (n : Int32) : EV none 2 0 0 mX5_days 0 (en_l mX5_days [pv_r 0, pv_i n]) [] sh mi mr (fun v_ sh_ mi_ mr_ => ((¬ (1 ≤ n ∧ n ≤ 100)) ∧ (ok_r sh mr (-3) mi) v_ sh_ mi_ mr_) ∨ ((1 ≤ n ∧ n ≤ 100) ∧ (((mi 0 7) + n) ≤ 1000) ∧ (ok_r sh mr ((up_2 mi 0 7 ((mi 0 7) + n)) 0 7) (up_2 mi 0 7 ((mi 0 7) + n))) v_ sh_ mi_ mr_) ∨ ((1 ≤ n ∧ n ≤ 100) ∧ (¬ ((mi 0 7) + n) ≤ 1000) ∧ (ok_r sh mr (-3) mi) v_ sh_ mi_ mr_)) := by
  show EV none 2 0 0 mX5_days 0 [some (pv_r 0), some (pv_i n)] [] sh mi mr _
  refine ev_iload_n dX5_days_0 rfl ?_
  refine ev_iconst (v := 1) dX5_days_1 rfl ?_
  refine ev_bipush (v := 100) dX5_days_2 rfl ?_
  refine ev_s3i dX5_days_4 cs_X5_57 (by decide) (by decide) (t_X5_within _ _ _) ?_
  refine ev_ifb_eq (tgt := 22) dX5_days_7 rfl (fun h7 => ?_) (fun h7 => ?_)
  · refine ev_bipush (v := (-3)) dX5_days_22 rfl ?_
    exact ev_ireturn (ty := .int) dX5_days_24 rfl rfl (Or.inl ⟨h7, rfl, rfl, rfl, rfl⟩)
  · refine ev_aload_n dX5_days_10 rfl ?_
    refine ev_geti dX5_days_11 fl_X5_49 rfl (hB.1 0 _ rfl) ?_
    refine ev_iload_n dX5_days_14 rfl ?_
    refine ev_iadd dX5_days_15 ?_
    refine ev_sipush (v := 1000) dX5_days_16 rfl ?_
    refine ev_icmp_le (tgt := 25) dX5_days_19 rfl (fun h19 => ?_) (fun h19 => ?_)
    · refine ev_aload_n dX5_days_25 rfl ?_
      refine ev_dup dX5_days_26 ?_
      refine ev_geti dX5_days_27 fl_X5_49 rfl (hB.1 0 _ rfl) ?_
      refine ev_iload_n dX5_days_30 rfl ?_
      refine ev_iadd dX5_days_31 ?_
      refine ev_puti dX5_days_32 fl_X5_49 rfl rfl (hB.1 0 _ rfl) ?_
      refine ev_aload_n dX5_days_35 rfl ?_
      refine ev_geti dX5_days_36 fl_X5_49 rfl (hB.1 0 _ rfl) ?_
      exact ev_ireturn (ty := .int) dX5_days_39 rfl rfl (Or.inr (Or.inl ⟨h7, h19, rfl, rfl, rfl, rfl⟩))
    · refine ev_bipush (v := (-3)) dX5_days_22 rfl ?_
      exact ev_ireturn (ty := .int) dX5_days_24 rfl rfl (Or.inr (Or.inr ⟨h7, h19, rfl, rfl, rfl, rfl⟩))
set_option maxRecDepth 100000 in
set_option maxHeartbeats 4000000 in
theorem t_X6_days {sh : SH} {mi : MI} {mr : MR} (hB : ba_c sh mr) (n : Int32) : EV none 2 0 0 mX6_days 0 (en_l mX6_days [pv_r 29, pv_i n]) [] sh mi mr (fun v_ sh_ mi_ mr_ => ((¬ (1 ≤ n ∧ n ≤ 100)) ∧ (ok_r sh mr (-3) mi) v_ sh_ mi_ mr_) ∨ ((1 ≤ n ∧ n ≤ 100) ∧ (((mi 29 0) + n) ≤ 1000) ∧ (ok_r sh mr ((up_2 mi 29 0 ((mi 29 0) + n)) 29 0) (up_2 mi 29 0 ((mi 29 0) + n))) v_ sh_ mi_ mr_) ∨ ((1 ≤ n ∧ n ≤ 100) ∧ (¬ ((mi 29 0) + n) ≤ 1000) ∧ (ok_r sh mr (-3) mi) v_ sh_ mi_ mr_)) := by
  show EV none 2 0 0 mX6_days 0 [some (pv_r 29), some (pv_i n)] [] sh mi mr _
  refine ev_iload_n dX6_days_0 rfl ?_
  refine ev_iconst (v := 1) dX6_days_1 rfl ?_
  refine ev_bipush (v := 100) dX6_days_2 rfl ?_
  refine ev_s3i dX6_days_4 cs_X6_129 (by decide) (by decide) (t_X6_in _ _ _) ?_
  refine ev_ifb_eq (tgt := 22) dX6_days_7 rfl (fun h7 => ?_) (fun h7 => ?_)
  · refine ev_bipush (v := (-3)) dX6_days_22 rfl ?_
    exact ev_ireturn (ty := .int) dX6_days_24 rfl rfl (Or.inl ⟨h7, rfl, rfl, rfl, rfl⟩)
  · refine ev_aload_n dX6_days_10 rfl ?_
    refine ev_geti dX6_days_11 fl_X6_148 rfl (hB.1 29 _ rfl) ?_
    refine ev_iload_n dX6_days_14 rfl ?_
    refine ev_iadd dX6_days_15 ?_
    refine ev_sipush (v := 1000) dX6_days_16 rfl ?_
    refine ev_icmp_le (tgt := 25) dX6_days_19 rfl (fun h19 => ?_) (fun h19 => ?_)
    · refine ev_aload_n dX6_days_25 rfl ?_
      refine ev_dup dX6_days_26 ?_
      refine ev_geti dX6_days_27 fl_X6_148 rfl (hB.1 29 _ rfl) ?_
      refine ev_iload_n dX6_days_30 rfl ?_
      refine ev_iadd dX6_days_31 ?_
      refine ev_puti dX6_days_32 fl_X6_148 rfl rfl (hB.1 29 _ rfl) ?_
      refine ev_aload_n dX6_days_35 rfl ?_
      refine ev_geti dX6_days_36 fl_X6_148 rfl (hB.1 29 _ rfl) ?_
      exact ev_ireturn (ty := .int) dX6_days_39 rfl rfl (Or.inr (Or.inl ⟨h7, h19, rfl, rfl, rfl, rfl⟩))
    · refine ev_bipush (v := (-3)) dX6_days_22 rfl ?_
      exact ev_ireturn (ty := .int) dX6_days_24 rfl rfl (Or.inr (Or.inr ⟨h7, h19, rfl, rfl, rfl, rfl⟩))
