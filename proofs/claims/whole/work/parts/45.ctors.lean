theorem fl_ne {mi : MI} {k lo n a c : Nat} {v : Int32} (h : a ≠ k) : fl_r mi k lo n v a c = mi a c := by
  simp only [fl_r]
  rw [if_neg (fun e => h e.1)]
set_option maxRecDepth 100000 in
set_option maxHeartbeats 4000000 in
theorem t_X1_init {sh : SH} {mi : MI} {mr : MR} {q : Nat} (hs : sh[q]? = some (.inl 1)) (hn : sh.length = q + 1) (hm : ok_m (q + 1) mr) (hz : ∀ k, q ≤ k → ∀ j, mi k j = 0) (hzr : ∀ k, q + 1 ≤ k → ∀ j, mr k j = none)  : EV none 1 6 220 mX1_init 0 (en_l mX1_init [pv_r q]) [] sh mi mr (fun v_ sh_ mi_ mr_ => v_ = none ∧ sh_ = ((((((sh ++ [.inr (0, 30)]) ++ [.inr (0, 30)]) ++ [.inr (0, 30)]) ++ [.inr (0, 30)]) ++ [.inr (0, 50)]) ++ [.inr (0, 50)]) ∧ mi_ = mi ∧ mr_ = (up_2 (up_2 (up_2 (up_2 (up_2 (up_2 mr q 2 (some (q + 1))) q 3 (some (q + 2))) q 4 (some (q + 3))) q 5 (some (q + 4))) q 6 (some (q + 5))) q 7 (some (q + 6)))) := by
  show EV none 1 6 220 mX1_init 0 [some (pv_r q)] [] sh mi mr _
  refine ev_aload_n dX1_init_0 rfl ?_
  refine ev_objInit dX1_init_1 oi_X1_3 oi_w.1 oi_w.2 (by decide) (Nat.le_of_ble_eq_true rfl) ?_
  refine ev_aload_n dX1_init_4 rfl ?_
  refine ev_iconst (v := 0) dX1_init_5 rfl ?_
  refine ev_puti dX1_init_6 fl_X1_9 rfl rfl hs ?_
  rw [up_id (show _ = (0 : Int32) from (hz _ (by omega) _))]
  refine ev_aload_n dX1_init_9 rfl ?_
  refine ev_iconst (v := 0) dX1_init_10 rfl ?_
  refine ev_puti dX1_init_11 fl_X1_15 rfl rfl hs ?_
  rw [up_id (show _ = (0 : Int32) from (hz _ (by omega) _))]
  refine ev_aload_n dX1_init_14 rfl ?_
  refine ev_bipush (v := 30) dX1_init_15 rfl ?_
  refine ev_newi2 (N := 30) (q := (q + 1)) (mc1 := 5) (ms1 := 190) dX1_init_17 ar_w.1 rfl (by decide) (by omega) (ok_sc (show _ < _ by omega) ok_sn) (ok_lc (show _ < _ by omega) ok_ln) hm (fun j => (hz _ (by omega) j)) rfl rfl ?_
  have hm1 := ok_mn (m := (q + 2)) (by omega) hm
  refine ev_putFq dX1_init_19 fl_X1_18 rfl (fun _ => rfl) (fun _ => rfl) rfl rfl rfl (lk_l hs) ?_
  have hm2 := ok_up (k := q) (j := 2) hm1 (show (q + 1) < (q + 2) by omega)
  have hr2 := zq_up (z := (q + 1)) (a := q) (b := 2) (x := some (q + 1)) hzr (by omega)
  refine ev_aload_n dX1_init_22 rfl ?_
  refine ev_bipush (v := 30) dX1_init_23 rfl ?_
  refine ev_newi2 (N := 30) (q := (q + 2)) (mc1 := 4) (ms1 := 160) dX1_init_25 ar_w.1 rfl (by decide) (by simp only [List.length_append, List.length_cons, List.length_nil]; omega) (ok_sc (show _ < _ by omega) ok_sn) (ok_lc (show _ < _ by omega) ok_ln) hm2 (fun j => (hz _ (by omega) j)) rfl rfl ?_
  have hm3 := ok_mn (m := (q + 3)) (by omega) hm2
  refine ev_putFq dX1_init_27 fl_X1_22 rfl (fun _ => rfl) (fun _ => rfl) rfl rfl rfl (lk_l (lk_l hs)) ?_
  have hm4 := ok_up (k := q) (j := 3) hm3 (show (q + 2) < (q + 3) by omega)
  have hr4 := zq_up (z := (q + 1)) (a := q) (b := 3) (x := some (q + 2)) hr2 (by omega)
  refine ev_aload_n dX1_init_30 rfl ?_
  refine ev_bipush (v := 30) dX1_init_31 rfl ?_
  refine ev_newi2 (N := 30) (q := (q + 3)) (mc1 := 3) (ms1 := 130) dX1_init_33 ar_w.1 rfl (by decide) (by simp only [List.length_append, List.length_cons, List.length_nil]; omega) (ok_sc (show _ < _ by omega) ok_sn) (ok_lc (show _ < _ by omega) ok_ln) hm4 (fun j => (hz _ (by omega) j)) rfl rfl ?_
  have hm5 := ok_mn (m := (q + 4)) (by omega) hm4
  refine ev_putFq dX1_init_35 fl_X1_25 rfl (fun _ => rfl) (fun _ => rfl) rfl rfl rfl (lk_l (lk_l (lk_l hs))) ?_
  have hm6 := ok_up (k := q) (j := 4) hm5 (show (q + 3) < (q + 4) by omega)
  have hr6 := zq_up (z := (q + 1)) (a := q) (b := 4) (x := some (q + 3)) hr4 (by omega)
  refine ev_aload_n dX1_init_38 rfl ?_
  refine ev_bipush (v := 30) dX1_init_39 rfl ?_
  refine ev_newi2 (N := 30) (q := (q + 4)) (mc1 := 2) (ms1 := 100) dX1_init_41 ar_w.1 rfl (by decide) (by simp only [List.length_append, List.length_cons, List.length_nil]; omega) (ok_sc (show _ < _ by omega) ok_sn) (ok_lc (show _ < _ by omega) ok_ln) hm6 (fun j => (hz _ (by omega) j)) rfl rfl ?_
  have hm7 := ok_mn (m := (q + 5)) (by omega) hm6
  refine ev_putFq dX1_init_43 fl_X1_28 rfl (fun _ => rfl) (fun _ => rfl) rfl rfl rfl (lk_l (lk_l (lk_l (lk_l hs)))) ?_
  have hm8 := ok_up (k := q) (j := 5) hm7 (show (q + 4) < (q + 5) by omega)
  have hr8 := zq_up (z := (q + 1)) (a := q) (b := 5) (x := some (q + 4)) hr6 (by omega)
  refine ev_aload_n dX1_init_46 rfl ?_
  refine ev_bipush (v := 50) dX1_init_47 rfl ?_
  refine ev_newi2 (N := 50) (q := (q + 5)) (mc1 := 1) (ms1 := 50) dX1_init_49 ar_w.1 rfl (by decide) (by simp only [List.length_append, List.length_cons, List.length_nil]; omega) (ok_sc (show _ < _ by omega) ok_sn) (ok_lc (show _ < _ by omega) ok_ln) hm8 (fun j => (hz _ (by omega) j)) rfl rfl ?_
  have hm9 := ok_mn (m := (q + 6)) (by omega) hm8
  refine ev_putFq dX1_init_51 fl_X1_31 rfl (fun _ => rfl) (fun _ => rfl) rfl rfl rfl (lk_l (lk_l (lk_l (lk_l (lk_l hs))))) ?_
  have hm10 := ok_up (k := q) (j := 6) hm9 (show (q + 5) < (q + 6) by omega)
  have hr10 := zq_up (z := (q + 1)) (a := q) (b := 6) (x := some (q + 5)) hr8 (by omega)
  refine ev_aload_n dX1_init_54 rfl ?_
  refine ev_bipush (v := 50) dX1_init_55 rfl ?_
  refine ev_newi2 (N := 50) (q := (q + 6)) (mc1 := 0) (ms1 := 0) dX1_init_57 ar_w.1 rfl (by decide) (by simp only [List.length_append, List.length_cons, List.length_nil]; omega) (ok_sc (show _ < _ by omega) ok_sn) (ok_lc (show _ < _ by omega) ok_ln) hm10 (fun j => (hz _ (by omega) j)) rfl rfl ?_
  have hm11 := ok_mn (m := (q + 7)) (by omega) hm10
  refine ev_putFq dX1_init_59 fl_X1_34 rfl (fun _ => rfl) (fun _ => rfl) rfl rfl rfl (lk_l (lk_l (lk_l (lk_l (lk_l (lk_l hs)))))) ?_
  have hm12 := ok_up (k := q) (j := 7) hm11 (show (q + 6) < (q + 7) by omega)
  have hr12 := zq_up (z := (q + 1)) (a := q) (b := 7) (x := some (q + 6)) hr10 (by omega)
  exact ev_return dX1_init_62 rfl ⟨rfl, rfl, rfl, rfl⟩
set_option maxRecDepth 100000 in
set_option maxHeartbeats 4000000 in
theorem t_X2_init {sh : SH} {mi : MI} {mr : MR} {q : Nat} (hs : sh[q]? = some (.inl 2)) (hn : sh.length = q + 1) (hm : ok_m (q + 1) mr) (hz : ∀ k, q ≤ k → ∀ j, mi k j = 0) (hzr : ∀ k, q + 1 ≤ k → ∀ j, mr k j = none)  : EV none 1 9 124 mX2_init 0 (en_l mX2_init [pv_r q]) [] sh mi mr (fun v_ sh_ mi_ mr_ => v_ = none ∧ sh_ = (((((((((sh ++ [.inr (0, 7)]) ++ [.inr (0, 7)]) ++ [.inr (0, 35)]) ++ [.inr (0, 7)]) ++ [.inr (0, 7)]) ++ [.inr (0, 7)]) ++ [.inr (0, 7)]) ++ [.inr (0, 7)]) ++ [.inr (0, 40)]) ∧ mi_ = mi ∧ mr_ = (up_2 (up_2 (up_2 (up_2 (up_2 (up_2 (up_2 (up_2 (up_2 mr q 0 (some (q + 1))) q 1 (some (q + 2))) q 2 (some (q + 3))) q 3 (some (q + 4))) q 4 (some (q + 5))) q 5 (some (q + 6))) q 6 (some (q + 7))) q 7 (some (q + 8))) q 8 (some (q + 9)))) := by
  show EV none 1 9 124 mX2_init 0 [some (pv_r q)] [] sh mi mr _
  refine ev_aload_n dX2_init_0 rfl ?_
  refine ev_objInit dX2_init_1 oi_X2_3 oi_w.1 oi_w.2 (by decide) (Nat.le_of_ble_eq_true rfl) ?_
  refine ev_aload_n dX2_init_4 rfl ?_
  refine ev_bipush (v := 7) dX2_init_5 rfl ?_
  refine ev_newi2 (N := 7) (q := (q + 1)) (mc1 := 8) (ms1 := 117) dX2_init_7 ar_w.1 rfl (by decide) (by omega) (ok_sc (show _ < _ by omega) ok_sn) (ok_lc (show _ < _ by omega) ok_ln) hm (fun j => (hz _ (by omega) j)) rfl rfl ?_
  have hm1 := ok_mn (m := (q + 2)) (by omega) hm
  refine ev_putFq dX2_init_9 fl_X2_9 rfl (fun _ => rfl) (fun _ => rfl) rfl rfl rfl (lk_l hs) ?_
  have hm2 := ok_up (k := q) (j := 0) hm1 (show (q + 1) < (q + 2) by omega)
  have hr2 := zq_up (z := (q + 1)) (a := q) (b := 0) (x := some (q + 1)) hzr (by omega)
  refine ev_aload_n dX2_init_12 rfl ?_
  refine ev_bipush (v := 7) dX2_init_13 rfl ?_
  refine ev_newi2 (N := 7) (q := (q + 2)) (mc1 := 7) (ms1 := 110) dX2_init_15 ar_w.1 rfl (by decide) (by simp only [List.length_append, List.length_cons, List.length_nil]; omega) (ok_sc (show _ < _ by omega) ok_sn) (ok_lc (show _ < _ by omega) ok_ln) hm2 (fun j => (hz _ (by omega) j)) rfl rfl ?_
  have hm3 := ok_mn (m := (q + 3)) (by omega) hm2
  refine ev_putFq dX2_init_17 fl_X2_15 rfl (fun _ => rfl) (fun _ => rfl) rfl rfl rfl (lk_l (lk_l hs)) ?_
  have hm4 := ok_up (k := q) (j := 1) hm3 (show (q + 2) < (q + 3) by omega)
  have hr4 := zq_up (z := (q + 1)) (a := q) (b := 1) (x := some (q + 2)) hr2 (by omega)
  refine ev_aload_n dX2_init_20 rfl ?_
  refine ev_bipush (v := 35) dX2_init_21 rfl ?_
  refine ev_newi2 (N := 35) (q := (q + 3)) (mc1 := 6) (ms1 := 75) dX2_init_23 ar_w.1 rfl (by decide) (by simp only [List.length_append, List.length_cons, List.length_nil]; omega) (ok_sc (show _ < _ by omega) ok_sn) (ok_lc (show _ < _ by omega) ok_ln) hm4 (fun j => (hz _ (by omega) j)) rfl rfl ?_
  have hm5 := ok_mn (m := (q + 4)) (by omega) hm4
  refine ev_putFq dX2_init_25 fl_X2_18 rfl (fun _ => rfl) (fun _ => rfl) rfl rfl rfl (lk_l (lk_l (lk_l hs))) ?_
  have hm6 := ok_up (k := q) (j := 2) hm5 (show (q + 3) < (q + 4) by omega)
  have hr6 := zq_up (z := (q + 1)) (a := q) (b := 2) (x := some (q + 3)) hr4 (by omega)
  refine ev_aload_n dX2_init_28 rfl ?_
  refine ev_bipush (v := 7) dX2_init_29 rfl ?_
  refine ev_newi2 (N := 7) (q := (q + 4)) (mc1 := 5) (ms1 := 68) dX2_init_31 ar_w.1 rfl (by decide) (by simp only [List.length_append, List.length_cons, List.length_nil]; omega) (ok_sc (show _ < _ by omega) ok_sn) (ok_lc (show _ < _ by omega) ok_ln) hm6 (fun j => (hz _ (by omega) j)) rfl rfl ?_
  have hm7 := ok_mn (m := (q + 5)) (by omega) hm6
  refine ev_putFq dX2_init_33 fl_X2_21 rfl (fun _ => rfl) (fun _ => rfl) rfl rfl rfl (lk_l (lk_l (lk_l (lk_l hs)))) ?_
  have hm8 := ok_up (k := q) (j := 3) hm7 (show (q + 4) < (q + 5) by omega)
  have hr8 := zq_up (z := (q + 1)) (a := q) (b := 3) (x := some (q + 4)) hr6 (by omega)
  refine ev_aload_n dX2_init_36 rfl ?_
  refine ev_bipush (v := 7) dX2_init_37 rfl ?_
  refine ev_newi2 (N := 7) (q := (q + 5)) (mc1 := 4) (ms1 := 61) dX2_init_39 ar_w.1 rfl (by decide) (by simp only [List.length_append, List.length_cons, List.length_nil]; omega) (ok_sc (show _ < _ by omega) ok_sn) (ok_lc (show _ < _ by omega) ok_ln) hm8 (fun j => (hz _ (by omega) j)) rfl rfl ?_
  have hm9 := ok_mn (m := (q + 6)) (by omega) hm8
  refine ev_putFq dX2_init_41 fl_X2_24 rfl (fun _ => rfl) (fun _ => rfl) rfl rfl rfl (lk_l (lk_l (lk_l (lk_l (lk_l hs))))) ?_
  have hm10 := ok_up (k := q) (j := 4) hm9 (show (q + 5) < (q + 6) by omega)
  have hr10 := zq_up (z := (q + 1)) (a := q) (b := 4) (x := some (q + 5)) hr8 (by omega)
  refine ev_aload_n dX2_init_44 rfl ?_
  refine ev_bipush (v := 7) dX2_init_45 rfl ?_
  refine ev_newi2 (N := 7) (q := (q + 6)) (mc1 := 3) (ms1 := 54) dX2_init_47 ar_w.1 rfl (by decide) (by simp only [List.length_append, List.length_cons, List.length_nil]; omega) (ok_sc (show _ < _ by omega) ok_sn) (ok_lc (show _ < _ by omega) ok_ln) hm10 (fun j => (hz _ (by omega) j)) rfl rfl ?_
  have hm11 := ok_mn (m := (q + 7)) (by omega) hm10
  refine ev_putFq dX2_init_49 fl_X2_27 rfl (fun _ => rfl) (fun _ => rfl) rfl rfl rfl (lk_l (lk_l (lk_l (lk_l (lk_l (lk_l hs)))))) ?_
  have hm12 := ok_up (k := q) (j := 5) hm11 (show (q + 6) < (q + 7) by omega)
  have hr12 := zq_up (z := (q + 1)) (a := q) (b := 5) (x := some (q + 6)) hr10 (by omega)
  refine ev_aload_n dX2_init_52 rfl ?_
  refine ev_bipush (v := 7) dX2_init_53 rfl ?_
  refine ev_newi2 (N := 7) (q := (q + 7)) (mc1 := 2) (ms1 := 47) dX2_init_55 ar_w.1 rfl (by decide) (by simp only [List.length_append, List.length_cons, List.length_nil]; omega) (ok_sc (show _ < _ by omega) ok_sn) (ok_lc (show _ < _ by omega) ok_ln) hm12 (fun j => (hz _ (by omega) j)) rfl rfl ?_
  have hm13 := ok_mn (m := (q + 8)) (by omega) hm12
  refine ev_putFq dX2_init_57 fl_X2_30 rfl (fun _ => rfl) (fun _ => rfl) rfl rfl rfl (lk_l (lk_l (lk_l (lk_l (lk_l (lk_l (lk_l hs))))))) ?_
  have hm14 := ok_up (k := q) (j := 6) hm13 (show (q + 7) < (q + 8) by omega)
  have hr14 := zq_up (z := (q + 1)) (a := q) (b := 6) (x := some (q + 7)) hr12 (by omega)
  refine ev_aload_n dX2_init_60 rfl ?_
  refine ev_bipush (v := 7) dX2_init_61 rfl ?_
  refine ev_newi2 (N := 7) (q := (q + 8)) (mc1 := 1) (ms1 := 40) dX2_init_63 ar_w.1 rfl (by decide) (by simp only [List.length_append, List.length_cons, List.length_nil]; omega) (ok_sc (show _ < _ by omega) ok_sn) (ok_lc (show _ < _ by omega) ok_ln) hm14 (fun j => (hz _ (by omega) j)) rfl rfl ?_
  have hm15 := ok_mn (m := (q + 9)) (by omega) hm14
  refine ev_putFq dX2_init_65 fl_X2_33 rfl (fun _ => rfl) (fun _ => rfl) rfl rfl rfl (lk_l (lk_l (lk_l (lk_l (lk_l (lk_l (lk_l (lk_l hs)))))))) ?_
  have hm16 := ok_up (k := q) (j := 7) hm15 (show (q + 8) < (q + 9) by omega)
  have hr16 := zq_up (z := (q + 1)) (a := q) (b := 7) (x := some (q + 8)) hr14 (by omega)
  refine ev_aload_n dX2_init_68 rfl ?_
  refine ev_bipush (v := 40) dX2_init_69 rfl ?_
  refine ev_newi2 (N := 40) (q := (q + 9)) (mc1 := 0) (ms1 := 0) dX2_init_71 ar_w.1 rfl (by decide) (by simp only [List.length_append, List.length_cons, List.length_nil]; omega) (ok_sc (show _ < _ by omega) ok_sn) (ok_lc (show _ < _ by omega) ok_ln) hm16 (fun j => (hz _ (by omega) j)) rfl rfl ?_
  have hm17 := ok_mn (m := (q + 10)) (by omega) hm16
  refine ev_putFq dX2_init_73 fl_X2_36 rfl (fun _ => rfl) (fun _ => rfl) rfl rfl rfl (lk_l (lk_l (lk_l (lk_l (lk_l (lk_l (lk_l (lk_l (lk_l hs))))))))) ?_
  have hm18 := ok_up (k := q) (j := 8) hm17 (show (q + 9) < (q + 10) by omega)
  have hr18 := zq_up (z := (q + 1)) (a := q) (b := 8) (x := some (q + 9)) hr16 (by omega)
  refine ev_aload_n dX2_init_76 rfl ?_
  refine ev_iconst (v := 0) dX2_init_77 rfl ?_
  refine ev_puti dX2_init_78 fl_X2_39 rfl rfl (lk_l (lk_l (lk_l (lk_l (lk_l (lk_l (lk_l (lk_l (lk_l hs))))))))) ?_
  rw [up_id (show _ = (0 : Int32) from (hz _ (by omega) _))]
  refine ev_aload_n dX2_init_81 rfl ?_
  refine ev_iconst (v := 0) dX2_init_82 rfl ?_
  refine ev_puti dX2_init_83 fl_X2_43 rfl rfl (lk_l (lk_l (lk_l (lk_l (lk_l (lk_l (lk_l (lk_l (lk_l hs))))))))) ?_
  rw [up_id (show _ = (0 : Int32) from (hz _ (by omega) _))]
  refine ev_aload_n dX2_init_86 rfl ?_
  refine ev_iconst (v := 0) dX2_init_87 rfl ?_
  refine ev_puti dX2_init_88 fl_X2_46 rfl rfl (lk_l (lk_l (lk_l (lk_l (lk_l (lk_l (lk_l (lk_l (lk_l hs))))))))) ?_
  rw [up_id (show _ = (0 : Int32) from (hz _ (by omega) _))]
  exact ev_return dX2_init_91 rfl ⟨rfl, rfl, rfl, rfl⟩
set_option maxRecDepth 100000 in
set_option maxHeartbeats 4000000 in
theorem lp_X4_init {sh : SH} {mi : MI} {mr : MR} {q : Nat} (hs : sh[q]? = some (.inl 4)) (hr : mr q 0 = some (q + 1)) (ha : sh[(q + 1)]? = some (.inr (0, 27))) : ∀ j, j ≤ 26 → EV none 1 0 0 mX4_init 100 [some (pv_r q), some (pv_i (nI (j + 1)))] [] sh (fl_r mi (q + 1) 1 j 5) mr (fun v_ sh_ mi_ mr_ => v_ = none ∧ sh_ = sh ∧ mi_ = fl_r mi (q + 1) 1 26 5 ∧ mr_ = mr) := by
  refine lp_i 26 (fun j hj ih => ?_)
  refine ev_iload_n dX4_init_100 rfl ?_
  refine ev_bipush (v := 26) dX4_init_101 rfl ?_
  refine ev_icmp_gt (tgt := 119) dX4_init_103 rfl (fun h103 => ?_) (fun h103 => ?_)
  · have hin : j = 26 := by have := (nI_ltI (a := 26) (b := j + 1) (by decide) (by omega)).mp h103; omega
    subst hin
    exact ev_return dX4_init_119 rfl ⟨rfl, rfl, rfl, rfl⟩
  · have hlt : j < 26 := by have := (not_congr (nI_ltI (a := 26) (b := j + 1) (by decide) (by omega))).mp h103; omega
    refine ev_aload_n dX4_init_106 rfl ?_
    refine ev_getq dX4_init_107 fl_X4_9 rfl hs hr ?_
    refine ev_iload_n dX4_init_110 rfl ?_
    refine ev_iconst (v := 5) dX4_init_111 rfl ?_
    refine ev_iast dX4_init_112 ha (j := j + 1) rfl (by omega) (by decide) ?_
    refine ev_iincN dX4_init_113 rfl (by decide) ?_
    refine ev_goto (tgt := 100) dX4_init_116 rfl ?_
    have q1 := ih hlt
    rw [← fl_s, Nat.add_comm 1 j] at q1
    exact q1
set_option maxRecDepth 100000 in
set_option maxHeartbeats 4000000 in
theorem lp_X6_init {sh : SH} {mi : MI} {mr : MR} {q : Nat} (hs : sh[q]? = some (.inl 6)) (hr : mr q 24 = some (q + 21)) (ha : sh[(q + 21)]? = some (.inr (0, 27))) : ∀ j, j ≤ 26 → EV none 1 0 0 mX6_init 317 [some (pv_r q), some (pv_i (nI (j + 1)))] [] sh (fl_r mi (q + 21) 1 j 5) mr (fun v_ sh_ mi_ mr_ => v_ = none ∧ sh_ = sh ∧ mi_ = fl_r mi (q + 21) 1 26 5 ∧ mr_ = mr) := by
  refine lp_i 26 (fun j hj ih => ?_)
  refine ev_iload_n dX6_init_317 rfl ?_
  refine ev_bipush (v := 27) dX6_init_318 rfl ?_
  refine ev_icmp_ge (tgt := 336) dX6_init_320 rfl (fun h320 => ?_) (fun h320 => ?_)
  · have hin : j = 26 := by have := (nI_leI (a := 27) (b := j + 1) (by decide) (by omega)).mp h320; omega
    subst hin
    exact ev_return dX6_init_336 rfl ⟨rfl, rfl, rfl, rfl⟩
  · have hlt : j < 26 := by have := (not_congr (nI_leI (a := 27) (b := j + 1) (by decide) (by omega))).mp h320; omega
    refine ev_aload_n dX6_init_323 rfl ?_
    refine ev_getq dX6_init_324 fl_X6_71 rfl hs hr ?_
    refine ev_iload_n dX6_init_327 rfl ?_
    refine ev_iconst (v := 5) dX6_init_328 rfl ?_
    refine ev_iast dX6_init_329 ha (j := j + 1) rfl (by omega) (by decide) ?_
    refine ev_iincN dX6_init_330 rfl (by decide) ?_
    refine ev_goto (tgt := 317) dX6_init_333 rfl ?_
    have q1 := ih hlt
    rw [← fl_s, Nat.add_comm 1 j] at q1
    exact q1
set_option maxRecDepth 100000 in
set_option maxHeartbeats 4000000 in
theorem t_X4_init {sh : SH} {mi : MI} {mr : MR} {q : Nat} (hs : sh[q]? = some (.inl 4)) (hn : sh.length = q + 1) (hm : ok_m (q + 1) mr) (hz : ∀ k, q ≤ k → ∀ j, mi k j = 0) (hzr : ∀ k, q + 1 ≤ k → ∀ j, mr k j = none)  : EV none 1 8 441 mX4_init 0 (en_l mX4_init [pv_r q]) [] sh mi mr (fun v_ sh_ mi_ mr_ => v_ = none ∧ sh_ = ((((((((sh ++ [.inr (0, 27)]) ++ [.inr (0, 27)]) ++ [.inr (0, 6)]) ++ [.inr (0, 40)]) ++ [.inr (0, 27)]) ++ [.inr (0, 20)]) ++ [.inr (0, 147)]) ++ [.inr (0, 147)]) ∧ mi_ = fl_r (up_2 (up_2 mi q 5 100) (q + 1) 0 3) (q + 1) 1 26 5 ∧ mr_ = (up_2 (up_2 (up_2 (up_2 (up_2 (up_2 (up_2 (up_2 mr q 0 (some (q + 1))) q 1 (some (q + 2))) q 2 (some (q + 3))) q 6 (some (q + 4))) q 7 (some (q + 5))) q 8 (some (q + 6))) q 9 (some (q + 7))) q 10 (some (q + 8)))) := by
  show EV none 1 8 441 mX4_init 0 [some (pv_r q), none] [] sh mi mr _
  refine ev_aload_n dX4_init_0 rfl ?_
  refine ev_objInit dX4_init_1 oi_X4_3 oi_w.1 oi_w.2 (by decide) (Nat.le_of_ble_eq_true rfl) ?_
  refine ev_aload_n dX4_init_4 rfl ?_
  refine ev_bipush (v := 27) dX4_init_5 rfl ?_
  refine ev_newi2 (N := 27) (q := (q + 1)) (mc1 := 7) (ms1 := 414) dX4_init_7 ar_w.1 rfl (by decide) (by omega) (ok_sc (show _ < _ by omega) ok_sn) (ok_lc (show _ < _ by omega) (ok_lo ok_ln)) hm (fun j => (hz _ (by omega) j)) rfl rfl ?_
  have hm1 := ok_mn (m := (q + 2)) (by omega) hm
  refine ev_putFq dX4_init_9 fl_X4_9 rfl (fun _ => rfl) (fun _ => rfl) rfl rfl rfl (lk_l hs) ?_
  have hm2 := ok_up (k := q) (j := 0) hm1 (show (q + 1) < (q + 2) by omega)
  have hr2 := zq_up (z := (q + 1)) (a := q) (b := 0) (x := some (q + 1)) hzr (by omega)
  refine ev_aload_n dX4_init_12 rfl ?_
  refine ev_bipush (v := 27) dX4_init_13 rfl ?_
  refine ev_newi2 (N := 27) (q := (q + 2)) (mc1 := 6) (ms1 := 387) dX4_init_15 ar_w.1 rfl (by decide) (by simp only [List.length_append, List.length_cons, List.length_nil]; omega) (ok_sc (show _ < _ by omega) ok_sn) (ok_lc (show _ < _ by omega) (ok_lo ok_ln)) hm2 (fun j => (hz _ (by omega) j)) rfl rfl ?_
  have hm3 := ok_mn (m := (q + 3)) (by omega) hm2
  refine ev_putFq dX4_init_17 fl_X4_15 rfl (fun _ => rfl) (fun _ => rfl) rfl rfl rfl (lk_l (lk_l hs)) ?_
  have hm4 := ok_up (k := q) (j := 1) hm3 (show (q + 2) < (q + 3) by omega)
  have hr4 := zq_up (z := (q + 1)) (a := q) (b := 1) (x := some (q + 2)) hr2 (by omega)
  refine ev_aload_n dX4_init_20 rfl ?_
  refine ev_bipush (v := 6) dX4_init_21 rfl ?_
  refine ev_newi2 (N := 6) (q := (q + 3)) (mc1 := 5) (ms1 := 381) dX4_init_23 ar_w.1 rfl (by decide) (by simp only [List.length_append, List.length_cons, List.length_nil]; omega) (ok_sc (show _ < _ by omega) ok_sn) (ok_lc (show _ < _ by omega) (ok_lo ok_ln)) hm4 (fun j => (hz _ (by omega) j)) rfl rfl ?_
  have hm5 := ok_mn (m := (q + 4)) (by omega) hm4
  refine ev_putFq dX4_init_25 fl_X4_18 rfl (fun _ => rfl) (fun _ => rfl) rfl rfl rfl (lk_l (lk_l (lk_l hs))) ?_
  have hm6 := ok_up (k := q) (j := 2) hm5 (show (q + 3) < (q + 4) by omega)
  have hr6 := zq_up (z := (q + 1)) (a := q) (b := 2) (x := some (q + 3)) hr4 (by omega)
  refine ev_aload_n dX4_init_28 rfl ?_
  refine ev_iconst (v := 0) dX4_init_29 rfl ?_
  refine ev_puti dX4_init_30 fl_X4_21 rfl rfl (lk_l (lk_l (lk_l hs))) ?_
  rw [up_id (show _ = (0 : Int32) from (hz _ (by omega) _))]
  refine ev_aload_n dX4_init_33 rfl ?_
  refine ev_iconst (v := 0) dX4_init_34 rfl ?_
  refine ev_puti dX4_init_35 fl_X4_25 rfl rfl (lk_l (lk_l (lk_l hs))) ?_
  rw [up_id (show _ = (0 : Int32) from (hz _ (by omega) _))]
  refine ev_aload_n dX4_init_38 rfl ?_
  refine ev_bipush (v := 100) dX4_init_39 rfl ?_
  refine ev_puti dX4_init_41 fl_X4_28 rfl rfl (lk_l (lk_l (lk_l hs))) ?_
  refine ev_aload_n dX4_init_44 rfl ?_
  refine ev_bipush (v := 40) dX4_init_45 rfl ?_
  refine ev_newi2 (N := 40) (q := (q + 4)) (mc1 := 4) (ms1 := 341) dX4_init_47 ar_w.1 rfl (by decide) (by simp only [List.length_append, List.length_cons, List.length_nil]; omega) (ok_sc (show _ < _ by omega) ok_sn) (ok_lc (show _ < _ by omega) (ok_lo ok_ln)) hm6 (fun j => ((up_ne (Or.inl (by omega))).trans (hz _ (by omega) j))) rfl rfl ?_
  have hm7 := ok_mn (m := (q + 5)) (by omega) hm6
  refine ev_putFq dX4_init_49 fl_X4_31 rfl (fun _ => rfl) (fun _ => rfl) rfl rfl rfl (lk_l (lk_l (lk_l (lk_l hs)))) ?_
  have hm8 := ok_up (k := q) (j := 6) hm7 (show (q + 4) < (q + 5) by omega)
  have hr8 := zq_up (z := (q + 1)) (a := q) (b := 6) (x := some (q + 4)) hr6 (by omega)
  refine ev_aload_n dX4_init_52 rfl ?_
  refine ev_bipush (v := 27) dX4_init_53 rfl ?_
  refine ev_newi2 (N := 27) (q := (q + 5)) (mc1 := 3) (ms1 := 314) dX4_init_55 ar_w.1 rfl (by decide) (by simp only [List.length_append, List.length_cons, List.length_nil]; omega) (ok_sc (show _ < _ by omega) ok_sn) (ok_lc (show _ < _ by omega) (ok_lo ok_ln)) hm8 (fun j => ((up_ne (Or.inl (by omega))).trans (hz _ (by omega) j))) rfl rfl ?_
  have hm9 := ok_mn (m := (q + 6)) (by omega) hm8
  refine ev_putFq dX4_init_57 fl_X4_34 rfl (fun _ => rfl) (fun _ => rfl) rfl rfl rfl (lk_l (lk_l (lk_l (lk_l (lk_l hs))))) ?_
  have hm10 := ok_up (k := q) (j := 7) hm9 (show (q + 5) < (q + 6) by omega)
  have hr10 := zq_up (z := (q + 1)) (a := q) (b := 7) (x := some (q + 5)) hr8 (by omega)
  refine ev_aload_n dX4_init_60 rfl ?_
  refine ev_bipush (v := 20) dX4_init_61 rfl ?_
  refine ev_newi2 (N := 20) (q := (q + 6)) (mc1 := 2) (ms1 := 294) dX4_init_63 ar_w.1 rfl (by decide) (by simp only [List.length_append, List.length_cons, List.length_nil]; omega) (ok_sc (show _ < _ by omega) ok_sn) (ok_lc (show _ < _ by omega) (ok_lo ok_ln)) hm10 (fun j => ((up_ne (Or.inl (by omega))).trans (hz _ (by omega) j))) rfl rfl ?_
  have hm11 := ok_mn (m := (q + 7)) (by omega) hm10
  refine ev_putFq dX4_init_65 fl_X4_37 rfl (fun _ => rfl) (fun _ => rfl) rfl rfl rfl (lk_l (lk_l (lk_l (lk_l (lk_l (lk_l hs)))))) ?_
  have hm12 := ok_up (k := q) (j := 8) hm11 (show (q + 6) < (q + 7) by omega)
  have hr12 := zq_up (z := (q + 1)) (a := q) (b := 8) (x := some (q + 6)) hr10 (by omega)
  refine ev_aload_n dX4_init_68 rfl ?_
  refine ev_sipush (v := 147) dX4_init_69 rfl ?_
  refine ev_newi2 (N := 147) (q := (q + 7)) (mc1 := 1) (ms1 := 147) dX4_init_72 ar_w.1 rfl (by decide) (by simp only [List.length_append, List.length_cons, List.length_nil]; omega) (ok_sc (show _ < _ by omega) ok_sn) (ok_lc (show _ < _ by omega) (ok_lo ok_ln)) hm12 (fun j => ((up_ne (Or.inl (by omega))).trans (hz _ (by omega) j))) rfl rfl ?_
  have hm13 := ok_mn (m := (q + 8)) (by omega) hm12
  refine ev_putFq dX4_init_74 fl_X4_40 rfl (fun _ => rfl) (fun _ => rfl) rfl rfl rfl (lk_l (lk_l (lk_l (lk_l (lk_l (lk_l (lk_l hs))))))) ?_
  have hm14 := ok_up (k := q) (j := 9) hm13 (show (q + 7) < (q + 8) by omega)
  have hr14 := zq_up (z := (q + 1)) (a := q) (b := 9) (x := some (q + 7)) hr12 (by omega)
  refine ev_aload_n dX4_init_77 rfl ?_
  refine ev_sipush (v := 147) dX4_init_78 rfl ?_
  refine ev_newi2 (N := 147) (q := (q + 8)) (mc1 := 0) (ms1 := 0) dX4_init_81 ar_w.1 rfl (by decide) (by simp only [List.length_append, List.length_cons, List.length_nil]; omega) (ok_sc (show _ < _ by omega) ok_sn) (ok_lc (show _ < _ by omega) (ok_lo ok_ln)) hm14 (fun j => ((up_ne (Or.inl (by omega))).trans (hz _ (by omega) j))) rfl rfl ?_
  have hm15 := ok_mn (m := (q + 9)) (by omega) hm14
  refine ev_putFq dX4_init_83 fl_X4_43 rfl (fun _ => rfl) (fun _ => rfl) rfl rfl rfl (lk_l (lk_l (lk_l (lk_l (lk_l (lk_l (lk_l (lk_l hs)))))))) ?_
  have hm16 := ok_up (k := q) (j := 10) hm15 (show (q + 8) < (q + 9) by omega)
  have hr16 := zq_up (z := (q + 1)) (a := q) (b := 10) (x := some (q + 8)) hr14 (by omega)
  refine ev_aload_n dX4_init_86 rfl ?_
  refine ev_iconst (v := 0) dX4_init_87 rfl ?_
  refine ev_puti dX4_init_88 fl_X4_46 rfl rfl (lk_l (lk_l (lk_l (lk_l (lk_l (lk_l (lk_l (lk_l hs)))))))) ?_
  rw [up_id (show _ = (0 : Int32) from ((up_ne (Or.inr (by decide))).trans (hz _ (by omega) _)))]
  refine ev_aload_n dX4_init_91 rfl ?_
  refine ev_getq dX4_init_92 fl_X4_9 rfl (lk_l (lk_l (lk_l (lk_l (lk_l (lk_l (lk_l (lk_l hs)))))))) (by simp [up_2]) ?_
  refine ev_iconst (v := 0) dX4_init_95 rfl ?_
  refine ev_iconst (v := 3) dX4_init_96 rfl ?_
  refine ev_iast dX4_init_97 (lk_l (lk_l (lk_l (lk_l (lk_l (lk_l (lk_l (lk_n (by omega))))))))) (j := 0) rfl (by decide) (by decide) ?_
  refine ev_iconst (v := 1) dX4_init_98 rfl ?_
  refine ev_istore_n dX4_init_99 (by decide) ?_
  have q1 := lp_X4_init (mi := (up_2 (up_2 mi q 5 100) (q + 1) 0 3)) (lk_l (lk_l (lk_l (lk_l (lk_l (lk_l (lk_l (lk_l hs)))))))) (by simp [up_2]) (lk_l (lk_l (lk_l (lk_l (lk_l (lk_l (lk_l (lk_n (by omega))))))))) 0 (by decide)
  rw [fl_0] at q1
  exact q1
set_option maxRecDepth 100000 in
set_option maxHeartbeats 4000000 in
theorem t_X6_init {sh : SH} {mi : MI} {mr : MR} {q : Nat} (hs : sh[q]? = some (.inl 6)) (hn : sh.length = q + 1) (hm : ok_m (q + 1) mr) (hz : ∀ k, q ≤ k → ∀ j, mi k j = 0) (hzr : ∀ k, q + 1 ≤ k → ∀ j, mr k j = none)  : EV none 1 37 2718 mX6_init 0 (en_l mX6_init [pv_r q]) [] sh mi mr (fun v_ sh_ mi_ mr_ => v_ = none ∧ sh_ = (((((((((((((((((((((((((((((((((((((sh ++ [.inr (0, 10)]) ++ [.inr (0, 10)]) ++ [.inr (0, 60)]) ++ [.inr (0, 60)]) ++ [.inr (1, 60)]) ++ [.inr (0, 50)]) ++ [.inr (0, 50)]) ++ [.inr (0, 50)]) ++ [.inr (0, 10)]) ++ [.inr (0, 10)]) ++ [.inr (0, 10)]) ++ [.inr (0, 50)]) ++ [.inr (0, 50)]) ++ [.inr (0, 7)]) ++ [.inr (0, 7)]) ++ [.inr (0, 50)]) ++ [.inr (0, 10)]) ++ [.inr (0, 7)]) ++ [.inr (0, 7)]) ++ [.inr (0, 5)]) ++ [.inr (0, 27)]) ++ [.inr (0, 40)]) ++ [.inr (0, 20)]) ++ [.inr (0, 147)]) ++ [.inr (0, 6)]) ++ [.inr (0, 27)]) ++ [.inr (0, 6)]) ++ [.inr (0, 6)]) ++ [.inr (0, 6)]) ++ [.inr (0, 864)]) ++ [.inr (0, 6)]) ++ [.inr (0, 864)]) ++ [.inr (0, 6)]) ++ [.inr (0, 30)]) ++ [.inr (0, 30)]) ++ [.inr (0, 30)]) ++ [.inr (0, 30)]) ∧ mi_ = fl_r (up_2 (up_2 mi q 33 100) (q + 21) 0 3) (q + 21) 1 26 5 ∧ mr_ = (up_2 (up_2 (up_2 (up_2 (up_2 (up_2 (up_2 (up_2 (up_2 (up_2 (up_2 (up_2 (up_2 (up_2 (up_2 (up_2 (up_2 (up_2 (up_2 (up_2 (up_2 (up_2 (up_2 (up_2 (up_2 (up_2 (up_2 (up_2 (up_2 (up_2 (up_2 (up_2 (up_2 (up_2 (up_2 (up_2 (up_2 mr q 2 (some (q + 1))) q 3 (some (q + 2))) q 4 (some (q + 3))) q 5 (some (q + 4))) q 6 (some (q + 5))) q 7 (some (q + 6))) q 8 (some (q + 7))) q 9 (some (q + 8))) q 10 (some (q + 9))) q 11 (some (q + 10))) q 12 (some (q + 11))) q 14 (some (q + 12))) q 15 (some (q + 13))) q 17 (some (q + 14))) q 18 (some (q + 15))) q 19 (some (q + 16))) q 20 (some (q + 17))) q 21 (some (q + 18))) q 22 (some (q + 19))) q 23 (some (q + 20))) q 24 (some (q + 21))) q 26 (some (q + 22))) q 28 (some (q + 23))) q 29 (some (q + 24))) q 31 (some (q + 25))) q 32 (some (q + 26))) q 35 (some (q + 27))) q 36 (some (q + 28))) q 37 (some (q + 29))) q 38 (some (q + 30))) q 39 (some (q + 31))) q 40 (some (q + 32))) q 41 (some (q + 33))) q 43 (some (q + 34))) q 44 (some (q + 35))) q 45 (some (q + 36))) q 46 (some (q + 37)))) := by
  show EV none 1 37 2718 mX6_init 0 [some (pv_r q), none] [] sh mi mr _
  refine ev_aload_n dX6_init_0 rfl ?_
  refine ev_objInit dX6_init_1 oi_X6_1 oi_w.1 oi_w.2 (by decide) (Nat.le_of_ble_eq_true rfl) ?_
  refine ev_aload_n dX6_init_4 rfl ?_
  refine ev_bipush (v := 10) dX6_init_5 rfl ?_
  refine ev_newi2 (N := 10) (q := (q + 1)) (mc1 := 36) (ms1 := 2708) dX6_init_7 ar_w.1 rfl (by decide) (by omega) (ok_sc (show _ < _ by omega) ok_sn) (ok_lc (show _ < _ by omega) (ok_lo ok_ln)) hm (fun j => (hz _ (by omega) j)) rfl rfl ?_
  have hm1 := ok_mn (m := (q + 2)) (by omega) hm
  refine ev_putFq dX6_init_9 fl_X6_7 rfl (fun _ => rfl) (fun _ => rfl) rfl rfl rfl (lk_l hs) ?_
  have hm2 := ok_up (k := q) (j := 2) hm1 (show (q + 1) < (q + 2) by omega)
  have hr2 := zq_up (z := (q + 1)) (a := q) (b := 2) (x := some (q + 1)) hzr (by omega)
  refine ev_aload_n dX6_init_12 rfl ?_
  refine ev_bipush (v := 10) dX6_init_13 rfl ?_
  refine ev_newi2 (N := 10) (q := (q + 2)) (mc1 := 35) (ms1 := 2698) dX6_init_15 ar_w.1 rfl (by decide) (by simp only [List.length_append, List.length_cons, List.length_nil]; omega) (ok_sc (show _ < _ by omega) ok_sn) (ok_lc (show _ < _ by omega) (ok_lo ok_ln)) hm2 (fun j => (hz _ (by omega) j)) rfl rfl ?_
  have hm3 := ok_mn (m := (q + 3)) (by omega) hm2
  refine ev_putFq dX6_init_17 fl_X6_13 rfl (fun _ => rfl) (fun _ => rfl) rfl rfl rfl (lk_l (lk_l hs)) ?_
  have hm4 := ok_up (k := q) (j := 3) hm3 (show (q + 2) < (q + 3) by omega)
  have hr4 := zq_up (z := (q + 1)) (a := q) (b := 3) (x := some (q + 2)) hr2 (by omega)
  refine ev_aload_n dX6_init_20 rfl ?_
  refine ev_bipush (v := 60) dX6_init_21 rfl ?_
  refine ev_newi2 (N := 60) (q := (q + 3)) (mc1 := 34) (ms1 := 2638) dX6_init_23 ar_w.1 rfl (by decide) (by simp only [List.length_append, List.length_cons, List.length_nil]; omega) (ok_sc (show _ < _ by omega) ok_sn) (ok_lc (show _ < _ by omega) (ok_lo ok_ln)) hm4 (fun j => (hz _ (by omega) j)) rfl rfl ?_
  have hm5 := ok_mn (m := (q + 4)) (by omega) hm4
  refine ev_putFq dX6_init_25 fl_X6_16 rfl (fun _ => rfl) (fun _ => rfl) rfl rfl rfl (lk_l (lk_l (lk_l hs))) ?_
  have hm6 := ok_up (k := q) (j := 4) hm5 (show (q + 3) < (q + 4) by omega)
  have hr6 := zq_up (z := (q + 1)) (a := q) (b := 4) (x := some (q + 3)) hr4 (by omega)
  refine ev_aload_n dX6_init_28 rfl ?_
  refine ev_bipush (v := 60) dX6_init_29 rfl ?_
  refine ev_newi2 (N := 60) (q := (q + 4)) (mc1 := 33) (ms1 := 2578) dX6_init_31 ar_w.1 rfl (by decide) (by simp only [List.length_append, List.length_cons, List.length_nil]; omega) (ok_sc (show _ < _ by omega) ok_sn) (ok_lc (show _ < _ by omega) (ok_lo ok_ln)) hm6 (fun j => (hz _ (by omega) j)) rfl rfl ?_
  have hm7 := ok_mn (m := (q + 5)) (by omega) hm6
  refine ev_putFq dX6_init_33 fl_X6_19 rfl (fun _ => rfl) (fun _ => rfl) rfl rfl rfl (lk_l (lk_l (lk_l (lk_l hs)))) ?_
  have hm8 := ok_up (k := q) (j := 5) hm7 (show (q + 4) < (q + 5) by omega)
  have hr8 := zq_up (z := (q + 1)) (a := q) (b := 5) (x := some (q + 4)) hr6 (by omega)
  refine ev_aload_n dX6_init_36 rfl ?_
  refine ev_bipush (v := 60) dX6_init_37 rfl ?_
  refine ev_newz2 (N := 60) (q := (q + 5)) (mc1 := 32) (ms1 := 2518) dX6_init_39 ar_w.2 rfl (by decide) (by simp only [List.length_append, List.length_cons, List.length_nil]; omega) (ok_sc (show _ < _ by omega) ok_sn) (ok_lc (show _ < _ by omega) (ok_lo ok_ln)) hm8 (fun j => (hz _ (by omega) j)) rfl rfl ?_
  have hm9 := ok_mn (m := (q + 6)) (by omega) hm8
  refine ev_putFq dX6_init_41 fl_X6_22 rfl (fun _ => rfl) (fun _ => rfl) rfl rfl rfl (lk_l (lk_l (lk_l (lk_l (lk_l hs))))) ?_
  have hm10 := ok_up (k := q) (j := 6) hm9 (show (q + 5) < (q + 6) by omega)
  have hr10 := zq_up (z := (q + 1)) (a := q) (b := 6) (x := some (q + 5)) hr8 (by omega)
  refine ev_aload_n dX6_init_44 rfl ?_
  refine ev_bipush (v := 50) dX6_init_45 rfl ?_
  refine ev_newi2 (N := 50) (q := (q + 6)) (mc1 := 31) (ms1 := 2468) dX6_init_47 ar_w.1 rfl (by decide) (by simp only [List.length_append, List.length_cons, List.length_nil]; omega) (ok_sc (show _ < _ by omega) ok_sn) (ok_lc (show _ < _ by omega) (ok_lo ok_ln)) hm10 (fun j => (hz _ (by omega) j)) rfl rfl ?_
  have hm11 := ok_mn (m := (q + 7)) (by omega) hm10
  refine ev_putFq dX6_init_49 fl_X6_26 rfl (fun _ => rfl) (fun _ => rfl) rfl rfl rfl (lk_l (lk_l (lk_l (lk_l (lk_l (lk_l hs)))))) ?_
  have hm12 := ok_up (k := q) (j := 7) hm11 (show (q + 6) < (q + 7) by omega)
  have hr12 := zq_up (z := (q + 1)) (a := q) (b := 7) (x := some (q + 6)) hr10 (by omega)
  refine ev_aload_n dX6_init_52 rfl ?_
  refine ev_bipush (v := 50) dX6_init_53 rfl ?_
  refine ev_newi2 (N := 50) (q := (q + 7)) (mc1 := 30) (ms1 := 2418) dX6_init_55 ar_w.1 rfl (by decide) (by simp only [List.length_append, List.length_cons, List.length_nil]; omega) (ok_sc (show _ < _ by omega) ok_sn) (ok_lc (show _ < _ by omega) (ok_lo ok_ln)) hm12 (fun j => (hz _ (by omega) j)) rfl rfl ?_
  have hm13 := ok_mn (m := (q + 8)) (by omega) hm12
  refine ev_putFq dX6_init_57 fl_X6_29 rfl (fun _ => rfl) (fun _ => rfl) rfl rfl rfl (lk_l (lk_l (lk_l (lk_l (lk_l (lk_l (lk_l hs))))))) ?_
  have hm14 := ok_up (k := q) (j := 8) hm13 (show (q + 7) < (q + 8) by omega)
  have hr14 := zq_up (z := (q + 1)) (a := q) (b := 8) (x := some (q + 7)) hr12 (by omega)
  refine ev_aload_n dX6_init_60 rfl ?_
  refine ev_bipush (v := 50) dX6_init_61 rfl ?_
  refine ev_newi2 (N := 50) (q := (q + 8)) (mc1 := 29) (ms1 := 2368) dX6_init_63 ar_w.1 rfl (by decide) (by simp only [List.length_append, List.length_cons, List.length_nil]; omega) (ok_sc (show _ < _ by omega) ok_sn) (ok_lc (show _ < _ by omega) (ok_lo ok_ln)) hm14 (fun j => (hz _ (by omega) j)) rfl rfl ?_
  have hm15 := ok_mn (m := (q + 9)) (by omega) hm14
  refine ev_putFq dX6_init_65 fl_X6_32 rfl (fun _ => rfl) (fun _ => rfl) rfl rfl rfl (lk_l (lk_l (lk_l (lk_l (lk_l (lk_l (lk_l (lk_l hs)))))))) ?_
  have hm16 := ok_up (k := q) (j := 9) hm15 (show (q + 8) < (q + 9) by omega)
  have hr16 := zq_up (z := (q + 1)) (a := q) (b := 9) (x := some (q + 8)) hr14 (by omega)
  refine ev_aload_n dX6_init_68 rfl ?_
  refine ev_bipush (v := 10) dX6_init_69 rfl ?_
  refine ev_newi2 (N := 10) (q := (q + 9)) (mc1 := 28) (ms1 := 2358) dX6_init_71 ar_w.1 rfl (by decide) (by simp only [List.length_append, List.length_cons, List.length_nil]; omega) (ok_sc (show _ < _ by omega) ok_sn) (ok_lc (show _ < _ by omega) (ok_lo ok_ln)) hm16 (fun j => (hz _ (by omega) j)) rfl rfl ?_
  have hm17 := ok_mn (m := (q + 10)) (by omega) hm16
  refine ev_putFq dX6_init_73 fl_X6_35 rfl (fun _ => rfl) (fun _ => rfl) rfl rfl rfl (lk_l (lk_l (lk_l (lk_l (lk_l (lk_l (lk_l (lk_l (lk_l hs))))))))) ?_
  have hm18 := ok_up (k := q) (j := 10) hm17 (show (q + 9) < (q + 10) by omega)
  have hr18 := zq_up (z := (q + 1)) (a := q) (b := 10) (x := some (q + 9)) hr16 (by omega)
  refine ev_aload_n dX6_init_76 rfl ?_
  refine ev_bipush (v := 10) dX6_init_77 rfl ?_
  refine ev_newi2 (N := 10) (q := (q + 10)) (mc1 := 27) (ms1 := 2348) dX6_init_79 ar_w.1 rfl (by decide) (by simp only [List.length_append, List.length_cons, List.length_nil]; omega) (ok_sc (show _ < _ by omega) ok_sn) (ok_lc (show _ < _ by omega) (ok_lo ok_ln)) hm18 (fun j => (hz _ (by omega) j)) rfl rfl ?_
  have hm19 := ok_mn (m := (q + 11)) (by omega) hm18
  refine ev_putFq dX6_init_81 fl_X6_38 rfl (fun _ => rfl) (fun _ => rfl) rfl rfl rfl (lk_l (lk_l (lk_l (lk_l (lk_l (lk_l (lk_l (lk_l (lk_l (lk_l hs)))))))))) ?_
  have hm20 := ok_up (k := q) (j := 11) hm19 (show (q + 10) < (q + 11) by omega)
  have hr20 := zq_up (z := (q + 1)) (a := q) (b := 11) (x := some (q + 10)) hr18 (by omega)
  refine ev_aload_n dX6_init_84 rfl ?_
  refine ev_bipush (v := 10) dX6_init_85 rfl ?_
  refine ev_newi2 (N := 10) (q := (q + 11)) (mc1 := 26) (ms1 := 2338) dX6_init_87 ar_w.1 rfl (by decide) (by simp only [List.length_append, List.length_cons, List.length_nil]; omega) (ok_sc (show _ < _ by omega) ok_sn) (ok_lc (show _ < _ by omega) (ok_lo ok_ln)) hm20 (fun j => (hz _ (by omega) j)) rfl rfl ?_
  have hm21 := ok_mn (m := (q + 12)) (by omega) hm20
  refine ev_putFq dX6_init_89 fl_X6_41 rfl (fun _ => rfl) (fun _ => rfl) rfl rfl rfl (lk_l (lk_l (lk_l (lk_l (lk_l (lk_l (lk_l (lk_l (lk_l (lk_l (lk_l hs))))))))))) ?_
  have hm22 := ok_up (k := q) (j := 12) hm21 (show (q + 11) < (q + 12) by omega)
  have hr22 := zq_up (z := (q + 1)) (a := q) (b := 12) (x := some (q + 11)) hr20 (by omega)
  refine ev_aload_n dX6_init_92 rfl ?_
  refine ev_bipush (v := 50) dX6_init_93 rfl ?_
  refine ev_newi2 (N := 50) (q := (q + 12)) (mc1 := 25) (ms1 := 2288) dX6_init_95 ar_w.1 rfl (by decide) (by simp only [List.length_append, List.length_cons, List.length_nil]; omega) (ok_sc (show _ < _ by omega) ok_sn) (ok_lc (show _ < _ by omega) (ok_lo ok_ln)) hm22 (fun j => (hz _ (by omega) j)) rfl rfl ?_
  have hm23 := ok_mn (m := (q + 13)) (by omega) hm22
  refine ev_putFq dX6_init_97 fl_X6_44 rfl (fun _ => rfl) (fun _ => rfl) rfl rfl rfl (lk_l (lk_l (lk_l (lk_l (lk_l (lk_l (lk_l (lk_l (lk_l (lk_l (lk_l (lk_l hs)))))))))))) ?_
  have hm24 := ok_up (k := q) (j := 14) hm23 (show (q + 12) < (q + 13) by omega)
  have hr24 := zq_up (z := (q + 1)) (a := q) (b := 14) (x := some (q + 12)) hr22 (by omega)
  refine ev_aload_n dX6_init_100 rfl ?_
  refine ev_bipush (v := 50) dX6_init_101 rfl ?_
  refine ev_newi2 (N := 50) (q := (q + 13)) (mc1 := 24) (ms1 := 2238) dX6_init_103 ar_w.1 rfl (by decide) (by simp only [List.length_append, List.length_cons, List.length_nil]; omega) (ok_sc (show _ < _ by omega) ok_sn) (ok_lc (show _ < _ by omega) (ok_lo ok_ln)) hm24 (fun j => (hz _ (by omega) j)) rfl rfl ?_
  have hm25 := ok_mn (m := (q + 14)) (by omega) hm24
  refine ev_putFq dX6_init_105 fl_X6_47 rfl (fun _ => rfl) (fun _ => rfl) rfl rfl rfl (lk_l (lk_l (lk_l (lk_l (lk_l (lk_l (lk_l (lk_l (lk_l (lk_l (lk_l (lk_l (lk_l hs))))))))))))) ?_
  have hm26 := ok_up (k := q) (j := 15) hm25 (show (q + 13) < (q + 14) by omega)
  have hr26 := zq_up (z := (q + 1)) (a := q) (b := 15) (x := some (q + 13)) hr24 (by omega)
  refine ev_aload_n dX6_init_108 rfl ?_
  refine ev_bipush (v := 7) dX6_init_109 rfl ?_
  refine ev_newi2 (N := 7) (q := (q + 14)) (mc1 := 23) (ms1 := 2231) dX6_init_111 ar_w.1 rfl (by decide) (by simp only [List.length_append, List.length_cons, List.length_nil]; omega) (ok_sc (show _ < _ by omega) ok_sn) (ok_lc (show _ < _ by omega) (ok_lo ok_ln)) hm26 (fun j => (hz _ (by omega) j)) rfl rfl ?_
  have hm27 := ok_mn (m := (q + 15)) (by omega) hm26
  refine ev_putFq dX6_init_113 fl_X6_50 rfl (fun _ => rfl) (fun _ => rfl) rfl rfl rfl (lk_l (lk_l (lk_l (lk_l (lk_l (lk_l (lk_l (lk_l (lk_l (lk_l (lk_l (lk_l (lk_l (lk_l hs)))))))))))))) ?_
  have hm28 := ok_up (k := q) (j := 17) hm27 (show (q + 14) < (q + 15) by omega)
  have hr28 := zq_up (z := (q + 1)) (a := q) (b := 17) (x := some (q + 14)) hr26 (by omega)
  refine ev_aload_n dX6_init_116 rfl ?_
  refine ev_bipush (v := 7) dX6_init_117 rfl ?_
  refine ev_newi2 (N := 7) (q := (q + 15)) (mc1 := 22) (ms1 := 2224) dX6_init_119 ar_w.1 rfl (by decide) (by simp only [List.length_append, List.length_cons, List.length_nil]; omega) (ok_sc (show _ < _ by omega) ok_sn) (ok_lc (show _ < _ by omega) (ok_lo ok_ln)) hm28 (fun j => (hz _ (by omega) j)) rfl rfl ?_
  have hm29 := ok_mn (m := (q + 16)) (by omega) hm28
  refine ev_putFq dX6_init_121 fl_X6_53 rfl (fun _ => rfl) (fun _ => rfl) rfl rfl rfl (lk_l (lk_l (lk_l (lk_l (lk_l (lk_l (lk_l (lk_l (lk_l (lk_l (lk_l (lk_l (lk_l (lk_l (lk_l hs))))))))))))))) ?_
  have hm30 := ok_up (k := q) (j := 18) hm29 (show (q + 15) < (q + 16) by omega)
  have hr30 := zq_up (z := (q + 1)) (a := q) (b := 18) (x := some (q + 15)) hr28 (by omega)
  refine ev_aload_n dX6_init_124 rfl ?_
  refine ev_bipush (v := 50) dX6_init_125 rfl ?_
  refine ev_newi2 (N := 50) (q := (q + 16)) (mc1 := 21) (ms1 := 2174) dX6_init_127 ar_w.1 rfl (by decide) (by simp only [List.length_append, List.length_cons, List.length_nil]; omega) (ok_sc (show _ < _ by omega) ok_sn) (ok_lc (show _ < _ by omega) (ok_lo ok_ln)) hm30 (fun j => (hz _ (by omega) j)) rfl rfl ?_
  have hm31 := ok_mn (m := (q + 17)) (by omega) hm30
  refine ev_putFq dX6_init_129 fl_X6_56 rfl (fun _ => rfl) (fun _ => rfl) rfl rfl rfl (lk_l (lk_l (lk_l (lk_l (lk_l (lk_l (lk_l (lk_l (lk_l (lk_l (lk_l (lk_l (lk_l (lk_l (lk_l (lk_l hs)))))))))))))))) ?_
  have hm32 := ok_up (k := q) (j := 19) hm31 (show (q + 16) < (q + 17) by omega)
  have hr32 := zq_up (z := (q + 1)) (a := q) (b := 19) (x := some (q + 16)) hr30 (by omega)
  refine ev_aload_n dX6_init_132 rfl ?_
  refine ev_bipush (v := 10) dX6_init_133 rfl ?_
  refine ev_newi2 (N := 10) (q := (q + 17)) (mc1 := 20) (ms1 := 2164) dX6_init_135 ar_w.1 rfl (by decide) (by simp only [List.length_append, List.length_cons, List.length_nil]; omega) (ok_sc (show _ < _ by omega) ok_sn) (ok_lc (show _ < _ by omega) (ok_lo ok_ln)) hm32 (fun j => (hz _ (by omega) j)) rfl rfl ?_
  have hm33 := ok_mn (m := (q + 18)) (by omega) hm32
  refine ev_putFq dX6_init_137 fl_X6_59 rfl (fun _ => rfl) (fun _ => rfl) rfl rfl rfl (lk_l (lk_l (lk_l (lk_l (lk_l (lk_l (lk_l (lk_l (lk_l (lk_l (lk_l (lk_l (lk_l (lk_l (lk_l (lk_l (lk_l hs))))))))))))))))) ?_
  have hm34 := ok_up (k := q) (j := 20) hm33 (show (q + 17) < (q + 18) by omega)
  have hr34 := zq_up (z := (q + 1)) (a := q) (b := 20) (x := some (q + 17)) hr32 (by omega)
  refine ev_aload_n dX6_init_140 rfl ?_
  refine ev_bipush (v := 7) dX6_init_141 rfl ?_
  refine ev_newi2 (N := 7) (q := (q + 18)) (mc1 := 19) (ms1 := 2157) dX6_init_143 ar_w.1 rfl (by decide) (by simp only [List.length_append, List.length_cons, List.length_nil]; omega) (ok_sc (show _ < _ by omega) ok_sn) (ok_lc (show _ < _ by omega) (ok_lo ok_ln)) hm34 (fun j => (hz _ (by omega) j)) rfl rfl ?_
  have hm35 := ok_mn (m := (q + 19)) (by omega) hm34
  refine ev_putFq dX6_init_145 fl_X6_62 rfl (fun _ => rfl) (fun _ => rfl) rfl rfl rfl (lk_l (lk_l (lk_l (lk_l (lk_l (lk_l (lk_l (lk_l (lk_l (lk_l (lk_l (lk_l (lk_l (lk_l (lk_l (lk_l (lk_l (lk_l hs)))))))))))))))))) ?_
  have hm36 := ok_up (k := q) (j := 21) hm35 (show (q + 18) < (q + 19) by omega)
  have hr36 := zq_up (z := (q + 1)) (a := q) (b := 21) (x := some (q + 18)) hr34 (by omega)
  refine ev_aload_n dX6_init_148 rfl ?_
  refine ev_bipush (v := 7) dX6_init_149 rfl ?_
  refine ev_newi2 (N := 7) (q := (q + 19)) (mc1 := 18) (ms1 := 2150) dX6_init_151 ar_w.1 rfl (by decide) (by simp only [List.length_append, List.length_cons, List.length_nil]; omega) (ok_sc (show _ < _ by omega) ok_sn) (ok_lc (show _ < _ by omega) (ok_lo ok_ln)) hm36 (fun j => (hz _ (by omega) j)) rfl rfl ?_
  have hm37 := ok_mn (m := (q + 20)) (by omega) hm36
  refine ev_putFq dX6_init_153 fl_X6_65 rfl (fun _ => rfl) (fun _ => rfl) rfl rfl rfl (lk_l (lk_l (lk_l (lk_l (lk_l (lk_l (lk_l (lk_l (lk_l (lk_l (lk_l (lk_l (lk_l (lk_l (lk_l (lk_l (lk_l (lk_l (lk_l hs))))))))))))))))))) ?_
  have hm38 := ok_up (k := q) (j := 22) hm37 (show (q + 19) < (q + 20) by omega)
  have hr38 := zq_up (z := (q + 1)) (a := q) (b := 22) (x := some (q + 19)) hr36 (by omega)
  refine ev_aload_n dX6_init_156 rfl ?_
  refine ev_iconst (v := 5) dX6_init_157 rfl ?_
  refine ev_newi2 (N := 5) (q := (q + 20)) (mc1 := 17) (ms1 := 2145) dX6_init_158 ar_w.1 rfl (by decide) (by simp only [List.length_append, List.length_cons, List.length_nil]; omega) (ok_sc (show _ < _ by omega) ok_sn) (ok_lc (show _ < _ by omega) (ok_lo ok_ln)) hm38 (fun j => (hz _ (by omega) j)) rfl rfl ?_
  have hm39 := ok_mn (m := (q + 21)) (by omega) hm38
  refine ev_putFq dX6_init_160 fl_X6_68 rfl (fun _ => rfl) (fun _ => rfl) rfl rfl rfl (lk_l (lk_l (lk_l (lk_l (lk_l (lk_l (lk_l (lk_l (lk_l (lk_l (lk_l (lk_l (lk_l (lk_l (lk_l (lk_l (lk_l (lk_l (lk_l (lk_l hs)))))))))))))))))))) ?_
  have hm40 := ok_up (k := q) (j := 23) hm39 (show (q + 20) < (q + 21) by omega)
  have hr40 := zq_up (z := (q + 1)) (a := q) (b := 23) (x := some (q + 20)) hr38 (by omega)
  refine ev_aload_n dX6_init_163 rfl ?_
  refine ev_bipush (v := 27) dX6_init_164 rfl ?_
  refine ev_newi2 (N := 27) (q := (q + 21)) (mc1 := 16) (ms1 := 2118) dX6_init_166 ar_w.1 rfl (by decide) (by simp only [List.length_append, List.length_cons, List.length_nil]; omega) (ok_sc (show _ < _ by omega) ok_sn) (ok_lc (show _ < _ by omega) (ok_lo ok_ln)) hm40 (fun j => (hz _ (by omega) j)) rfl rfl ?_
  have hm41 := ok_mn (m := (q + 22)) (by omega) hm40
  refine ev_putFq dX6_init_168 fl_X6_71 rfl (fun _ => rfl) (fun _ => rfl) rfl rfl rfl (lk_l (lk_l (lk_l (lk_l (lk_l (lk_l (lk_l (lk_l (lk_l (lk_l (lk_l (lk_l (lk_l (lk_l (lk_l (lk_l (lk_l (lk_l (lk_l (lk_l (lk_l hs))))))))))))))))))))) ?_
  have hm42 := ok_up (k := q) (j := 24) hm41 (show (q + 21) < (q + 22) by omega)
  have hr42 := zq_up (z := (q + 1)) (a := q) (b := 24) (x := some (q + 21)) hr40 (by omega)
  refine ev_aload_n dX6_init_171 rfl ?_
  refine ev_bipush (v := 40) dX6_init_172 rfl ?_
  refine ev_newi2 (N := 40) (q := (q + 22)) (mc1 := 15) (ms1 := 2078) dX6_init_174 ar_w.1 rfl (by decide) (by simp only [List.length_append, List.length_cons, List.length_nil]; omega) (ok_sc (show _ < _ by omega) ok_sn) (ok_lc (show _ < _ by omega) (ok_lo ok_ln)) hm42 (fun j => (hz _ (by omega) j)) rfl rfl ?_
  have hm43 := ok_mn (m := (q + 23)) (by omega) hm42
  refine ev_putFq dX6_init_176 fl_X6_74 rfl (fun _ => rfl) (fun _ => rfl) rfl rfl rfl (lk_l (lk_l (lk_l (lk_l (lk_l (lk_l (lk_l (lk_l (lk_l (lk_l (lk_l (lk_l (lk_l (lk_l (lk_l (lk_l (lk_l (lk_l (lk_l (lk_l (lk_l (lk_l hs)))))))))))))))))))))) ?_
  have hm44 := ok_up (k := q) (j := 26) hm43 (show (q + 22) < (q + 23) by omega)
  have hr44 := zq_up (z := (q + 1)) (a := q) (b := 26) (x := some (q + 22)) hr42 (by omega)
  refine ev_aload_n dX6_init_179 rfl ?_
  refine ev_bipush (v := 20) dX6_init_180 rfl ?_
  refine ev_newi2 (N := 20) (q := (q + 23)) (mc1 := 14) (ms1 := 2058) dX6_init_182 ar_w.1 rfl (by decide) (by simp only [List.length_append, List.length_cons, List.length_nil]; omega) (ok_sc (show _ < _ by omega) ok_sn) (ok_lc (show _ < _ by omega) (ok_lo ok_ln)) hm44 (fun j => (hz _ (by omega) j)) rfl rfl ?_
  have hm45 := ok_mn (m := (q + 24)) (by omega) hm44
  refine ev_putFq dX6_init_184 fl_X6_77 rfl (fun _ => rfl) (fun _ => rfl) rfl rfl rfl (lk_l (lk_l (lk_l (lk_l (lk_l (lk_l (lk_l (lk_l (lk_l (lk_l (lk_l (lk_l (lk_l (lk_l (lk_l (lk_l (lk_l (lk_l (lk_l (lk_l (lk_l (lk_l (lk_l hs))))))))))))))))))))))) ?_
  have hm46 := ok_up (k := q) (j := 28) hm45 (show (q + 23) < (q + 24) by omega)
  have hr46 := zq_up (z := (q + 1)) (a := q) (b := 28) (x := some (q + 23)) hr44 (by omega)
  refine ev_aload_n dX6_init_187 rfl ?_
  refine ev_sipush (v := 147) dX6_init_188 rfl ?_
  refine ev_newi2 (N := 147) (q := (q + 24)) (mc1 := 13) (ms1 := 1911) dX6_init_191 ar_w.1 rfl (by decide) (by simp only [List.length_append, List.length_cons, List.length_nil]; omega) (ok_sc (show _ < _ by omega) ok_sn) (ok_lc (show _ < _ by omega) (ok_lo ok_ln)) hm46 (fun j => (hz _ (by omega) j)) rfl rfl ?_
  have hm47 := ok_mn (m := (q + 25)) (by omega) hm46
  refine ev_putFq dX6_init_193 fl_X6_80 rfl (fun _ => rfl) (fun _ => rfl) rfl rfl rfl (lk_l (lk_l (lk_l (lk_l (lk_l (lk_l (lk_l (lk_l (lk_l (lk_l (lk_l (lk_l (lk_l (lk_l (lk_l (lk_l (lk_l (lk_l (lk_l (lk_l (lk_l (lk_l (lk_l (lk_l hs)))))))))))))))))))))))) ?_
  have hm48 := ok_up (k := q) (j := 29) hm47 (show (q + 24) < (q + 25) by omega)
  have hr48 := zq_up (z := (q + 1)) (a := q) (b := 29) (x := some (q + 24)) hr46 (by omega)
  refine ev_aload_n dX6_init_196 rfl ?_
  refine ev_bipush (v := 6) dX6_init_197 rfl ?_
  refine ev_newi2 (N := 6) (q := (q + 25)) (mc1 := 12) (ms1 := 1905) dX6_init_199 ar_w.1 rfl (by decide) (by simp only [List.length_append, List.length_cons, List.length_nil]; omega) (ok_sc (show _ < _ by omega) ok_sn) (ok_lc (show _ < _ by omega) (ok_lo ok_ln)) hm48 (fun j => (hz _ (by omega) j)) rfl rfl ?_
  have hm49 := ok_mn (m := (q + 26)) (by omega) hm48
  refine ev_putFq dX6_init_201 fl_X6_83 rfl (fun _ => rfl) (fun _ => rfl) rfl rfl rfl (lk_l (lk_l (lk_l (lk_l (lk_l (lk_l (lk_l (lk_l (lk_l (lk_l (lk_l (lk_l (lk_l (lk_l (lk_l (lk_l (lk_l (lk_l (lk_l (lk_l (lk_l (lk_l (lk_l (lk_l (lk_l hs))))))))))))))))))))))))) ?_
  have hm50 := ok_up (k := q) (j := 31) hm49 (show (q + 25) < (q + 26) by omega)
  have hr50 := zq_up (z := (q + 1)) (a := q) (b := 31) (x := some (q + 25)) hr48 (by omega)
  refine ev_aload_n dX6_init_204 rfl ?_
  refine ev_bipush (v := 27) dX6_init_205 rfl ?_
  refine ev_newi2 (N := 27) (q := (q + 26)) (mc1 := 11) (ms1 := 1878) dX6_init_207 ar_w.1 rfl (by decide) (by simp only [List.length_append, List.length_cons, List.length_nil]; omega) (ok_sc (show _ < _ by omega) ok_sn) (ok_lc (show _ < _ by omega) (ok_lo ok_ln)) hm50 (fun j => (hz _ (by omega) j)) rfl rfl ?_
  have hm51 := ok_mn (m := (q + 27)) (by omega) hm50
  refine ev_putFq dX6_init_209 fl_X6_86 rfl (fun _ => rfl) (fun _ => rfl) rfl rfl rfl (lk_l (lk_l (lk_l (lk_l (lk_l (lk_l (lk_l (lk_l (lk_l (lk_l (lk_l (lk_l (lk_l (lk_l (lk_l (lk_l (lk_l (lk_l (lk_l (lk_l (lk_l (lk_l (lk_l (lk_l (lk_l (lk_l hs)))))))))))))))))))))))))) ?_
  have hm52 := ok_up (k := q) (j := 32) hm51 (show (q + 26) < (q + 27) by omega)
  have hr52 := zq_up (z := (q + 1)) (a := q) (b := 32) (x := some (q + 26)) hr50 (by omega)
  refine ev_aload_n dX6_init_212 rfl ?_
  refine ev_bipush (v := 100) dX6_init_213 rfl ?_
  refine ev_puti dX6_init_215 fl_X6_89 rfl rfl (lk_l (lk_l (lk_l (lk_l (lk_l (lk_l (lk_l (lk_l (lk_l (lk_l (lk_l (lk_l (lk_l (lk_l (lk_l (lk_l (lk_l (lk_l (lk_l (lk_l (lk_l (lk_l (lk_l (lk_l (lk_l (lk_l hs)))))))))))))))))))))))))) ?_
  refine ev_aload_n dX6_init_218 rfl ?_
  refine ev_bipush (v := 6) dX6_init_219 rfl ?_
  refine ev_newi2 (N := 6) (q := (q + 27)) (mc1 := 10) (ms1 := 1872) dX6_init_221 ar_w.1 rfl (by decide) (by simp only [List.length_append, List.length_cons, List.length_nil]; omega) (ok_sc (show _ < _ by omega) ok_sn) (ok_lc (show _ < _ by omega) (ok_lo ok_ln)) hm52 (fun j => ((up_ne (Or.inl (by omega))).trans (hz _ (by omega) j))) rfl rfl ?_
  have hm53 := ok_mn (m := (q + 28)) (by omega) hm52
  refine ev_putFq dX6_init_223 fl_X6_93 rfl (fun _ => rfl) (fun _ => rfl) rfl rfl rfl (lk_l (lk_l (lk_l (lk_l (lk_l (lk_l (lk_l (lk_l (lk_l (lk_l (lk_l (lk_l (lk_l (lk_l (lk_l (lk_l (lk_l (lk_l (lk_l (lk_l (lk_l (lk_l (lk_l (lk_l (lk_l (lk_l (lk_l hs))))))))))))))))))))))))))) ?_
  have hm54 := ok_up (k := q) (j := 35) hm53 (show (q + 27) < (q + 28) by omega)
  have hr54 := zq_up (z := (q + 1)) (a := q) (b := 35) (x := some (q + 27)) hr52 (by omega)
  refine ev_aload_n dX6_init_226 rfl ?_
  refine ev_bipush (v := 6) dX6_init_227 rfl ?_
  refine ev_newi2 (N := 6) (q := (q + 28)) (mc1 := 9) (ms1 := 1866) dX6_init_229 ar_w.1 rfl (by decide) (by simp only [List.length_append, List.length_cons, List.length_nil]; omega) (ok_sc (show _ < _ by omega) ok_sn) (ok_lc (show _ < _ by omega) (ok_lo ok_ln)) hm54 (fun j => ((up_ne (Or.inl (by omega))).trans (hz _ (by omega) j))) rfl rfl ?_
  have hm55 := ok_mn (m := (q + 29)) (by omega) hm54
  refine ev_putFq dX6_init_231 fl_X6_96 rfl (fun _ => rfl) (fun _ => rfl) rfl rfl rfl (lk_l (lk_l (lk_l (lk_l (lk_l (lk_l (lk_l (lk_l (lk_l (lk_l (lk_l (lk_l (lk_l (lk_l (lk_l (lk_l (lk_l (lk_l (lk_l (lk_l (lk_l (lk_l (lk_l (lk_l (lk_l (lk_l (lk_l (lk_l hs)))))))))))))))))))))))))))) ?_
  have hm56 := ok_up (k := q) (j := 36) hm55 (show (q + 28) < (q + 29) by omega)
  have hr56 := zq_up (z := (q + 1)) (a := q) (b := 36) (x := some (q + 28)) hr54 (by omega)
  refine ev_aload_n dX6_init_234 rfl ?_
  refine ev_bipush (v := 6) dX6_init_235 rfl ?_
  refine ev_newi2 (N := 6) (q := (q + 29)) (mc1 := 8) (ms1 := 1860) dX6_init_237 ar_w.1 rfl (by decide) (by simp only [List.length_append, List.length_cons, List.length_nil]; omega) (ok_sc (show _ < _ by omega) ok_sn) (ok_lc (show _ < _ by omega) (ok_lo ok_ln)) hm56 (fun j => ((up_ne (Or.inl (by omega))).trans (hz _ (by omega) j))) rfl rfl ?_
  have hm57 := ok_mn (m := (q + 30)) (by omega) hm56
  refine ev_putFq dX6_init_239 fl_X6_99 rfl (fun _ => rfl) (fun _ => rfl) rfl rfl rfl (lk_l (lk_l (lk_l (lk_l (lk_l (lk_l (lk_l (lk_l (lk_l (lk_l (lk_l (lk_l (lk_l (lk_l (lk_l (lk_l (lk_l (lk_l (lk_l (lk_l (lk_l (lk_l (lk_l (lk_l (lk_l (lk_l (lk_l (lk_l (lk_l hs))))))))))))))))))))))))))))) ?_
  have hm58 := ok_up (k := q) (j := 37) hm57 (show (q + 29) < (q + 30) by omega)
  have hr58 := zq_up (z := (q + 1)) (a := q) (b := 37) (x := some (q + 29)) hr56 (by omega)
  refine ev_aload_n dX6_init_242 rfl ?_
  refine ev_sipush (v := 864) dX6_init_243 rfl ?_
  refine ev_newi2 (N := 864) (q := (q + 30)) (mc1 := 7) (ms1 := 996) dX6_init_246 ar_w.1 rfl (by decide) (by simp only [List.length_append, List.length_cons, List.length_nil]; omega) (ok_sc (show _ < _ by omega) ok_sn) (ok_lc (show _ < _ by omega) (ok_lo ok_ln)) hm58 (fun j => ((up_ne (Or.inl (by omega))).trans (hz _ (by omega) j))) rfl rfl ?_
  have hm59 := ok_mn (m := (q + 31)) (by omega) hm58
  refine ev_putFq dX6_init_248 fl_X6_102 rfl (fun _ => rfl) (fun _ => rfl) rfl rfl rfl (lk_l (lk_l (lk_l (lk_l (lk_l (lk_l (lk_l (lk_l (lk_l (lk_l (lk_l (lk_l (lk_l (lk_l (lk_l (lk_l (lk_l (lk_l (lk_l (lk_l (lk_l (lk_l (lk_l (lk_l (lk_l (lk_l (lk_l (lk_l (lk_l (lk_l hs)))))))))))))))))))))))))))))) ?_
  have hm60 := ok_up (k := q) (j := 38) hm59 (show (q + 30) < (q + 31) by omega)
  have hr60 := zq_up (z := (q + 1)) (a := q) (b := 38) (x := some (q + 30)) hr58 (by omega)
  refine ev_aload_n dX6_init_251 rfl ?_
  refine ev_bipush (v := 6) dX6_init_252 rfl ?_
  refine ev_newi2 (N := 6) (q := (q + 31)) (mc1 := 6) (ms1 := 990) dX6_init_254 ar_w.1 rfl (by decide) (by simp only [List.length_append, List.length_cons, List.length_nil]; omega) (ok_sc (show _ < _ by omega) ok_sn) (ok_lc (show _ < _ by omega) (ok_lo ok_ln)) hm60 (fun j => ((up_ne (Or.inl (by omega))).trans (hz _ (by omega) j))) rfl rfl ?_
  have hm61 := ok_mn (m := (q + 32)) (by omega) hm60
  refine ev_putFq dX6_init_256 fl_X6_105 rfl (fun _ => rfl) (fun _ => rfl) rfl rfl rfl (lk_l (lk_l (lk_l (lk_l (lk_l (lk_l (lk_l (lk_l (lk_l (lk_l (lk_l (lk_l (lk_l (lk_l (lk_l (lk_l (lk_l (lk_l (lk_l (lk_l (lk_l (lk_l (lk_l (lk_l (lk_l (lk_l (lk_l (lk_l (lk_l (lk_l (lk_l hs))))))))))))))))))))))))))))))) ?_
  have hm62 := ok_up (k := q) (j := 39) hm61 (show (q + 31) < (q + 32) by omega)
  have hr62 := zq_up (z := (q + 1)) (a := q) (b := 39) (x := some (q + 31)) hr60 (by omega)
  refine ev_aload_n dX6_init_259 rfl ?_
  refine ev_sipush (v := 864) dX6_init_260 rfl ?_
  refine ev_newi2 (N := 864) (q := (q + 32)) (mc1 := 5) (ms1 := 126) dX6_init_263 ar_w.1 rfl (by decide) (by simp only [List.length_append, List.length_cons, List.length_nil]; omega) (ok_sc (show _ < _ by omega) ok_sn) (ok_lc (show _ < _ by omega) (ok_lo ok_ln)) hm62 (fun j => ((up_ne (Or.inl (by omega))).trans (hz _ (by omega) j))) rfl rfl ?_
  have hm63 := ok_mn (m := (q + 33)) (by omega) hm62
  refine ev_putFq dX6_init_265 fl_X6_108 rfl (fun _ => rfl) (fun _ => rfl) rfl rfl rfl (lk_l (lk_l (lk_l (lk_l (lk_l (lk_l (lk_l (lk_l (lk_l (lk_l (lk_l (lk_l (lk_l (lk_l (lk_l (lk_l (lk_l (lk_l (lk_l (lk_l (lk_l (lk_l (lk_l (lk_l (lk_l (lk_l (lk_l (lk_l (lk_l (lk_l (lk_l (lk_l hs)))))))))))))))))))))))))))))))) ?_
  have hm64 := ok_up (k := q) (j := 40) hm63 (show (q + 32) < (q + 33) by omega)
  have hr64 := zq_up (z := (q + 1)) (a := q) (b := 40) (x := some (q + 32)) hr62 (by omega)
  refine ev_aload_n dX6_init_268 rfl ?_
  refine ev_bipush (v := 6) dX6_init_269 rfl ?_
  refine ev_newi2 (N := 6) (q := (q + 33)) (mc1 := 4) (ms1 := 120) dX6_init_271 ar_w.1 rfl (by decide) (by simp only [List.length_append, List.length_cons, List.length_nil]; omega) (ok_sc (show _ < _ by omega) ok_sn) (ok_lc (show _ < _ by omega) (ok_lo ok_ln)) hm64 (fun j => ((up_ne (Or.inl (by omega))).trans (hz _ (by omega) j))) rfl rfl ?_
  have hm65 := ok_mn (m := (q + 34)) (by omega) hm64
  refine ev_putFq dX6_init_273 fl_X6_111 rfl (fun _ => rfl) (fun _ => rfl) rfl rfl rfl (lk_l (lk_l (lk_l (lk_l (lk_l (lk_l (lk_l (lk_l (lk_l (lk_l (lk_l (lk_l (lk_l (lk_l (lk_l (lk_l (lk_l (lk_l (lk_l (lk_l (lk_l (lk_l (lk_l (lk_l (lk_l (lk_l (lk_l (lk_l (lk_l (lk_l (lk_l (lk_l (lk_l hs))))))))))))))))))))))))))))))))) ?_
  have hm66 := ok_up (k := q) (j := 41) hm65 (show (q + 33) < (q + 34) by omega)
  have hr66 := zq_up (z := (q + 1)) (a := q) (b := 41) (x := some (q + 33)) hr64 (by omega)
  refine ev_aload_n dX6_init_276 rfl ?_
  refine ev_bipush (v := 30) dX6_init_277 rfl ?_
  refine ev_newi2 (N := 30) (q := (q + 34)) (mc1 := 3) (ms1 := 90) dX6_init_279 ar_w.1 rfl (by decide) (by simp only [List.length_append, List.length_cons, List.length_nil]; omega) (ok_sc (show _ < _ by omega) ok_sn) (ok_lc (show _ < _ by omega) (ok_lo ok_ln)) hm66 (fun j => ((up_ne (Or.inl (by omega))).trans (hz _ (by omega) j))) rfl rfl ?_
  have hm67 := ok_mn (m := (q + 35)) (by omega) hm66
  refine ev_putFq dX6_init_281 fl_X6_114 rfl (fun _ => rfl) (fun _ => rfl) rfl rfl rfl (lk_l (lk_l (lk_l (lk_l (lk_l (lk_l (lk_l (lk_l (lk_l (lk_l (lk_l (lk_l (lk_l (lk_l (lk_l (lk_l (lk_l (lk_l (lk_l (lk_l (lk_l (lk_l (lk_l (lk_l (lk_l (lk_l (lk_l (lk_l (lk_l (lk_l (lk_l (lk_l (lk_l (lk_l hs)))))))))))))))))))))))))))))))))) ?_
  have hm68 := ok_up (k := q) (j := 43) hm67 (show (q + 34) < (q + 35) by omega)
  have hr68 := zq_up (z := (q + 1)) (a := q) (b := 43) (x := some (q + 34)) hr66 (by omega)
  refine ev_aload_n dX6_init_284 rfl ?_
  refine ev_bipush (v := 30) dX6_init_285 rfl ?_
  refine ev_newi2 (N := 30) (q := (q + 35)) (mc1 := 2) (ms1 := 60) dX6_init_287 ar_w.1 rfl (by decide) (by simp only [List.length_append, List.length_cons, List.length_nil]; omega) (ok_sc (show _ < _ by omega) ok_sn) (ok_lc (show _ < _ by omega) (ok_lo ok_ln)) hm68 (fun j => ((up_ne (Or.inl (by omega))).trans (hz _ (by omega) j))) rfl rfl ?_
  have hm69 := ok_mn (m := (q + 36)) (by omega) hm68
  refine ev_putFq dX6_init_289 fl_X6_117 rfl (fun _ => rfl) (fun _ => rfl) rfl rfl rfl (lk_l (lk_l (lk_l (lk_l (lk_l (lk_l (lk_l (lk_l (lk_l (lk_l (lk_l (lk_l (lk_l (lk_l (lk_l (lk_l (lk_l (lk_l (lk_l (lk_l (lk_l (lk_l (lk_l (lk_l (lk_l (lk_l (lk_l (lk_l (lk_l (lk_l (lk_l (lk_l (lk_l (lk_l (lk_l hs))))))))))))))))))))))))))))))))))) ?_
  have hm70 := ok_up (k := q) (j := 44) hm69 (show (q + 35) < (q + 36) by omega)
  have hr70 := zq_up (z := (q + 1)) (a := q) (b := 44) (x := some (q + 35)) hr68 (by omega)
  refine ev_aload_n dX6_init_292 rfl ?_
  refine ev_bipush (v := 30) dX6_init_293 rfl ?_
  refine ev_newi2 (N := 30) (q := (q + 36)) (mc1 := 1) (ms1 := 30) dX6_init_295 ar_w.1 rfl (by decide) (by simp only [List.length_append, List.length_cons, List.length_nil]; omega) (ok_sc (show _ < _ by omega) ok_sn) (ok_lc (show _ < _ by omega) (ok_lo ok_ln)) hm70 (fun j => ((up_ne (Or.inl (by omega))).trans (hz _ (by omega) j))) rfl rfl ?_
  have hm71 := ok_mn (m := (q + 37)) (by omega) hm70
  refine ev_putFq dX6_init_297 fl_X6_120 rfl (fun _ => rfl) (fun _ => rfl) rfl rfl rfl (lk_l (lk_l (lk_l (lk_l (lk_l (lk_l (lk_l (lk_l (lk_l (lk_l (lk_l (lk_l (lk_l (lk_l (lk_l (lk_l (lk_l (lk_l (lk_l (lk_l (lk_l (lk_l (lk_l (lk_l (lk_l (lk_l (lk_l (lk_l (lk_l (lk_l (lk_l (lk_l (lk_l (lk_l (lk_l (lk_l hs)))))))))))))))))))))))))))))))))))) ?_
  have hm72 := ok_up (k := q) (j := 45) hm71 (show (q + 36) < (q + 37) by omega)
  have hr72 := zq_up (z := (q + 1)) (a := q) (b := 45) (x := some (q + 36)) hr70 (by omega)
  refine ev_aload_n dX6_init_300 rfl ?_
  refine ev_bipush (v := 30) dX6_init_301 rfl ?_
  refine ev_newi2 (N := 30) (q := (q + 37)) (mc1 := 0) (ms1 := 0) dX6_init_303 ar_w.1 rfl (by decide) (by simp only [List.length_append, List.length_cons, List.length_nil]; omega) (ok_sc (show _ < _ by omega) ok_sn) (ok_lc (show _ < _ by omega) (ok_lo ok_ln)) hm72 (fun j => ((up_ne (Or.inl (by omega))).trans (hz _ (by omega) j))) rfl rfl ?_
  have hm73 := ok_mn (m := (q + 38)) (by omega) hm72
  refine ev_putFq dX6_init_305 fl_X6_123 rfl (fun _ => rfl) (fun _ => rfl) rfl rfl rfl (lk_l (lk_l (lk_l (lk_l (lk_l (lk_l (lk_l (lk_l (lk_l (lk_l (lk_l (lk_l (lk_l (lk_l (lk_l (lk_l (lk_l (lk_l (lk_l (lk_l (lk_l (lk_l (lk_l (lk_l (lk_l (lk_l (lk_l (lk_l (lk_l (lk_l (lk_l (lk_l (lk_l (lk_l (lk_l (lk_l (lk_l hs))))))))))))))))))))))))))))))))))))) ?_
  have hm74 := ok_up (k := q) (j := 46) hm73 (show (q + 37) < (q + 38) by omega)
  have hr74 := zq_up (z := (q + 1)) (a := q) (b := 46) (x := some (q + 37)) hr72 (by omega)
  refine ev_aload_n dX6_init_308 rfl ?_
  refine ev_getq dX6_init_309 fl_X6_71 rfl (lk_l (lk_l (lk_l (lk_l (lk_l (lk_l (lk_l (lk_l (lk_l (lk_l (lk_l (lk_l (lk_l (lk_l (lk_l (lk_l (lk_l (lk_l (lk_l (lk_l (lk_l (lk_l (lk_l (lk_l (lk_l (lk_l (lk_l (lk_l (lk_l (lk_l (lk_l (lk_l (lk_l (lk_l (lk_l (lk_l (lk_l hs))))))))))))))))))))))))))))))))))))) (by simp [up_2]) ?_
  refine ev_iconst (v := 0) dX6_init_312 rfl ?_
  refine ev_iconst (v := 3) dX6_init_313 rfl ?_
  refine ev_iast dX6_init_314 (lk_l (lk_l (lk_l (lk_l (lk_l (lk_l (lk_l (lk_l (lk_l (lk_l (lk_l (lk_l (lk_l (lk_l (lk_l (lk_l (lk_n (by simp only [List.length_append, List.length_cons, List.length_nil]; omega)))))))))))))))))) (j := 0) rfl (by decide) (by decide) ?_
  refine ev_iconst (v := 1) dX6_init_315 rfl ?_
  refine ev_istore_n dX6_init_316 (by decide) ?_
  have q1 := lp_X6_init (mi := (up_2 (up_2 mi q 33 100) (q + 21) 0 3)) (lk_l (lk_l (lk_l (lk_l (lk_l (lk_l (lk_l (lk_l (lk_l (lk_l (lk_l (lk_l (lk_l (lk_l (lk_l (lk_l (lk_l (lk_l (lk_l (lk_l (lk_l (lk_l (lk_l (lk_l (lk_l (lk_l (lk_l (lk_l (lk_l (lk_l (lk_l (lk_l (lk_l (lk_l (lk_l (lk_l (lk_l hs))))))))))))))))))))))))))))))))))))) (by simp [up_2]) (lk_l (lk_l (lk_l (lk_l (lk_l (lk_l (lk_l (lk_l (lk_l (lk_l (lk_l (lk_l (lk_l (lk_l (lk_l (lk_l (lk_n (by simp only [List.length_append, List.length_cons, List.length_nil]; omega)))))))))))))))))) 0 (by decide)
  rw [fl_0] at q1
  exact q1
set_option maxRecDepth 100000 in
set_option maxHeartbeats 4000000 in
theorem t_X5_init : EV none 2 28 833 mX5_init 0 (en_l mX5_init [pv_r 0]) [] [.inl 5] (fun _ _ => 0) (fun _ _ => none) (fun v_ sh_ mi_ mr_ => v_ = none ∧ sh_ = (((((((((((((((((((((((((((([.inl 5] ++ [.inr (2, 10)]) ++ [.inl 2]) ++ [.inr (0, 7)]) ++ [.inr (0, 7)]) ++ [.inr (0, 35)]) ++ [.inr (0, 7)]) ++ [.inr (0, 7)]) ++ [.inr (0, 7)]) ++ [.inr (0, 7)]) ++ [.inr (0, 7)]) ++ [.inr (0, 40)]) ++ [.inl 4]) ++ [.inr (0, 27)]) ++ [.inr (0, 27)]) ++ [.inr (0, 6)]) ++ [.inr (0, 40)]) ++ [.inr (0, 27)]) ++ [.inr (0, 20)]) ++ [.inr (0, 147)]) ++ [.inr (0, 147)]) ++ [.inr (3, 6)]) ++ [.inl 1]) ++ [.inr (0, 30)]) ++ [.inr (0, 30)]) ++ [.inr (0, 30)]) ++ [.inr (0, 30)]) ++ [.inr (0, 50)]) ++ [.inr (0, 50)]) ∧ mi_ = (fl_r (up_2 (up_2 (fun _ _ => 0) 12 5 100) 13 0 3) 13 1 26 5) ∧ mr_ = (up_2 (up_2 (up_2 (up_2 (up_2 (up_2 (up_2 (up_2 (up_2 (up_2 (up_2 (up_2 (up_2 (up_2 (up_2 (up_2 (up_2 (up_2 (up_2 (up_2 (up_2 (up_2 (up_2 (up_2 (up_2 (up_2 (up_2 (up_2 (fun _ _ => none) 0 0 (some 1)) 2 0 (some 3)) 2 1 (some 4)) 2 2 (some 5)) 2 3 (some 6)) 2 4 (some 7)) 2 5 (some 8)) 2 6 (some 9)) 2 7 (some 10)) 2 8 (some 11)) 0 1 (some 2)) 12 0 (some 13)) 12 1 (some 14)) 12 2 (some 15)) 12 6 (some 16)) 12 7 (some 17)) 12 8 (some 18)) 12 9 (some 19)) 12 10 (some 20)) 0 2 (some 12)) 0 3 (some 21)) 22 2 (some 23)) 22 3 (some 24)) 22 4 (some 25)) 22 5 (some 26)) 22 6 (some 27)) 22 7 (some 28)) 0 4 (some 22))) := by
  show EV none 2 28 833 mX5_init 0 [some (pv_r 0)] [] [.inl 5] (fun _ _ => 0) (fun _ _ => none) _
  have hz : ∀ k, 0 ≤ k → ∀ j, (fun _ _ => 0 : MI) k j = 0 := fun _ _ _ => rfl
  have hzr : ∀ k, 1 ≤ k → ∀ j, (fun _ _ => none : MR) k j = none := fun _ _ _ => rfl
  have hm : ok_m 1 (fun _ _ => none) := fun k j r e => by cases e
  refine ev_aload_n dX5_init_0 rfl ?_
  refine ev_objInit dX5_init_1 oi_X5_3 oi_w.1 oi_w.2 (by decide) (Nat.le_of_ble_eq_true rfl) ?_
  refine ev_aload_n dX5_init_4 rfl ?_
  refine ev_bipush (v := 10) dX5_init_5 rfl ?_
  refine ev_newq2 (N := 10) (t := 0) (q := 1) (mc1 := 27) (ms1 := 823) dX5_init_7 nq_X5_9 (Or.inl ⟨rfl, rfl⟩) rfl (by decide) rfl (ok_sc (show _ < _ by omega) ok_sn) (ok_lc (show _ < _ by omega) ok_ln) hm (fun j => hzr _ (by omega) j) rfl rfl ?_
  have hm1 := ok_mn (m := 2) (by omega) hm
  refine ev_putFq dX5_init_10 fl_X5_11 rfl (fun _ => rfl) (fun _ => rfl) rfl rfl rfl rfl ?_
  have hm2 := ok_up (k := 0) (j := 0) hm1 (show 1 < 2 by omega)
  have hr2 := zq_up (z := 1) (a := 0) (b := 0) (x := some 1) hzr (by omega)
  refine ev_aload_n dX5_init_13 rfl ?_
  refine ev_new2 (ci := 2) (q := 2) (mc1 := 26) (ms1 := 811) dX5_init_14 (by decide) nw_X5_15 ins_2.1 ins_2.2 rfl (ok_sc (show _ < _ by omega) ok_sn) (ok_lc (show _ < _ by omega) ok_ln) hm2 (fun j => (hz _ (by omega) j)) (fun j => hr2 _ (by omega) j) rfl rfl dv_2 ?_
  have hm3 := ok_mn (m := 3) (by omega) hm2
  refine ev_dup dX5_init_17 ?_
  refine ev_calli (k := 2) (av := []) (d1 := 1) (mc1 := 9) (ms1 := 124) (mc2 := 17) (ms2 := 687) dX5_init_18 ci_X5_17 rfl rfl (Nat.le_of_ble_eq_true rfl) (by decide) (Or.inr ⟨(ok_sc (show _ < _ by omega) (ok_sc (show _ < _ by omega) ok_sn)), (ok_lc (show _ < _ by omega) ok_ln)⟩) rfl rfl (t_X2_init (q := 2) rfl rfl hm3 (fun k hk j => (hz k (by omega) j)) (fun k hk j => hr2 k (by omega) j)) ?_
  rintro v_ sh_ mi_ mr_ ⟨e1_, e2_, e3_, e4_⟩
  subst e1_
  subst e2_
  subst e3_
  subst e4_
  have hm4 := (ok_up (k := 2) (j := 8) (ok_up (k := 2) (j := 7) (ok_up (k := 2) (j := 6) (ok_up (k := 2) (j := 5) (ok_up (k := 2) (j := 4) (ok_up (k := 2) (j := 3) (ok_up (k := 2) (j := 2) (ok_up (k := 2) (j := 1) (ok_up (k := 2) (j := 0) (ok_mn (m := 12) (by decide) hm3) (show 3 < 12 by decide)) (show 4 < 12 by decide)) (show 5 < 12 by decide)) (show 6 < 12 by decide)) (show 7 < 12 by decide)) (show 8 < 12 by decide)) (show 9 < 12 by decide)) (show 10 < 12 by decide)) (show 11 < 12 by decide))
  have hr4 := (zq_up (z := 12) (a := 2) (b := 8) (x := some 11) (zq_up (z := 12) (a := 2) (b := 7) (x := some 10) (zq_up (z := 12) (a := 2) (b := 6) (x := some 9) (zq_up (z := 12) (a := 2) (b := 5) (x := some 8) (zq_up (z := 12) (a := 2) (b := 4) (x := some 7) (zq_up (z := 12) (a := 2) (b := 3) (x := some 6) (zq_up (z := 12) (a := 2) (b := 2) (x := some 5) (zq_up (z := 12) (a := 2) (b := 1) (x := some 4) (zq_up (z := 12) (a := 2) (b := 0) (x := some 3) (fun k hk => hr2 k (by omega) : ∀ k, 12 ≤ k → ∀ j, _ = none) (by decide)) (by decide)) (by decide)) (by decide)) (by decide)) (by decide)) (by decide)) (by decide)) (by decide))
  refine ev_putFq dX5_init_21 fl_X5_18 rfl (fun _ => rfl) (fun _ => rfl) rfl rfl rfl rfl ?_
  have hm5 := ok_up (k := 0) (j := 1) hm4 (show 2 < 12 by omega)
  have hr5 := zq_up (z := 1) (a := 0) (b := 1) (x := some 2) hr4 (by omega)
  refine ev_aload_n dX5_init_24 rfl ?_
  refine ev_new2 (ci := 4) (q := 12) (mc1 := 16) (ms1 := 675) dX5_init_25 (by decide) nw_X5_22 ins_4.1 ins_4.2 rfl (ok_sc (show _ < _ by omega) ok_sn) (ok_lc (show _ < _ by omega) ok_ln) hm5 (fun j => (hz _ (by omega) j)) (fun j => hr5 _ (by omega) j) rfl rfl dv_4 ?_
  have hm6 := ok_mn (m := 13) (by omega) hm5
  refine ev_dup dX5_init_28 ?_
  refine ev_calli (k := 12) (av := []) (d1 := 1) (mc1 := 8) (ms1 := 441) (mc2 := 8) (ms2 := 234) dX5_init_29 ci_X5_24 rfl rfl (Nat.le_of_ble_eq_true rfl) (by decide) (Or.inr ⟨(ok_sc (show _ < _ by omega) (ok_sc (show _ < _ by omega) ok_sn)), (ok_lc (show _ < _ by omega) ok_ln)⟩) rfl rfl (t_X4_init (q := 12) rfl rfl hm6 (fun k hk j => (hz k (by omega) j)) (fun k hk j => hr5 k (by omega) j)) ?_
  rintro v_ sh_ mi_ mr_ ⟨e1_, e2_, e3_, e4_⟩
  subst e1_
  subst e2_
  subst e3_
  subst e4_
  have hm7 := (ok_up (k := 12) (j := 10) (ok_up (k := 12) (j := 9) (ok_up (k := 12) (j := 8) (ok_up (k := 12) (j := 7) (ok_up (k := 12) (j := 6) (ok_up (k := 12) (j := 2) (ok_up (k := 12) (j := 1) (ok_up (k := 12) (j := 0) (ok_mn (m := 21) (by decide) hm6) (show 13 < 21 by decide)) (show 14 < 21 by decide)) (show 15 < 21 by decide)) (show 16 < 21 by decide)) (show 17 < 21 by decide)) (show 18 < 21 by decide)) (show 19 < 21 by decide)) (show 20 < 21 by decide))
  have hr7 := (zq_up (z := 21) (a := 12) (b := 10) (x := some 20) (zq_up (z := 21) (a := 12) (b := 9) (x := some 19) (zq_up (z := 21) (a := 12) (b := 8) (x := some 18) (zq_up (z := 21) (a := 12) (b := 7) (x := some 17) (zq_up (z := 21) (a := 12) (b := 6) (x := some 16) (zq_up (z := 21) (a := 12) (b := 2) (x := some 15) (zq_up (z := 21) (a := 12) (b := 1) (x := some 14) (zq_up (z := 21) (a := 12) (b := 0) (x := some 13) (fun k hk => hr5 k (by omega) : ∀ k, 21 ≤ k → ∀ j, _ = none) (by decide)) (by decide)) (by decide)) (by decide)) (by decide)) (by decide)) (by decide)) (by decide))
  refine ev_putFq dX5_init_32 fl_X5_25 rfl (fun _ => rfl) (fun _ => rfl) rfl rfl rfl rfl ?_
  have hm8 := ok_up (k := 0) (j := 2) hm7 (show 12 < 21 by omega)
  have hr8 := zq_up (z := 1) (a := 0) (b := 2) (x := some 12) hr7 (by omega)
  refine ev_aload_n dX5_init_35 rfl ?_
  refine ev_bipush (v := 6) dX5_init_36 rfl ?_
  refine ev_newq2 (N := 6) (t := 1) (q := 21) (mc1 := 7) (ms1 := 228) dX5_init_38 nq_X5_29 (Or.inr ⟨rfl, rfl⟩) rfl (by decide) rfl (ok_sc (show _ < _ by omega) ok_sn) (ok_lc (show _ < _ by omega) ok_ln) hm8 (fun j => hr8 _ (by omega) j) rfl rfl ?_
  have hm9 := ok_mn (m := 22) (by omega) hm8
  refine ev_putFq dX5_init_41 fl_X5_31 rfl (fun _ => rfl) (fun _ => rfl) rfl rfl rfl rfl ?_
  have hm10 := ok_up (k := 0) (j := 3) hm9 (show 21 < 22 by omega)
  have hr10 := zq_up (z := 1) (a := 0) (b := 3) (x := some 21) hr8 (by omega)
  refine ev_aload_n dX5_init_44 rfl ?_
  refine ev_new2 (ci := 1) (q := 22) (mc1 := 6) (ms1 := 220) dX5_init_45 (by decide) nw_X5_35 ins_1.1 ins_1.2 rfl (ok_sc (show _ < _ by omega) ok_sn) (ok_lc (show _ < _ by omega) ok_ln) hm10 (fun j => ((fl_ne (by omega)).trans ((up_ne (Or.inl (by omega))).trans (hz _ (by omega) j)))) (fun j => hr10 _ (by omega) j) rfl rfl dv_1 ?_
  have hm11 := ok_mn (m := 23) (by omega) hm10
  refine ev_dup dX5_init_48 ?_
  refine ev_calli (k := 22) (av := []) (d1 := 1) (mc1 := 6) (ms1 := 220) (mc2 := 0) (ms2 := 0) dX5_init_49 ci_X5_37 rfl rfl (Nat.le_of_ble_eq_true rfl) (by decide) (Or.inr ⟨(ok_sc (show _ < _ by omega) (ok_sc (show _ < _ by omega) ok_sn)), (ok_lc (show _ < _ by omega) ok_ln)⟩) rfl rfl (t_X1_init (q := 22) rfl rfl hm11 (fun k hk j => ((fl_ne (by omega)).trans ((up_ne (Or.inl (by omega))).trans (hz k (by omega) j)))) (fun k hk j => hr10 k (by omega) j)) ?_
  rintro v_ sh_ mi_ mr_ ⟨e1_, e2_, e3_, e4_⟩
  subst e1_
  subst e2_
  subst e3_
  subst e4_
  have hm12 := (ok_up (k := 22) (j := 7) (ok_up (k := 22) (j := 6) (ok_up (k := 22) (j := 5) (ok_up (k := 22) (j := 4) (ok_up (k := 22) (j := 3) (ok_up (k := 22) (j := 2) (ok_mn (m := 29) (by decide) hm11) (show 23 < 29 by decide)) (show 24 < 29 by decide)) (show 25 < 29 by decide)) (show 26 < 29 by decide)) (show 27 < 29 by decide)) (show 28 < 29 by decide))
  have hr12 := (zq_up (z := 29) (a := 22) (b := 7) (x := some 28) (zq_up (z := 29) (a := 22) (b := 6) (x := some 27) (zq_up (z := 29) (a := 22) (b := 5) (x := some 26) (zq_up (z := 29) (a := 22) (b := 4) (x := some 25) (zq_up (z := 29) (a := 22) (b := 3) (x := some 24) (zq_up (z := 29) (a := 22) (b := 2) (x := some 23) (fun k hk => hr10 k (by omega) : ∀ k, 29 ≤ k → ∀ j, _ = none) (by decide)) (by decide)) (by decide)) (by decide)) (by decide)) (by decide))
  refine ev_putFq dX5_init_52 fl_X5_38 rfl (fun _ => rfl) (fun _ => rfl) rfl rfl rfl rfl ?_
  have hm13 := ok_up (k := 0) (j := 4) hm12 (show 22 < 29 by omega)
  have hr13 := zq_up (z := 1) (a := 0) (b := 4) (x := some 22) hr12 (by omega)
  refine ev_aload_n dX5_init_55 rfl ?_
  refine ev_iconst (v := 0) dX5_init_56 rfl ?_
  refine ev_puti dX5_init_57 fl_X5_42 rfl rfl rfl ?_
  rw [up_id (show _ = (0 : Int32) from ((fl_ne (by omega)).trans ((up_ne (Or.inl (by omega))).trans (hz _ (by omega) _))))]
  refine ev_aload_n dX5_init_60 rfl ?_
  refine ev_iconst (v := 0) dX5_init_61 rfl ?_
  refine ev_puti dX5_init_62 fl_X5_46 rfl rfl rfl ?_
  rw [up_id (show _ = (0 : Int32) from ((fl_ne (by omega)).trans ((up_ne (Or.inl (by omega))).trans (hz _ (by omega) _))))]
  refine ev_aload_n dX5_init_65 rfl ?_
  refine ev_iconst (v := 0) dX5_init_66 rfl ?_
  refine ev_puti dX5_init_67 fl_X5_49 rfl rfl rfl ?_
  rw [up_id (show _ = (0 : Int32) from ((fl_ne (by omega)).trans ((up_ne (Or.inl (by omega))).trans (hz _ (by omega) _))))]
  exact ev_return dX5_init_70 rfl ⟨rfl, rfl, rfl, rfl⟩
