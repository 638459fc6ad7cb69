set_option maxRecDepth 100000 in
set_option maxHeartbeats 4000000 in
theorem t_X5_book_f {sh : SH} {mi : MI} {mr : MR} (hB : ba_c sh mr) (hv : ¬ (mi 0 5) < 10) : EV none 2 0 0 mX5_book 0 (en_l mX5_book [pv_r 0]) [] sh mi mr (ok_r sh mr (-6) mi) := by
  show EV none 2 0 0 mX5_book 0 [some (pv_r 0)] [] sh mi mr _
  refine ev_aload_n dX5_book_0 rfl ?_
  refine ev_geti dX5_book_1 fl_X5_42 rfl (hB.1 0 _ rfl) ?_
  refine ev_bipush (v := 10) dX5_book_4 rfl ?_
  refine ev_icmp_lt_f (tgt := 12) dX5_book_6 rfl hv ?_
  refine ev_bipush (v := (-6)) dX5_book_9 rfl ?_
  exact ev_ireturn (ty := .int) dX5_book_11 rfl rfl ⟨rfl, rfl, rfl, rfl⟩
set_option maxRecDepth 100000 in
set_option maxHeartbeats 4000000 in
theorem t_X5_book_k {sh : SH} {mi : MI} {mr : MR} (hB : ba_c sh mr) {n : Nat} (hS : st_c sh mi mr n) (hn67 : 67 ≤ n) (nb : Nat) (hnb : mi 0 5 = nI nb) (hnb10 : nb < 10) : EV none 2 6 38 mX5_book 0 (en_l mX5_book [pv_r 0]) [] sh mi mr (fun v_ sh_ mi_ mr_ => v_ = some (pv_i (nI nb)) ∧ sh_ = (((((sh ++ [.inl 0]) ++ [.inr (0, 6)]) ++ [.inr (0, 6)]) ++ [.inr (0, 5)]) ++ [.inr (0, 5)]) ++ [.inr (0, 5)] ∧ mi_ = up_2 (fl_r (up_2 mi n 9 2000) (n + 5) 0 5 1) 0 5 (nI (nb + 1)) ∧ mr_ = up_2 (up_2 (up_2 (up_2 (up_2 (up_2 mr n 0 (some (n + 1))) n 1 (some (n + 2))) n 2 (some (n + 3))) n 3 (some (n + 4))) n 4 (some (n + 5))) 1 nb (some n)) := by
  show EV none 2 6 38 mX5_book 0 [some (pv_r 0)] [] sh mi mr _
  refine ev_aload_n dX5_book_0 rfl ?_
  refine ev_geti dX5_book_1 fl_X5_42 rfl (hB.1 0 _ rfl) ?_
  refine ev_bipush (v := 10) dX5_book_4 rfl ?_
  refine ev_icmp_lt_t (tgt := 12) dX5_book_6 rfl (by rw [hnb]; exact nI_lt (b := 10) hnb10 (by decide)) ?_
  refine ev_aload_n dX5_book_12 rfl ?_
  refine ev_getq dX5_book_13 fl_X5_11 rfl (hB.1 0 _ rfl) (hB.2 0 0 _ rfl) ?_
  refine ev_aload_n dX5_book_16 rfl ?_
  refine ev_geti dX5_book_17 fl_X5_42 rfl (hB.1 0 _ rfl) ?_
  refine ev_new2 (ci := 0) (q := n) (mc1 := 5) (ms1 := 27) dX5_book_20 (by decide) nw_X5_9 ins_0.1 ins_0.2 hS.1 (ok_sc trivial (ok_sc (show 1 < n by omega) ok_sn)) (ok_lc (show 0 < n by omega) ok_ln) hS.2.1 (fun j => (hS.2.2 n (Nat.le_refl n) j).1) (fun j => (hS.2.2 n (Nat.le_refl n) j).2) rfl rfl dv_0 ?_
  refine ev_dup dX5_book_23 ?_
  refine ev_calli (k := n) (av := []) (d1 := 1) (mc1 := 5) (ms1 := 27) (mc2 := 0) (ms2 := 0) dX5_book_24 ci_X5_52 rfl rfl (Nat.le_of_ble_eq_true rfl) (by decide) (Or.inr ⟨ok_sc (show n < _ by rw [ln_s hS.1 rfl]; omega) (ok_sc trivial (ok_sc (show 1 < _ by rw [ln_s hS.1 rfl]; omega) ok_sn)), ok_lc (show 0 < _ by rw [ln_s hS.1 rfl]; omega) ok_ln⟩) rfl rfl (t_X0_init (q := n) (lk_n hS.1) (ln_s hS.1 rfl) (ok_mn (Nat.le_succ n) hS.2.1) (fun k hk j => (hS.2.2 k hk j).1) (fun k hk j => (hS.2.2 k (by omega) j).2)) ?_
  rintro v_ sh_ mi_ mr_ ⟨e1_, e2_, e3_, e4_⟩
  subst e1_
  subst e2_
  subst e3_
  subst e4_
  refine ev_aast (ci := 0) (t := 0) (n := 10) (j := nb) dX5_book_27 (lk_l (lk_l (lk_l (lk_l (lk_l (lk_l (hB.1 1 _ rfl))))))) (by decide) (lk_l (lk_l (lk_l (lk_l (lk_l (lk_n hS.1)))))) (by decide) rfl hnb hnb10 (by decide) ?_
  have hv : (fl_r (up_2 mi n 9 2000) (n + 5) 0 5 1) 0 5 = nI nb := (fl_ne (by omega)).trans ((up_ne (Or.inl (by omega))).trans hnb)
  refine ev_aload_n dX5_book_28 rfl ?_
  refine ev_dup dX5_book_29 ?_
  refine ev_geti dX5_book_30 fl_X5_42 rfl (lk_l (lk_l (lk_l (lk_l (lk_l (lk_l (hB.1 0 _ rfl))))))) ?_
  rw [hv]
  refine ev_iconst (v := 1) dX5_book_33 rfl ?_
  refine ev_iadd dX5_book_34 ?_
  rw [nI_1]
  refine ev_puti dX5_book_35 fl_X5_42 rfl rfl (lk_l (lk_l (lk_l (lk_l (lk_l (lk_l (hB.1 0 _ rfl))))))) ?_
  refine ev_aload_n dX5_book_38 rfl ?_
  refine ev_geti dX5_book_39 fl_X5_42 rfl (lk_l (lk_l (lk_l (lk_l (lk_l (lk_l (hB.1 0 _ rfl))))))) ?_
  rw [up_at]
  refine ev_iconst (v := 1) dX5_book_42 rfl ?_
  refine ev_isub dX5_book_43 ?_
  rw [nI_pred]
  exact ev_ireturn (ty := .int) dX5_book_44 rfl rfl ⟨rfl, rfl, rfl, rfl⟩
set_option maxRecDepth 100000 in
set_option maxHeartbeats 4000000 in
theorem t_X5_skin_o {sh : SH} {mi : MI} {mr : MR} (hB : ba_c sh mr) (p1 p2 p3 : Int32) (hv : ¬ (((1 ≤ p1 ∧ p1 ≤ 12) ∧ 1 ≤ p2 ∧ p2 ≤ 12) ∧ 0 ≤ p3 ∧ p3 ≤ 9)) : EV none 2 0 0 mX5_skin 0 (en_l mX5_skin [pv_r 0, pv_i p1, pv_i p2, pv_i p3]) [] sh mi mr (ok_r sh mr (-3) mi) := by
  show EV none 2 0 0 mX5_skin 0 [some (pv_r 0), some (pv_i p1), some (pv_i p2), some (pv_i p3)] [] sh mi mr _
  refine ev_iload_n dX5_skin_0 rfl ?_
  refine ev_iload_n dX5_skin_1 rfl ?_
  refine ev_s2i dX5_skin_2 cs_X5_192 (Nat.le_of_ble_eq_true rfl) (by decide) (t_X5_isSize _ _) ?_
  refine ev_ifb_eq (tgt := 18) dX5_skin_5 rfl (fun h5 => ?_) (fun h5 => ?_)
  · refine ev_bipush (v := (-3)) dX5_skin_18 rfl ?_
    exact ev_ireturn (ty := .int) dX5_skin_20 rfl rfl ⟨rfl, rfl, rfl, rfl⟩
  · refine ev_iload_n dX5_skin_8 rfl ?_
    refine ev_iconst (v := 0) dX5_skin_9 rfl ?_
    refine ev_bipush (v := 9) dX5_skin_10 rfl ?_
    refine ev_s3i dX5_skin_12 cs_X5_57 (Nat.le_of_ble_eq_true rfl) (by decide) (t_X5_within _ _ _) ?_
    refine ev_if_ne_f (tgt := 21) dX5_skin_15 rfl (bi_f (fun e => hv ⟨h5, e⟩)) ?_
    refine ev_bipush (v := (-3)) dX5_skin_18 rfl ?_
    exact ev_ireturn (ty := .int) dX5_skin_20 rfl rfl ⟨rfl, rfl, rfl, rfl⟩
set_option maxRecDepth 100000 in
set_option maxHeartbeats 4000000 in
theorem t_X5_skin_f {sh : SH} {mi : MI} {mr : MR} (hB : ba_c sh mr) (p1 p2 p3 : Int32) (hv : ((1 ≤ p1 ∧ p1 ≤ 12) ∧ 1 ≤ p2 ∧ p2 ≤ 12) ∧ 0 ≤ p3 ∧ p3 ≤ 9) (hf : ¬ (mi 0 6) < 6) : EV none 2 0 0 mX5_skin 0 (en_l mX5_skin [pv_r 0, pv_i p1, pv_i p2, pv_i p3]) [] sh mi mr (ok_r sh mr (-6) mi) := by
  show EV none 2 0 0 mX5_skin 0 [some (pv_r 0), some (pv_i p1), some (pv_i p2), some (pv_i p3)] [] sh mi mr _
  refine ev_iload_n dX5_skin_0 rfl ?_
  refine ev_iload_n dX5_skin_1 rfl ?_
  refine ev_s2i dX5_skin_2 cs_X5_192 (Nat.le_of_ble_eq_true rfl) (by decide) (t_X5_isSize _ _) ?_
  refine ev_if_eq_f (tgt := 18) dX5_skin_5 rfl (by rw [bi_1 hv.1]; decide) ?_
  refine ev_iload_n dX5_skin_8 rfl ?_
  refine ev_iconst (v := 0) dX5_skin_9 rfl ?_
  refine ev_bipush (v := 9) dX5_skin_10 rfl ?_
  refine ev_s3i dX5_skin_12 cs_X5_57 (Nat.le_of_ble_eq_true rfl) (by decide) (t_X5_within _ _ _) ?_
  refine ev_if_ne_t (tgt := 21) dX5_skin_15 rfl (by rw [bi_1 hv.2]; decide) ?_
  refine ev_aload_n dX5_skin_21 rfl ?_
  refine ev_geti dX5_skin_22 fl_X5_46 rfl (hB.1 0 _ rfl) ?_
  refine ev_bipush (v := 6) dX5_skin_25 rfl ?_
  refine ev_icmp_lt_f (tgt := 33) dX5_skin_27 rfl hf ?_
  refine ev_bipush (v := (-6)) dX5_skin_30 rfl ?_
  exact ev_ireturn (ty := .int) dX5_skin_32 rfl rfl ⟨rfl, rfl, rfl, rfl⟩
set_option maxRecDepth 100000 in
set_option maxHeartbeats 4000000 in
theorem t_X5_skin_k {sh : SH} {mi : MI} {mr : MR} (hB : ba_c sh mr) {n : Nat} (hS : st_c sh mi mr n) (hn67 : 67 ≤ n) (ns : Nat) (hns : mi 0 6 = nI ns) (hns6 : ns < 6) (W H : Nat) (hW1 : 1 ≤ W) (hH1 : 1 ≤ H) (hW : W ≤ 12) (hH : H ≤ 12) (p3 : Int32) (hp3 : 0 ≤ p3 ∧ p3 ≤ 9) : EV none 2 2 150 mX5_skin 0 (en_l mX5_skin [pv_r 0, pv_i (nI W), pv_i (nI H), pv_i p3]) [] sh mi mr (fun v_ sh_ mi_ mr_ => v_ = some (pv_i (nI ns)) ∧ sh_ = (sh ++ [.inl 3]) ++ [.inr (0, W * H)] ∧ mi_ = up_2 (up_2 (up_2 (up_2 mi n 1 (nI W)) n 2 (nI H)) n 0 p3) 0 6 (nI (ns + 1)) ∧ mr_ = up_2 (up_2 mr n 3 (some (n + 1))) 21 ns (some n)) := by
  show EV none 2 2 150 mX5_skin 0 [some (pv_r 0), some (pv_i (nI W)), some (pv_i (nI H)), some (pv_i p3)] [] sh mi mr _
  refine ev_iload_n dX5_skin_0 rfl ?_
  refine ev_iload_n dX5_skin_1 rfl ?_
  refine ev_s2i dX5_skin_2 cs_X5_192 (Nat.le_of_ble_eq_true rfl) (by decide) (t_X5_isSize _ _) ?_
  refine ev_if_eq_f (tgt := 18) dX5_skin_5 rfl (by rw [bi_1 ⟨⟨nI_le (a := 1) hW1 (by omega), nI_le (b := 12) hW (by decide)⟩, nI_le (a := 1) hH1 (by omega), nI_le (b := 12) hH (by decide)⟩]; decide) ?_
  refine ev_iload_n dX5_skin_8 rfl ?_
  refine ev_iconst (v := 0) dX5_skin_9 rfl ?_
  refine ev_bipush (v := 9) dX5_skin_10 rfl ?_
  refine ev_s3i dX5_skin_12 cs_X5_57 (Nat.le_of_ble_eq_true rfl) (by decide) (t_X5_within _ _ _) ?_
  refine ev_if_ne_t (tgt := 21) dX5_skin_15 rfl (by rw [bi_1 hp3]; decide) ?_
  refine ev_aload_n dX5_skin_21 rfl ?_
  refine ev_geti dX5_skin_22 fl_X5_46 rfl (hB.1 0 _ rfl) ?_
  refine ev_bipush (v := 6) dX5_skin_25 rfl ?_
  refine ev_icmp_lt_t (tgt := 33) dX5_skin_27 rfl (by rw [hns]; exact nI_lt (b := 6) hns6 (by decide)) ?_
  refine ev_aload_n dX5_skin_33 rfl ?_
  refine ev_getq dX5_skin_34 fl_X5_31 rfl (hB.1 0 _ rfl) (hB.2 0 3 _ rfl) ?_
  refine ev_aload_n dX5_skin_37 rfl ?_
  refine ev_geti dX5_skin_38 fl_X5_46 rfl (hB.1 0 _ rfl) ?_
  refine ev_new2 (ci := 3) (q := n) (mc1 := 1) (ms1 := 144) dX5_skin_41 (by decide) nw_X5_29 ins_3.1 ins_3.2 hS.1 (ok_sc trivial (ok_sc (show 21 < n by omega) ok_sn)) (ok_lc (show 0 < n by omega) (ok_lc trivial (ok_lc trivial (ok_lc trivial ok_ln)))) hS.2.1 (fun j => (hS.2.2 n (Nat.le_refl n) j).1) (fun j => (hS.2.2 n (Nat.le_refl n) j).2) rfl rfl dv_3 ?_
  refine ev_dup dX5_skin_44 ?_
  refine ev_iload_n dX5_skin_45 rfl ?_
  refine ev_iload_n dX5_skin_46 rfl ?_
  refine ev_iload_n dX5_skin_47 rfl ?_
  refine ev_calli (k := n) (av := [pv_i (nI W), pv_i (nI H), pv_i p3]) (d1 := 1) (mc1 := 1) (ms1 := 144) (mc2 := 0) (ms2 := 0) dX5_skin_48 ci_X5_195 rfl rfl (Nat.le_of_ble_eq_true rfl) (by decide) (Or.inr ⟨ok_sc (show n < _ by rw [ln_s hS.1 rfl]; omega) (ok_sc trivial (ok_sc (show 21 < _ by rw [ln_s hS.1 rfl]; omega) ok_sn)), ok_lc (show 0 < _ by rw [ln_s hS.1 rfl]; omega) (ok_lc trivial (ok_lc trivial (ok_lc trivial ok_ln)))⟩) rfl rfl (t_X3_init (q := n) (lk_n hS.1) (ln_s hS.1 rfl) (ok_mn (Nat.le_succ n) hS.2.1) (fun k hk j => (hS.2.2 k hk j).1) (fun k hk j => (hS.2.2 k (by omega) j).2) W H hW hH p3) ?_
  rintro v_ sh_ mi_ mr_ ⟨e1_, e2_, e3_, e4_⟩
  subst e1_
  subst e2_
  subst e3_
  subst e4_
  refine ev_aast (ci := 3) (t := 1) (n := 6) (j := ns) dX5_skin_51 (lk_l (lk_l (hB.1 21 _ rfl))) (by decide) (lk_l (lk_n hS.1)) (by decide) rfl hns hns6 (by decide) ?_
  have hv2 : (up_2 (up_2 (up_2 mi n 1 (nI W)) n 2 (nI H)) n 0 p3) 0 6 = nI ns := (up_ne (Or.inl (by omega))).trans ((up_ne (Or.inl (by omega))).trans ((up_ne (Or.inl (by omega))).trans hns))
  refine ev_aload_n dX5_skin_52 rfl ?_
  refine ev_dup dX5_skin_53 ?_
  refine ev_geti dX5_skin_54 fl_X5_46 rfl (lk_l (lk_l (hB.1 0 _ rfl))) ?_
  rw [hv2]
  refine ev_iconst (v := 1) dX5_skin_57 rfl ?_
  refine ev_iadd dX5_skin_58 ?_
  rw [nI_1]
  refine ev_puti dX5_skin_59 fl_X5_46 rfl rfl (lk_l (lk_l (hB.1 0 _ rfl))) ?_
  refine ev_aload_n dX5_skin_62 rfl ?_
  refine ev_geti dX5_skin_63 fl_X5_46 rfl (lk_l (lk_l (hB.1 0 _ rfl))) ?_
  rw [up_at]
  refine ev_iconst (v := 1) dX5_skin_66 rfl ?_
  refine ev_isub dX5_skin_67 ?_
  rw [nI_pred]
  exact ev_ireturn (ty := .int) dX5_skin_68 rfl rfl ⟨rfl, rfl, rfl, rfl⟩
set_option maxRecDepth 100000 in
set_option maxHeartbeats 4000000 in
theorem t_X6_book_f {sh : SH} {mi : MI} {mr : MR} (hB : ba_c sh mr) (hv : (mi 29 1) = 10) : EV none 0 0 0 mX6_book 0 (en_l mX6_book [pv_r 29]) [] sh mi mr (ok_r sh mr (-6) mi) := by
  show EV none 0 0 0 mX6_book 0 [some (pv_r 29), none] [] sh mi mr _
  refine ev_aload_n dX6_book_0 rfl ?_
  refine ev_geti dX6_book_1 fl_X6_126 rfl (hB.1 29 _ rfl) ?_
  refine ev_bipush (v := 10) dX6_book_4 rfl ?_
  refine ev_icmp_ne_f (tgt := 12) dX6_book_6 rfl hv ?_
  refine ev_bipush (v := (-6)) dX6_book_9 rfl ?_
  exact ev_ireturn (ty := .int) dX6_book_11 rfl rfl ⟨rfl, rfl, rfl, rfl⟩
set_option maxRecDepth 100000 in
set_option maxHeartbeats 4000000 in
theorem lp_X6_book {sh : SH} {mi : MI} {mr : MR} (hB : ba_c sh mr) (nb : Nat) (hnb : mi 29 1 = nI nb) (hnb10 : nb < 10) : ∀ i, i ≤ 5 → EV none 0 0 0 mX6_book 14 [some (pv_r 29), some (pv_i (nI i))] [] sh (fl_r mi 37 (5 * nb) i 1) mr (fun v_ sh_ mi_ mr_ => v_ = some (pv_i (nI nb)) ∧ sh_ = sh ∧ mr_ = mr ∧ mi_ = up_2 (up_2 (fl_r mi 37 (5 * nb) 5 1) 39 nb 2000) 29 1 (nI (nb + 1))) := by
  refine lp_i 5 (fun i hi ih => ?_)
  refine ev_iload_n dX6_book_14 rfl ?_
  refine ev_iconst (v := 5) dX6_book_15 rfl ?_
  refine ev_icmp_ge (tgt := 39) dX6_book_16 rfl (fun h16 => ?_) (fun h16 => ?_)
  · have hin : i = 5 := by have := (nl_le n_5 rfl (by omega) (by omega)).mp h16; omega
    subst hin
    refine ev_aload_n dX6_book_39 rfl ?_
    refine ev_getq dX6_book_40 fl_X6_38 rfl (hB.1 29 _ rfl) (hB.2 29 11 _ rfl) ?_
    refine ev_aload_n dX6_book_43 rfl ?_
    refine ev_geti dX6_book_44 fl_X6_126 rfl (hB.1 29 _ rfl) ?_
    refine ev_sipush (v := 2000) dX6_book_47 rfl ?_
    refine ev_iast dX6_book_50 (hB.1 39 _ rfl) (j := nb) ((fl_ne (by decide)).trans hnb) (by omega) (by decide) ?_
    refine ev_aload_n dX6_book_51 rfl ?_
    refine ev_dup dX6_book_52 ?_
    refine ev_geti dX6_book_53 fl_X6_126 rfl (hB.1 29 _ rfl) ?_
    refine ev_iconst (v := 1) dX6_book_56 rfl ?_
    refine ev_iadd dX6_book_57 ?_
    rw [show ((up_2 (fl_r mi 37 (5 * nb) 5 1) 39 nb 2000) 29 1) + 1 = nI (nb + 1) by rw [up_ne (Or.inl (by decide)), fl_ne (by decide), hnb, nI_1]]
    refine ev_puti dX6_book_58 fl_X6_126 rfl rfl (hB.1 29 _ rfl) ?_
    refine ev_aload_n dX6_book_61 rfl ?_
    refine ev_geti dX6_book_62 fl_X6_126 rfl (hB.1 29 _ rfl) ?_
    rw [up_at]
    refine ev_iconst (v := 1) dX6_book_65 rfl ?_
    refine ev_isub dX6_book_66 ?_
    rw [nI_pred]
    exact ev_ireturn (ty := .int) dX6_book_67 rfl rfl ⟨rfl, rfl, rfl, rfl⟩
  · have hlt : i < 5 := by have := (not_congr (nl_le n_5 rfl (by omega) (by omega))).mp h16; omega
    refine ev_aload_n dX6_book_19 rfl ?_
    refine ev_getq dX6_book_20 fl_X6_32 rfl (hB.1 29 _ rfl) (hB.2 29 9 _ rfl) ?_
    refine ev_iconst (v := 5) dX6_book_23 rfl ?_
    refine ev_aload_n dX6_book_24 rfl ?_
    refine ev_geti dX6_book_25 fl_X6_126 rfl (hB.1 29 _ rfl) ?_
    refine ev_imul dX6_book_28 ?_
    refine ev_iload_n dX6_book_29 rfl ?_
    refine ev_iadd dX6_book_30 ?_
    refine ev_iconst (v := 1) dX6_book_31 rfl ?_
    refine ev_iast dX6_book_32 (hB.1 37 _ rfl) (j := 5 * nb + i) (by rw [show fl_r mi 37 (5 * nb) i 1 29 1 = nI nb from (fl_ne (by decide)).trans hnb, n_5, pk_mul, nI_add]) (by omega) (by decide) ?_
    refine ev_iincN dX6_book_33 rfl (by decide) ?_
    refine ev_goto (tgt := 14) dX6_book_36 rfl ?_
    have q := ih hlt
    rw [← fl_s] at q
    exact q
set_option maxRecDepth 100000 in
set_option maxHeartbeats 4000000 in
theorem t_X6_book_k {sh : SH} {mi : MI} {mr : MR} (hB : ba_c sh mr) (nb : Nat) (hnb : mi 29 1 = nI nb) (hnb10 : nb < 10) : EV none 0 0 0 mX6_book 0 (en_l mX6_book [pv_r 29]) [] sh mi mr (fun v_ sh_ mi_ mr_ => v_ = some (pv_i (nI nb)) ∧ sh_ = sh ∧ mr_ = mr ∧ mi_ = up_2 (up_2 (fl_r mi 37 (5 * nb) 5 1) 39 nb 2000) 29 1 (nI (nb + 1))) := by
  show EV none 0 0 0 mX6_book 0 [some (pv_r 29), none] [] sh mi mr _
  refine ev_aload_n dX6_book_0 rfl ?_
  refine ev_geti dX6_book_1 fl_X6_126 rfl (hB.1 29 _ rfl) ?_
  refine ev_bipush (v := 10) dX6_book_4 rfl ?_
  refine ev_icmp_ne_t (tgt := 12) dX6_book_6 rfl (by rw [hnb]; intro e; have := (nI_eq (b := 10) (by omega) (by decide)).mp e; omega) ?_
  refine ev_iconst (v := 0) dX6_book_12 rfl ?_
  refine ev_istore_n dX6_book_13 (by decide) ?_
  have q := lp_X6_book hB nb hnb hnb10 0 (by decide)
  rw [fl_0] at q
  exact q
set_option maxRecDepth 100000 in
set_option maxHeartbeats 4000000 in
theorem t_X6_skin_o {sh : SH} {mi : MI} {mr : MR} (hB : ba_c sh mr) (p1 p2 p3 : Int32) (hv : ¬ (((1 ≤ p1 ∧ p1 ≤ 12) ∧ 1 ≤ p2 ∧ p2 ≤ 12) ∧ 0 ≤ p3 ∧ p3 ≤ 9)) : EV none 1 0 0 mX6_skin 0 (en_l mX6_skin [pv_r 29, pv_i p1, pv_i p2, pv_i p3]) [] sh mi mr (ok_r sh mr (-3) mi) := by
  show EV none 1 0 0 mX6_skin 0 [some (pv_r 29), some (pv_i p1), some (pv_i p2), some (pv_i p3)] [] sh mi mr _
  refine ev_iload_n dX6_skin_0 rfl ?_
  refine ev_iconst (v := 1) dX6_skin_1 rfl ?_
  refine ev_bipush (v := 12) dX6_skin_2 rfl ?_
  refine ev_s3i dX6_skin_4 cs_X6_129 (Nat.le_of_ble_eq_true rfl) (by decide) (t_X6_in _ _ _) ?_
  refine ev_ifb_eq (tgt := 30) dX6_skin_7 rfl (fun h7 => ?_) (fun h7 => ?_)
  · refine ev_bipush (v := (-3)) dX6_skin_30 rfl ?_
    exact ev_ireturn (ty := .int) dX6_skin_32 rfl rfl ⟨rfl, rfl, rfl, rfl⟩
  · refine ev_iload_n dX6_skin_10 rfl ?_
    refine ev_iconst (v := 1) dX6_skin_11 rfl ?_
    refine ev_bipush (v := 12) dX6_skin_12 rfl ?_
    refine ev_s3i dX6_skin_14 cs_X6_129 (Nat.le_of_ble_eq_true rfl) (by decide) (t_X6_in _ _ _) ?_
    refine ev_ifb_eq (tgt := 30) dX6_skin_17 rfl (fun h17 => ?_) (fun h17 => ?_)
    · refine ev_bipush (v := (-3)) dX6_skin_30 rfl ?_
      exact ev_ireturn (ty := .int) dX6_skin_32 rfl rfl ⟨rfl, rfl, rfl, rfl⟩
    · refine ev_iload_n dX6_skin_20 rfl ?_
      refine ev_iconst (v := 0) dX6_skin_21 rfl ?_
      refine ev_bipush (v := 9) dX6_skin_22 rfl ?_
      refine ev_s3i dX6_skin_24 cs_X6_129 (Nat.le_of_ble_eq_true rfl) (by decide) (t_X6_in _ _ _) ?_
      refine ev_if_ne_f (tgt := 33) dX6_skin_27 rfl (bi_f (fun e => hv ⟨⟨h7, h17⟩, e⟩)) ?_
      refine ev_bipush (v := (-3)) dX6_skin_30 rfl ?_
      exact ev_ireturn (ty := .int) dX6_skin_32 rfl rfl ⟨rfl, rfl, rfl, rfl⟩
set_option maxRecDepth 100000 in
set_option maxHeartbeats 4000000 in
theorem t_X6_skin_f {sh : SH} {mi : MI} {mr : MR} (hB : ba_c sh mr) (p1 p2 p3 : Int32) (hv : ((1 ≤ p1 ∧ p1 ≤ 12) ∧ 1 ≤ p2 ∧ p2 ≤ 12) ∧ 0 ≤ p3 ∧ p3 ≤ 9) (hf : (mi 29 34) = 6) : EV none 1 0 0 mX6_skin 0 (en_l mX6_skin [pv_r 29, pv_i p1, pv_i p2, pv_i p3]) [] sh mi mr (ok_r sh mr (-6) mi) := by
  show EV none 1 0 0 mX6_skin 0 [some (pv_r 29), some (pv_i p1), some (pv_i p2), some (pv_i p3)] [] sh mi mr _
  refine ev_iload_n dX6_skin_0 rfl ?_
  refine ev_iconst (v := 1) dX6_skin_1 rfl ?_
  refine ev_bipush (v := 12) dX6_skin_2 rfl ?_
  refine ev_s3i dX6_skin_4 cs_X6_129 (Nat.le_of_ble_eq_true rfl) (by decide) (t_X6_in _ _ _) ?_
  refine ev_if_eq_f (tgt := 30) dX6_skin_7 rfl (by rw [bi_1 hv.1.1]; decide) ?_
  refine ev_iload_n dX6_skin_10 rfl ?_
  refine ev_iconst (v := 1) dX6_skin_11 rfl ?_
  refine ev_bipush (v := 12) dX6_skin_12 rfl ?_
  refine ev_s3i dX6_skin_14 cs_X6_129 (Nat.le_of_ble_eq_true rfl) (by decide) (t_X6_in _ _ _) ?_
  refine ev_if_eq_f (tgt := 30) dX6_skin_17 rfl (by rw [bi_1 hv.1.2]; decide) ?_
  refine ev_iload_n dX6_skin_20 rfl ?_
  refine ev_iconst (v := 0) dX6_skin_21 rfl ?_
  refine ev_bipush (v := 9) dX6_skin_22 rfl ?_
  refine ev_s3i dX6_skin_24 cs_X6_129 (Nat.le_of_ble_eq_true rfl) (by decide) (t_X6_in _ _ _) ?_
  refine ev_if_ne_t (tgt := 33) dX6_skin_27 rfl (by rw [bi_1 hv.2]; decide) ?_
  refine ev_aload_n dX6_skin_33 rfl ?_
  refine ev_geti dX6_skin_34 fl_X6_188 rfl (hB.1 29 _ rfl) ?_
  refine ev_bipush (v := 6) dX6_skin_37 rfl ?_
  refine ev_icmp_ne_f (tgt := 45) dX6_skin_39 rfl hf ?_
  refine ev_bipush (v := (-6)) dX6_skin_42 rfl ?_
  exact ev_ireturn (ty := .int) dX6_skin_44 rfl rfl ⟨rfl, rfl, rfl, rfl⟩
set_option maxRecDepth 100000 in
set_option maxHeartbeats 4000000 in
theorem t_X6_skin_k {sh : SH} {mi : MI} {mr : MR} (hB : ba_c sh mr) (p1 p2 p3 : Int32) (hv : ((1 ≤ p1 ∧ p1 ≤ 12) ∧ 1 ≤ p2 ∧ p2 ≤ 12) ∧ 0 ≤ p3 ∧ p3 ≤ 9) (ns : Nat) (hns : mi 29 34 = nI ns) (hns6 : ns < 6) : EV none 1 0 0 mX6_skin 0 (en_l mX6_skin [pv_r 29, pv_i p1, pv_i p2, pv_i p3]) [] sh mi mr (ok_r sh mr (nI ns) (up_2 (up_2 (up_2 (up_2 mi 56 ns p1) 57 ns p2) 58 ns p3) 29 34 (nI (ns + 1)))) := by
  show EV none 1 0 0 mX6_skin 0 [some (pv_r 29), some (pv_i p1), some (pv_i p2), some (pv_i p3)] [] sh mi mr _
  refine ev_iload_n dX6_skin_0 rfl ?_
  refine ev_iconst (v := 1) dX6_skin_1 rfl ?_
  refine ev_bipush (v := 12) dX6_skin_2 rfl ?_
  refine ev_s3i dX6_skin_4 cs_X6_129 (Nat.le_of_ble_eq_true rfl) (by decide) (t_X6_in _ _ _) ?_
  refine ev_if_eq_f (tgt := 30) dX6_skin_7 rfl (by rw [bi_1 hv.1.1]; decide) ?_
  refine ev_iload_n dX6_skin_10 rfl ?_
  refine ev_iconst (v := 1) dX6_skin_11 rfl ?_
  refine ev_bipush (v := 12) dX6_skin_12 rfl ?_
  refine ev_s3i dX6_skin_14 cs_X6_129 (Nat.le_of_ble_eq_true rfl) (by decide) (t_X6_in _ _ _) ?_
  refine ev_if_eq_f (tgt := 30) dX6_skin_17 rfl (by rw [bi_1 hv.1.2]; decide) ?_
  refine ev_iload_n dX6_skin_20 rfl ?_
  refine ev_iconst (v := 0) dX6_skin_21 rfl ?_
  refine ev_bipush (v := 9) dX6_skin_22 rfl ?_
  refine ev_s3i dX6_skin_24 cs_X6_129 (Nat.le_of_ble_eq_true rfl) (by decide) (t_X6_in _ _ _) ?_
  refine ev_if_ne_t (tgt := 33) dX6_skin_27 rfl (by rw [bi_1 hv.2]; decide) ?_
  refine ev_aload_n dX6_skin_33 rfl ?_
  refine ev_geti dX6_skin_34 fl_X6_188 rfl (hB.1 29 _ rfl) ?_
  refine ev_bipush (v := 6) dX6_skin_37 rfl ?_
  refine ev_icmp_ne_t (tgt := 45) dX6_skin_39 rfl (by rw [hns]; intro e; have := (nI_eq (b := 6) (by omega) (by decide)).mp e; omega) ?_
  refine ev_aload_n dX6_skin_45 rfl ?_
  refine ev_getq dX6_skin_46 fl_X6_93 rfl (hB.1 29 _ rfl) (hB.2 29 35 _ rfl) ?_
  refine ev_aload_n dX6_skin_49 rfl ?_
  refine ev_geti dX6_skin_50 fl_X6_188 rfl (hB.1 29 _ rfl) ?_
  refine ev_iload_n dX6_skin_53 rfl ?_
  refine ev_iast dX6_skin_54 (hB.1 56 _ rfl) (j := ns) (hns) (by omega) (by decide) ?_
  refine ev_aload_n dX6_skin_55 rfl ?_
  refine ev_getq dX6_skin_56 fl_X6_96 rfl (hB.1 29 _ rfl) (hB.2 29 36 _ rfl) ?_
  refine ev_aload_n dX6_skin_59 rfl ?_
  refine ev_geti dX6_skin_60 fl_X6_188 rfl (hB.1 29 _ rfl) ?_
  refine ev_iload_n dX6_skin_63 rfl ?_
  refine ev_iast dX6_skin_64 (hB.1 57 _ rfl) (j := ns) ((up_ne (Or.inl (by decide))).trans hns) (by omega) (by decide) ?_
  refine ev_aload_n dX6_skin_65 rfl ?_
  refine ev_getq dX6_skin_66 fl_X6_99 rfl (hB.1 29 _ rfl) (hB.2 29 37 _ rfl) ?_
  refine ev_aload_n dX6_skin_69 rfl ?_
  refine ev_geti dX6_skin_70 fl_X6_188 rfl (hB.1 29 _ rfl) ?_
  refine ev_iload_n dX6_skin_73 rfl ?_
  refine ev_iast dX6_skin_74 (hB.1 58 _ rfl) (j := ns) ((up_ne (Or.inl (by decide))).trans ((up_ne (Or.inl (by decide))).trans hns)) (by omega) (by decide) ?_
  refine ev_aload_n dX6_skin_75 rfl ?_
  refine ev_dup dX6_skin_76 ?_
  refine ev_geti dX6_skin_77 fl_X6_188 rfl (hB.1 29 _ rfl) ?_
  refine ev_iconst (v := 1) dX6_skin_80 rfl ?_
  refine ev_iadd dX6_skin_81 ?_
  rw [show ((up_2 (up_2 (up_2 mi 56 ns p1) 57 ns p2) 58 ns p3) 29 34) + 1 = nI (ns + 1) by rw [up_ne (Or.inl (by decide)), up_ne (Or.inl (by decide)), up_ne (Or.inl (by decide)), hns, nI_1]]
  refine ev_puti dX6_skin_82 fl_X6_188 rfl rfl (hB.1 29 _ rfl) ?_
  refine ev_aload_n dX6_skin_85 rfl ?_
  refine ev_geti dX6_skin_86 fl_X6_188 rfl (hB.1 29 _ rfl) ?_
  rw [up_at]
  refine ev_iconst (v := 1) dX6_skin_89 rfl ?_
  refine ev_isub dX6_skin_90 ?_
  rw [nI_pred]
  exact ev_ireturn (ty := .int) dX6_skin_91 rfl rfl ⟨rfl, rfl, rfl, rfl⟩
