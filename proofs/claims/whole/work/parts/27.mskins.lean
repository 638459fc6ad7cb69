set_option maxRecDepth 100000 in
set_option maxHeartbeats 4000000 in
theorem t_X6_isSkin {sh : SH} {mi : MI} {mr : MR} (hB : ba_c sh mr) (p1 : Int32) : EV none 1 0 0 mX6_isSkin 0 (en_l mX6_isSkin [pv_r 29, pv_i p1]) [] sh mi mr (ok_r sh mr (bi (0 ≤ p1 ∧ p1 ≤ ((mi 29 34) - 1))) mi) := by
  show EV none 1 0 0 mX6_isSkin 0 [some (pv_r 29), some (pv_i p1)] [] sh mi mr _
  refine ev_iload_n dX6_isSkin_0 rfl ?_
  refine ev_iconst (v := 0) dX6_isSkin_1 rfl ?_
  refine ev_aload_n dX6_isSkin_2 rfl ?_
  refine ev_geti dX6_isSkin_3 fl_X6_188 rfl (hB.1 29 _ rfl) ?_
  refine ev_iconst (v := 1) dX6_isSkin_6 rfl ?_
  refine ev_isub dX6_isSkin_7 ?_
  refine ev_s3i dX6_isSkin_8 cs_X6_129 (Nat.le_of_ble_eq_true rfl) (by decide) (t_X6_in _ _ _) ?_
  exact ev_ireturn (ty := .boolean) dX6_isSkin_11 rfl bi_nar ⟨rfl, rfl, rfl, rfl⟩
set_option maxRecDepth 100000 in
set_option maxHeartbeats 4000000 in
theorem t_X6_isSpot {sh : SH} {mi : MI} {mr : MR} (hB : ba_c sh mr) (s : Nat) (hs6 : s < 6) (p2 p3 : Int32) : EV none 1 0 0 mX6_isSpot 0 (en_l mX6_isSpot [pv_r 29, pv_i (nI s), pv_i p2, pv_i p3]) [] sh mi mr (ok_r sh mr (bi ((0 ≤ p2 ∧ p2 ≤ (mi 56 s) - 1) ∧ 0 ≤ p3 ∧ p3 ≤ (mi 57 s) - 1)) mi) := by
  show EV none 1 0 0 mX6_isSpot 0 [some (pv_r 29), some (pv_i (nI s)), some (pv_i p2), some (pv_i p3)] [] sh mi mr _
  refine ev_iload_n dX6_isSpot_0 rfl ?_
  refine ev_iconst (v := 0) dX6_isSpot_1 rfl ?_
  refine ev_aload_n dX6_isSpot_2 rfl ?_
  refine ev_getq dX6_isSpot_3 fl_X6_93 rfl (hB.1 29 _ rfl) (hB.2 29 35 _ rfl) ?_
  refine ev_iload_n dX6_isSpot_6 rfl ?_
  refine ev_iald dX6_isSpot_7 (hB.1 56 _ rfl) (j := s) rfl (by omega) (by decide) ?_
  refine ev_iconst (v := 1) dX6_isSpot_8 rfl ?_
  refine ev_isub dX6_isSpot_9 ?_
  refine ev_s3i dX6_isSpot_10 cs_X6_129 (Nat.le_of_ble_eq_true rfl) (by decide) (t_X6_in _ _ _) ?_
  refine ev_ifb_eq (tgt := 36) dX6_isSpot_13 rfl (fun h13 => ?_) (fun h13 => ?_)
  · refine ev_iconst (v := 0) dX6_isSpot_36 rfl ?_
    exact ev_ireturn (ty := .boolean) dX6_isSpot_37 rfl rfl ⟨congrArg (fun z => some (pv_i z)) (bi_f (fun q => h13 q.1)).symm, rfl, rfl, rfl⟩
  · refine ev_iload_n dX6_isSpot_16 rfl ?_
    refine ev_iconst (v := 0) dX6_isSpot_17 rfl ?_
    refine ev_aload_n dX6_isSpot_18 rfl ?_
    refine ev_getq dX6_isSpot_19 fl_X6_96 rfl (hB.1 29 _ rfl) (hB.2 29 36 _ rfl) ?_
    refine ev_iload_n dX6_isSpot_22 rfl ?_
    refine ev_iald dX6_isSpot_23 (hB.1 57 _ rfl) (j := s) rfl (by omega) (by decide) ?_
    refine ev_iconst (v := 1) dX6_isSpot_24 rfl ?_
    refine ev_isub dX6_isSpot_25 ?_
    refine ev_s3i dX6_isSpot_26 cs_X6_129 (Nat.le_of_ble_eq_true rfl) (by decide) (t_X6_in _ _ _) ?_
    refine ev_ifb_eq (tgt := 36) dX6_isSpot_29 rfl (fun h29 => ?_) (fun h29 => ?_)
    · refine ev_iconst (v := 0) dX6_isSpot_36 rfl ?_
      exact ev_ireturn (ty := .boolean) dX6_isSpot_37 rfl rfl ⟨congrArg (fun z => some (pv_i z)) (bi_f (fun q => h29 q.2)).symm, rfl, rfl, rfl⟩
    · refine ev_iconst (v := 1) dX6_isSpot_32 rfl ?_
      refine ev_goto (tgt := 37) dX6_isSpot_33 rfl ?_
      exact ev_ireturn (ty := .boolean) dX6_isSpot_37 rfl rfl ⟨congrArg (fun z => some (pv_i z)) (bi_1 ⟨h13, h29⟩).symm, rfl, rfl, rfl⟩
set_option maxRecDepth 100000 in
set_option maxHeartbeats 4000000 in
theorem t_X6_flaw_u {sh : SH} {mi : MI} {mr : MR} (hB : ba_c sh mr) (p1 : Int32) (hu : ¬ (0 ≤ p1 ∧ p1 ≤ (mi 29 34) - 1)) (p2 p3 : Int32) : EV none 2 0 0 mX6_flaw 0 (en_l mX6_flaw [pv_r 29, pv_i p1, pv_i p2, pv_i p3]) [] sh mi mr (ok_r sh mr (-2) mi) := by
  show EV none 2 0 0 mX6_flaw 0 [some (pv_r 29), some (pv_i p1), some (pv_i p2), some (pv_i p3), none] [] sh mi mr _
  refine ev_aload_n dX6_flaw_0 rfl ?_
  refine ev_iload_n dX6_flaw_1 rfl ?_
  refine ev_v1i dX6_flaw_2 cv_X6_191 (hB.1 29 _ rfl) (Nat.le_of_ble_eq_true rfl) (by decide) (t_X6_isSkin hB _) ?_
  refine ev_if_ne_f (tgt := 11) dX6_flaw_5 rfl (bi_f hu) ?_
  refine ev_bipush (v := (-2)) dX6_flaw_8 rfl ?_
  exact ev_ireturn (ty := .int) dX6_flaw_10 rfl rfl ⟨rfl, rfl, rfl, rfl⟩
set_option maxRecDepth 100000 in
set_option maxHeartbeats 4000000 in
theorem t_X6_cut_u {sh : SH} {mi : MI} {mr : MR} (hB : ba_c sh mr) (p1 : Int32) (hu : ¬ (0 ≤ p1 ∧ p1 ≤ (mi 29 34) - 1)) (p2 p3 : Int32) : EV none 2 0 0 mX6_cut 0 (en_l mX6_cut [pv_r 29, pv_i p1, pv_i p2, pv_i p3]) [] sh mi mr (ok_r sh mr (-2) mi) := by
  show EV none 2 0 0 mX6_cut 0 [some (pv_r 29), some (pv_i p1), some (pv_i p2), some (pv_i p3), none] [] sh mi mr _
  refine ev_aload_n dX6_cut_0 rfl ?_
  refine ev_iload_n dX6_cut_1 rfl ?_
  refine ev_v1i dX6_cut_2 cv_X6_191 (hB.1 29 _ rfl) (Nat.le_of_ble_eq_true rfl) (by decide) (t_X6_isSkin hB _) ?_
  refine ev_if_ne_f (tgt := 11) dX6_cut_5 rfl (bi_f hu) ?_
  refine ev_bipush (v := (-2)) dX6_cut_8 rfl ?_
  exact ev_ireturn (ty := .int) dX6_cut_10 rfl rfl ⟨rfl, rfl, rfl, rfl⟩
set_option maxRecDepth 100000 in
set_option maxHeartbeats 4000000 in
theorem t_X6_spot_u {sh : SH} {mi : MI} {mr : MR} (hB : ba_c sh mr) (p1 : Int32) (hu : ¬ (0 ≤ p1 ∧ p1 ≤ (mi 29 34) - 1)) (p2 p3 : Int32) : EV none 2 0 0 mX6_spot 0 (en_l mX6_spot [pv_r 29, pv_i p1, pv_i p2, pv_i p3]) [] sh mi mr (ok_r sh mr (-2) mi) := by
  show EV none 2 0 0 mX6_spot 0 [some (pv_r 29), some (pv_i p1), some (pv_i p2), some (pv_i p3)] [] sh mi mr _
  refine ev_aload_n dX6_spot_0 rfl ?_
  refine ev_iload_n dX6_spot_1 rfl ?_
  refine ev_v1i dX6_spot_2 cv_X6_191 (hB.1 29 _ rfl) (Nat.le_of_ble_eq_true rfl) (by decide) (t_X6_isSkin hB _) ?_
  refine ev_if_ne_f (tgt := 11) dX6_spot_5 rfl (bi_f hu) ?_
  refine ev_bipush (v := (-2)) dX6_spot_8 rfl ?_
  exact ev_ireturn (ty := .int) dX6_spot_10 rfl rfl ⟨rfl, rfl, rfl, rfl⟩
set_option maxRecDepth 100000 in
set_option maxHeartbeats 4000000 in
theorem t_X6_flaw_o {sh : SH} {mi : MI} {mr : MR} (hB : ba_c sh mr) (ns : Nat) (hns : mi 29 34 = nI ns) (hns6 : ns ≤ 6) (s : Nat) (hs : s < ns) (p2 p3 : Int32) (hv : ¬ ((0 ≤ p2 ∧ p2 ≤ (mi 56 s) - 1) ∧ 0 ≤ p3 ∧ p3 ≤ (mi 57 s) - 1)) : EV none 2 0 0 mX6_flaw 0 (en_l mX6_flaw [pv_r 29, pv_i (nI s), pv_i p2, pv_i p3]) [] sh mi mr (ok_r sh mr (-3) mi) := by
  show EV none 2 0 0 mX6_flaw 0 [some (pv_r 29), some (pv_i (nI s)), some (pv_i p2), some (pv_i p3), none] [] sh mi mr _
  refine ev_aload_n dX6_flaw_0 rfl ?_
  refine ev_iload_n dX6_flaw_1 rfl ?_
  refine ev_v1i dX6_flaw_2 cv_X6_191 (hB.1 29 _ rfl) (Nat.le_of_ble_eq_true rfl) (by decide) (t_X6_isSkin hB _) ?_
  refine ev_if_ne_t (tgt := 11) dX6_flaw_5 rfl (by rw [bi_1 (by rw [hns]; exact (i_cases (by omega)).mpr ⟨s, hs, rfl⟩)]; decide) ?_
  refine ev_aload_n dX6_flaw_11 rfl ?_
  refine ev_iload_n dX6_flaw_12 rfl ?_
  refine ev_iload_n dX6_flaw_13 rfl ?_
  refine ev_iload_n dX6_flaw_14 rfl ?_
  refine ev_v3i dX6_flaw_15 cv_X6_194 (hB.1 29 _ rfl) (Nat.le_of_ble_eq_true rfl) (by decide) (t_X6_isSpot hB s (by omega) _ _) ?_
  refine ev_if_ne_f (tgt := 24) dX6_flaw_18 rfl (bi_f hv) ?_
  refine ev_bipush (v := (-3)) dX6_flaw_21 rfl ?_
  exact ev_ireturn (ty := .int) dX6_flaw_23 rfl rfl ⟨rfl, rfl, rfl, rfl⟩
set_option maxRecDepth 100000 in
set_option maxHeartbeats 4000000 in
theorem t_X6_flaw_k {sh : SH} {mi : MI} {mr : MR} (hB : ba_c sh mr) (ns : Nat) (hns : mi 29 34 = nI ns) (hns6 : ns ≤ 6) (s : Nat) (hs : s < ns) (W H : Nat) (hW : mi 56 s = nI W) (hH : mi 57 s = nI H) (hW12 : W ≤ 12) (hH12 : H ≤ 12) (x y : Nat) (hx : x < W) (hy : y < H) : EV none 2 0 0 mX6_flaw 0 (en_l mX6_flaw [pv_r 29, pv_i (nI s), pv_i (nI x), pv_i (nI y)]) [] sh mi mr (fun v_ sh_ mi_ mr_ => (((mi 59 (((144 * s) + (12 * y)) + x)) = 0) ∧ (ok_r sh mr 1 (up_2 mi 59 (((144 * s) + (12 * y)) + x) 1)) v_ sh_ mi_ mr_) ∨ ((¬ (mi 59 (((144 * s) + (12 * y)) + x)) = 0) ∧ (ok_r sh mr (-4) mi) v_ sh_ mi_ mr_)) := by
  show EV none 2 0 0 mX6_flaw 0 [some (pv_r 29), some (pv_i (nI s)), some (pv_i (nI x)), some (pv_i (nI y)), none] [] sh mi mr _
  refine ev_aload_n dX6_flaw_0 rfl ?_
  refine ev_iload_n dX6_flaw_1 rfl ?_
  refine ev_v1i dX6_flaw_2 cv_X6_191 (hB.1 29 _ rfl) (Nat.le_of_ble_eq_true rfl) (by decide) (t_X6_isSkin hB _) ?_
  refine ev_if_ne_t (tgt := 11) dX6_flaw_5 rfl (by rw [bi_1 (by rw [hns]; exact (i_cases (by omega)).mpr ⟨s, hs, rfl⟩)]; decide) ?_
  refine ev_aload_n dX6_flaw_11 rfl ?_
  refine ev_iload_n dX6_flaw_12 rfl ?_
  refine ev_iload_n dX6_flaw_13 rfl ?_
  refine ev_iload_n dX6_flaw_14 rfl ?_
  refine ev_v3i dX6_flaw_15 cv_X6_194 (hB.1 29 _ rfl) (Nat.le_of_ble_eq_true rfl) (by decide) (t_X6_isSpot hB s (by omega) _ _) ?_
  refine ev_if_ne_t (tgt := 24) dX6_flaw_18 rfl (by rw [bi_1 ⟨by rw [hW]; exact (i_cases (by omega)).mpr ⟨x, hx, rfl⟩, by rw [hH]; exact (i_cases (by omega)).mpr ⟨y, hy, rfl⟩⟩]; decide) ?_
  refine ev_sipush (v := 144) dX6_flaw_24 rfl ?_
  refine ev_iload_n dX6_flaw_27 rfl ?_
  refine ev_imul dX6_flaw_28 ?_
  refine ev_bipush (v := 12) dX6_flaw_29 rfl ?_
  refine ev_iload_n dX6_flaw_31 rfl ?_
  refine ev_imul dX6_flaw_32 ?_
  refine ev_iadd dX6_flaw_33 ?_
  refine ev_iload_n dX6_flaw_34 rfl ?_
  refine ev_iadd dX6_flaw_35 ?_
  refine ev_istore dX6_flaw_36 (by decide) ?_
  refine ev_aload_n dX6_flaw_38 rfl ?_
  refine ev_getq dX6_flaw_39 fl_X6_102 rfl (hB.1 29 _ rfl) (hB.2 29 38 _ rfl) ?_
  refine ev_iload dX6_flaw_42 rfl ?_
  refine ev_iald dX6_flaw_44 (hB.1 59 _ rfl) (j := ((144 * s) + (12 * y)) + x) (by simp [up_2, pk_mul, nI_add, n_5, n_6, n_12, n_144]) (by omega) (by decide) ?_
  refine ev_if_eq (tgt := 51) dX6_flaw_45 rfl (fun h45 => ?_) (fun h45 => ?_)
  · refine ev_aload_n dX6_flaw_51 rfl ?_
    refine ev_getq dX6_flaw_52 fl_X6_102 rfl (hB.1 29 _ rfl) (hB.2 29 38 _ rfl) ?_
    refine ev_iload dX6_flaw_55 rfl ?_
    refine ev_iconst (v := 1) dX6_flaw_57 rfl ?_
    refine ev_iast dX6_flaw_58 (hB.1 59 _ rfl) (j := ((144 * s) + (12 * y)) + x) (by simp [up_2, pk_mul, nI_add, n_5, n_6, n_12, n_144]) (by omega) (by decide) ?_
    refine ev_iconst (v := 1) dX6_flaw_59 rfl ?_
    exact ev_ireturn (ty := .int) dX6_flaw_60 rfl rfl (Or.inl ⟨h45, rfl, rfl, rfl, rfl⟩)
  · refine ev_bipush (v := (-4)) dX6_flaw_48 rfl ?_
    exact ev_ireturn (ty := .int) dX6_flaw_50 rfl rfl (Or.inr ⟨h45, rfl, rfl, rfl, rfl⟩)
set_option maxRecDepth 100000 in
set_option maxHeartbeats 4000000 in
theorem t_X6_spot_o {sh : SH} {mi : MI} {mr : MR} (hB : ba_c sh mr) (ns : Nat) (hns : mi 29 34 = nI ns) (hns6 : ns ≤ 6) (s : Nat) (hs : s < ns) (p2 p3 : Int32) (hv : ¬ ((0 ≤ p2 ∧ p2 ≤ (mi 56 s) - 1) ∧ 0 ≤ p3 ∧ p3 ≤ (mi 57 s) - 1)) : EV none 2 0 0 mX6_spot 0 (en_l mX6_spot [pv_r 29, pv_i (nI s), pv_i p2, pv_i p3]) [] sh mi mr (ok_r sh mr (-3) mi) := by
  show EV none 2 0 0 mX6_spot 0 [some (pv_r 29), some (pv_i (nI s)), some (pv_i p2), some (pv_i p3)] [] sh mi mr _
  refine ev_aload_n dX6_spot_0 rfl ?_
  refine ev_iload_n dX6_spot_1 rfl ?_
  refine ev_v1i dX6_spot_2 cv_X6_191 (hB.1 29 _ rfl) (Nat.le_of_ble_eq_true rfl) (by decide) (t_X6_isSkin hB _) ?_
  refine ev_if_ne_t (tgt := 11) dX6_spot_5 rfl (by rw [bi_1 (by rw [hns]; exact (i_cases (by omega)).mpr ⟨s, hs, rfl⟩)]; decide) ?_
  refine ev_aload_n dX6_spot_11 rfl ?_
  refine ev_iload_n dX6_spot_12 rfl ?_
  refine ev_iload_n dX6_spot_13 rfl ?_
  refine ev_iload_n dX6_spot_14 rfl ?_
  refine ev_v3i dX6_spot_15 cv_X6_194 (hB.1 29 _ rfl) (Nat.le_of_ble_eq_true rfl) (by decide) (t_X6_isSpot hB s (by omega) _ _) ?_
  refine ev_if_eq_t (tgt := 41) dX6_spot_18 rfl (bi_f hv) ?_
  refine ev_bipush (v := (-3)) dX6_spot_41 rfl ?_
  exact ev_ireturn (ty := .int) dX6_spot_43 rfl rfl ⟨rfl, rfl, rfl, rfl⟩
set_option maxRecDepth 100000 in
set_option maxHeartbeats 4000000 in
theorem t_X6_spot_k {sh : SH} {mi : MI} {mr : MR} (hB : ba_c sh mr) (ns : Nat) (hns : mi 29 34 = nI ns) (hns6 : ns ≤ 6) (s : Nat) (hs : s < ns) (W H : Nat) (hW : mi 56 s = nI W) (hH : mi 57 s = nI H) (hW12 : W ≤ 12) (hH12 : H ≤ 12) (x y : Nat) (hx : x < W) (hy : y < H) : EV none 2 0 0 mX6_spot 0 (en_l mX6_spot [pv_r 29, pv_i (nI s), pv_i (nI x), pv_i (nI y)]) [] sh mi mr (ok_r sh mr (mi 59 (((144 * s) + (12 * y)) + x)) mi) := by
  show EV none 2 0 0 mX6_spot 0 [some (pv_r 29), some (pv_i (nI s)), some (pv_i (nI x)), some (pv_i (nI y))] [] sh mi mr _
  refine ev_aload_n dX6_spot_0 rfl ?_
  refine ev_iload_n dX6_spot_1 rfl ?_
  refine ev_v1i dX6_spot_2 cv_X6_191 (hB.1 29 _ rfl) (Nat.le_of_ble_eq_true rfl) (by decide) (t_X6_isSkin hB _) ?_
  refine ev_if_ne_t (tgt := 11) dX6_spot_5 rfl (by rw [bi_1 (by rw [hns]; exact (i_cases (by omega)).mpr ⟨s, hs, rfl⟩)]; decide) ?_
  refine ev_aload_n dX6_spot_11 rfl ?_
  refine ev_iload_n dX6_spot_12 rfl ?_
  refine ev_iload_n dX6_spot_13 rfl ?_
  refine ev_iload_n dX6_spot_14 rfl ?_
  refine ev_v3i dX6_spot_15 cv_X6_194 (hB.1 29 _ rfl) (Nat.le_of_ble_eq_true rfl) (by decide) (t_X6_isSpot hB s (by omega) _ _) ?_
  refine ev_if_eq_f (tgt := 41) dX6_spot_18 rfl (by rw [bi_1 ⟨by rw [hW]; exact (i_cases (by omega)).mpr ⟨x, hx, rfl⟩, by rw [hH]; exact (i_cases (by omega)).mpr ⟨y, hy, rfl⟩⟩]; decide) ?_
  refine ev_aload_n dX6_spot_21 rfl ?_
  refine ev_getq dX6_spot_22 fl_X6_102 rfl (hB.1 29 _ rfl) (hB.2 29 38 _ rfl) ?_
  refine ev_sipush (v := 144) dX6_spot_25 rfl ?_
  refine ev_iload_n dX6_spot_28 rfl ?_
  refine ev_imul dX6_spot_29 ?_
  refine ev_bipush (v := 12) dX6_spot_30 rfl ?_
  refine ev_iload_n dX6_spot_32 rfl ?_
  refine ev_imul dX6_spot_33 ?_
  refine ev_iadd dX6_spot_34 ?_
  refine ev_iload_n dX6_spot_35 rfl ?_
  refine ev_iadd dX6_spot_36 ?_
  refine ev_iald dX6_spot_37 (hB.1 59 _ rfl) (j := ((144 * s) + (12 * y)) + x) (by simp [up_2, pk_mul, nI_add, n_5, n_6, n_12, n_144]) (by omega) (by decide) ?_
  refine ev_goto (tgt := 43) dX6_spot_38 rfl ?_
  exact ev_ireturn (ty := .int) dX6_spot_43 rfl rfl ⟨rfl, rfl, rfl, rfl⟩
set_option maxRecDepth 100000 in
set_option maxHeartbeats 4000000 in
theorem lp_X6_fits2 {sh : SH} {mi : MI} {mr : MR} (hB : ba_c sh mr) (s : Nat) (hs6 : s < 6) (W H : Nat) (hW : mi 56 s = nI W) (hH : mi 57 s = nI H) (hW12 : W ≤ 12) (hH12 : H ≤ 12) (g : Nat → Nat → Int32) (hg : ∀ x y, x < W → y < H → mi 59 (144 * s + 12 * y + x) = g x y) (x y w h : Nat) (hx : x < 12) (hy : y < 12) (hw : w ≤ 12) (hh : h ≤ 12) (hxw : x + w ≤ W) (hyh : y + h ≤ H) (r : Nat) (hr1 : y ≤ r) (hr : r < y + h) (hc : (∀ a, x ≤ a → a < x + w → g a r = 0) → EV none 0 0 0 mX6_fits 102 [some (pv_r 29), some (pv_i (nI s)), some (pv_i (nI x)), some (pv_i (nI y)), some (pv_i (nI w)), some (pv_i (nI h)), some (pv_i 1), some (pv_i (nI r)), none] [] sh mi mr (fun v_ sh_ mi_ mr_ => (ft_g W H g x y w h ∧ (ok_r sh mr 1 mi) v_ sh_ mi_ mr_) ∨ (¬ ft_g W H g x y w h ∧ (ok_r sh mr 0 mi) v_ sh_ mi_ mr_))) : ∀ i, i ≤ x + w → x ≤ i → (∀ a, x ≤ a → a < i → g a r = 0) → EV none 0 0 0 mX6_fits 53 [some (pv_r 29), some (pv_i (nI s)), some (pv_i (nI x)), some (pv_i (nI y)), some (pv_i (nI w)), some (pv_i (nI h)), some (pv_i 1), some (pv_i (nI r)), some (pv_i (nI i))] [] sh mi mr (fun v_ sh_ mi_ mr_ => (ft_g W H g x y w h ∧ (ok_r sh mr 1 mi) v_ sh_ mi_ mr_) ∨ (¬ ft_g W H g x y w h ∧ (ok_r sh mr 0 mi) v_ sh_ mi_ mr_)) := by
  refine lp_i (x + w) (fun i hi ih => ?_)
  intro hxi hz
  refine ev_iload dX6_fits_53 rfl ?_
  refine ev_iload_n dX6_fits_55 rfl ?_
  refine ev_iload dX6_fits_56 rfl ?_
  refine ev_iadd dX6_fits_58 ?_
  refine ev_icmp_ge (tgt := 102) dX6_fits_59 rfl (fun h59 => ?_) (fun h59 => ?_)
  · have hin : x + w ≤ i := (nl_le (nI_add x w) (b := i) rfl (by omega) (by omega)).mp h59
    exact ev_fg 8 (hc (fun a h1 h2 => hz a h1 (by omega)))
  · have hlt : i < x + w := by have := (not_congr (nl_le (nI_add x w) (b := i) rfl (by omega) (by omega))).mp h59; omega
    refine ev_iload dX6_fits_62 rfl ?_
    refine ev_if_eq_f (tgt := 102) dX6_fits_64 rfl (by decide) ?_
    refine ev_aload_n dX6_fits_67 rfl ?_
    refine ev_getq dX6_fits_68 fl_X6_102 rfl (hB.1 29 _ rfl) (hB.2 29 38 _ rfl) ?_
    refine ev_sipush (v := 144) dX6_fits_71 rfl ?_
    refine ev_iload_n dX6_fits_74 rfl ?_
    refine ev_imul dX6_fits_75 ?_
    refine ev_bipush (v := 12) dX6_fits_76 rfl ?_
    refine ev_iload dX6_fits_78 rfl ?_
    refine ev_imul dX6_fits_80 ?_
    refine ev_iadd dX6_fits_81 ?_
    refine ev_iload dX6_fits_82 rfl ?_
    refine ev_iadd dX6_fits_84 ?_
    refine ev_iald dX6_fits_85 (hB.1 59 _ rfl) (j := ((144 * s) + (12 * r)) + i) (by simp [up_2, pk_mul, nI_add, n_5, n_6, n_12, n_144]) (by omega) (by decide) ?_
    refine ev_if_ne (tgt := 93) dX6_fits_86 rfl (fun h86 => ?_) (fun h86 => ?_)
    · refine ev_iconst (v := 0) dX6_fits_93 rfl ?_
      refine ev_istore dX6_fits_94 (by decide) ?_
      refine ev_iincN dX6_fits_96 rfl (by decide) ?_
      refine ev_goto (tgt := 53) dX6_fits_99 rfl ?_
      refine ev_iload dX6_fits_53 rfl ?_
      refine ev_iload_n dX6_fits_55 rfl ?_
      refine ev_iload dX6_fits_56 rfl ?_
      refine ev_iadd dX6_fits_58 ?_
      refine ev_icmp_ge (tgt := 102) dX6_fits_59 rfl (fun h59 => ?_) (fun h59 => ?_)
      · refine ev_iincN dX6_fits_102 rfl (by decide) ?_
        refine ev_goto (tgt := 36) dX6_fits_105 rfl ?_
        refine ev_iload dX6_fits_36 rfl ?_
        refine ev_iload_n dX6_fits_38 rfl ?_
        refine ev_iload dX6_fits_39 rfl ?_
        refine ev_iadd dX6_fits_41 ?_
        refine ev_icmp_ge (tgt := 108) dX6_fits_42 rfl (fun h42 => ?_) (fun h42 => ?_)
        · refine ev_iload dX6_fits_108 rfl ?_
          exact ev_ireturn (ty := .boolean) dX6_fits_110 rfl rfl (Or.inr ⟨fun q => h86 (by rw [hg i r (by omega) (by omega)]; exact q.2.2 i r hxi (by omega) hr1 (by omega)), rfl, rfl, rfl, rfl⟩)
        · refine ev_iload dX6_fits_45 rfl ?_
          refine ev_if_eq_t (tgt := 108) dX6_fits_47 rfl (by decide) ?_
          refine ev_iload dX6_fits_108 rfl ?_
          exact ev_ireturn (ty := .boolean) dX6_fits_110 rfl rfl (Or.inr ⟨fun q => h86 (by rw [hg i r (by omega) (by omega)]; exact q.2.2 i r hxi (by omega) hr1 (by omega)), rfl, rfl, rfl, rfl⟩)
      · refine ev_iload dX6_fits_62 rfl ?_
        refine ev_if_eq_t (tgt := 102) dX6_fits_64 rfl (by decide) ?_
        refine ev_iincN dX6_fits_102 rfl (by decide) ?_
        refine ev_goto (tgt := 36) dX6_fits_105 rfl ?_
        refine ev_iload dX6_fits_36 rfl ?_
        refine ev_iload_n dX6_fits_38 rfl ?_
        refine ev_iload dX6_fits_39 rfl ?_
        refine ev_iadd dX6_fits_41 ?_
        refine ev_icmp_ge (tgt := 108) dX6_fits_42 rfl (fun h42 => ?_) (fun h42 => ?_)
        · refine ev_iload dX6_fits_108 rfl ?_
          exact ev_ireturn (ty := .boolean) dX6_fits_110 rfl rfl (Or.inr ⟨fun q => h86 (by rw [hg i r (by omega) (by omega)]; exact q.2.2 i r hxi (by omega) hr1 (by omega)), rfl, rfl, rfl, rfl⟩)
        · refine ev_iload dX6_fits_45 rfl ?_
          refine ev_if_eq_t (tgt := 108) dX6_fits_47 rfl (by decide) ?_
          refine ev_iload dX6_fits_108 rfl ?_
          exact ev_ireturn (ty := .boolean) dX6_fits_110 rfl rfl (Or.inr ⟨fun q => h86 (by rw [hg i r (by omega) (by omega)]; exact q.2.2 i r hxi (by omega) hr1 (by omega)), rfl, rfl, rfl, rfl⟩)
    · refine ev_iconst (v := 1) dX6_fits_89 rfl ?_
      refine ev_goto (tgt := 94) dX6_fits_90 rfl ?_
      refine ev_istore dX6_fits_94 (by decide) ?_
      refine ev_iincN dX6_fits_96 rfl (by decide) ?_
      refine ev_goto (tgt := 53) dX6_fits_99 rfl ?_
      exact ih hlt (by omega) (fun a h1 h2 => by
        by_cases e : a = i
        · subst e; rw [← hg a r (by omega) (by omega)]; exact h86
        · exact hz a h1 (by omega))
set_option maxRecDepth 100000 in
set_option maxHeartbeats 4000000 in
theorem lp_X6_fits1 {sh : SH} {mi : MI} {mr : MR} (hB : ba_c sh mr) (s : Nat) (hs6 : s < 6) (W H : Nat) (hW : mi 56 s = nI W) (hH : mi 57 s = nI H) (hW12 : W ≤ 12) (hH12 : H ≤ 12) (g : Nat → Nat → Int32) (hg : ∀ x y, x < W → y < H → mi 59 (144 * s + 12 * y + x) = g x y) (x y w h : Nat) (hx : x < 12) (hy : y < 12) (hw : w ≤ 12) (hh : h ≤ 12) (hxw : x + w ≤ W) (hyh : y + h ≤ H) : ∀ r, r ≤ y + h → y ≤ r → (∀ a c, x ≤ a → a < x + w → y ≤ c → c < r → g a c = 0) → EV none 0 0 0 mX6_fits 36 [some (pv_r 29), some (pv_i (nI s)), some (pv_i (nI x)), some (pv_i (nI y)), some (pv_i (nI w)), some (pv_i (nI h)), some (pv_i 1), some (pv_i (nI r)), none] [] sh mi mr (fun v_ sh_ mi_ mr_ => (ft_g W H g x y w h ∧ (ok_r sh mr 1 mi) v_ sh_ mi_ mr_) ∨ (¬ ft_g W H g x y w h ∧ (ok_r sh mr 0 mi) v_ sh_ mi_ mr_)) := by
  refine lp_i (y + h) (fun r hr ih => ?_)
  intro hr1 hz
  refine ev_iload dX6_fits_36 rfl ?_
  refine ev_iload_n dX6_fits_38 rfl ?_
  refine ev_iload dX6_fits_39 rfl ?_
  refine ev_iadd dX6_fits_41 ?_
  refine ev_icmp_ge (tgt := 108) dX6_fits_42 rfl (fun h42 => ?_) (fun h42 => ?_)
  · have hin : y + h ≤ r := (nl_le (nI_add y h) (b := r) rfl (by omega) (by omega)).mp h42
    refine ev_iload dX6_fits_108 rfl ?_
    exact ev_ireturn (ty := .boolean) dX6_fits_110 rfl rfl (Or.inl ⟨⟨hxw, hyh, fun i j h1 h2 h3 h4 => hz i j h1 h2 h3 (by omega)⟩, rfl, rfl, rfl, rfl⟩)
  · have hlt : r < y + h := by have := (not_congr (nl_le (nI_add y h) (b := r) rfl (by omega) (by omega))).mp h42; omega
    refine ev_iload dX6_fits_45 rfl ?_
    refine ev_if_eq_f (tgt := 108) dX6_fits_47 rfl (by decide) ?_
    refine ev_iload_n dX6_fits_50 rfl ?_
    refine ev_istore dX6_fits_51 (by decide) ?_
    refine lp_X6_fits2 hB s hs6 W H hW hH hW12 hH12 g hg x y w h hx hy hw hh hxw hyh r hr1 (by omega) (fun hz2 => ?_) x (by omega) (Nat.le_refl x) (fun a h1 h2 => by omega)
    refine ev_iincN dX6_fits_102 rfl (by decide) ?_
    refine ev_goto (tgt := 36) dX6_fits_105 rfl ?_
    exact ih (by omega) (by omega) (fun a c h1 h2 h3 h4 => by
      by_cases e : c = r
      · subst e; exact hz2 a h1 h2
      · exact hz a c h1 h2 h3 (by omega))
set_option maxRecDepth 100000 in
set_option maxHeartbeats 4000000 in
theorem t_X6_fits {sh : SH} {mi : MI} {mr : MR} (hB : ba_c sh mr) (s : Nat) (hs6 : s < 6) (W H : Nat) (hW : mi 56 s = nI W) (hH : mi 57 s = nI H) (hW12 : W ≤ 12) (hH12 : H ≤ 12) (g : Nat → Nat → Int32) (hg : ∀ x y, x < W → y < H → mi 59 (144 * s + 12 * y + x) = g x y) (x y w h : Nat) (hx : x < 12) (hy : y < 12) (hw : w ≤ 12) (hh : h ≤ 12) : EV none 0 0 0 mX6_fits 0 (en_l mX6_fits [pv_r 29, pv_i (nI s), pv_i (nI x), pv_i (nI y), pv_i (nI w), pv_i (nI h)]) [] sh mi mr (fun v_ sh_ mi_ mr_ => (ft_g W H g x y w h ∧ (ok_r sh mr 1 mi) v_ sh_ mi_ mr_) ∨ (¬ ft_g W H g x y w h ∧ (ok_r sh mr 0 mi) v_ sh_ mi_ mr_)) := by
  show EV none 0 0 0 mX6_fits 0 [some (pv_r 29), some (pv_i (nI s)), some (pv_i (nI x)), some (pv_i (nI y)), some (pv_i (nI w)), some (pv_i (nI h)), none, none, none] [] sh mi mr _
  refine ev_iload_n dX6_fits_0 rfl ?_
  refine ev_iload dX6_fits_1 rfl ?_
  refine ev_iadd dX6_fits_3 ?_
  refine ev_aload_n dX6_fits_4 rfl ?_
  refine ev_getq dX6_fits_5 fl_X6_93 rfl (hB.1 29 _ rfl) (hB.2 29 35 _ rfl) ?_
  refine ev_iload_n dX6_fits_8 rfl ?_
  refine ev_iald dX6_fits_9 (hB.1 56 _ rfl) (j := s) rfl (by omega) (by decide) ?_
  refine ev_icmp_gt (tgt := 30) dX6_fits_10 rfl (fun h10 => ?_) (fun h10 => ?_)
  · refine ev_iconst (v := 0) dX6_fits_30 rfl ?_
    refine ev_istore dX6_fits_31 (by decide) ?_
    refine ev_iload_n dX6_fits_33 rfl ?_
    refine ev_istore dX6_fits_34 (by decide) ?_
    refine ev_iload dX6_fits_36 rfl ?_
    refine ev_iload_n dX6_fits_38 rfl ?_
    refine ev_iload dX6_fits_39 rfl ?_
    refine ev_iadd dX6_fits_41 ?_
    refine ev_icmp_ge (tgt := 108) dX6_fits_42 rfl (fun h42 => ?_) (fun h42 => ?_)
    · refine ev_iload dX6_fits_108 rfl ?_
      exact ev_ireturn (ty := .boolean) dX6_fits_110 rfl rfl (Or.inr ⟨fun q => absurd ((nl_lt hW (nI_add x w) (by omega) (by omega)).mp h10) (by have := q.1; omega), rfl, rfl, rfl, rfl⟩)
    · refine ev_iload dX6_fits_45 rfl ?_
      refine ev_if_eq_t (tgt := 108) dX6_fits_47 rfl (by decide) ?_
      refine ev_iload dX6_fits_108 rfl ?_
      exact ev_ireturn (ty := .boolean) dX6_fits_110 rfl rfl (Or.inr ⟨fun q => absurd ((nl_lt hW (nI_add x w) (by omega) (by omega)).mp h10) (by have := q.1; omega), rfl, rfl, rfl, rfl⟩)
  · refine ev_iload_n dX6_fits_13 rfl ?_
    refine ev_iload dX6_fits_14 rfl ?_
    refine ev_iadd dX6_fits_16 ?_
    refine ev_aload_n dX6_fits_17 rfl ?_
    refine ev_getq dX6_fits_18 fl_X6_96 rfl (hB.1 29 _ rfl) (hB.2 29 36 _ rfl) ?_
    refine ev_iload_n dX6_fits_21 rfl ?_
    refine ev_iald dX6_fits_22 (hB.1 57 _ rfl) (j := s) rfl (by omega) (by decide) ?_
    refine ev_icmp_gt (tgt := 30) dX6_fits_23 rfl (fun h23 => ?_) (fun h23 => ?_)
    · refine ev_iconst (v := 0) dX6_fits_30 rfl ?_
      refine ev_istore dX6_fits_31 (by decide) ?_
      refine ev_iload_n dX6_fits_33 rfl ?_
      refine ev_istore dX6_fits_34 (by decide) ?_
      refine ev_iload dX6_fits_36 rfl ?_
      refine ev_iload_n dX6_fits_38 rfl ?_
      refine ev_iload dX6_fits_39 rfl ?_
      refine ev_iadd dX6_fits_41 ?_
      refine ev_icmp_ge (tgt := 108) dX6_fits_42 rfl (fun h42 => ?_) (fun h42 => ?_)
      · refine ev_iload dX6_fits_108 rfl ?_
        exact ev_ireturn (ty := .boolean) dX6_fits_110 rfl rfl (Or.inr ⟨fun q => absurd ((nl_lt hH (nI_add y h) (by omega) (by omega)).mp h23) (by have := q.2.1; omega), rfl, rfl, rfl, rfl⟩)
      · refine ev_iload dX6_fits_45 rfl ?_
        refine ev_if_eq_t (tgt := 108) dX6_fits_47 rfl (by decide) ?_
        refine ev_iload dX6_fits_108 rfl ?_
        exact ev_ireturn (ty := .boolean) dX6_fits_110 rfl rfl (Or.inr ⟨fun q => absurd ((nl_lt hH (nI_add y h) (by omega) (by omega)).mp h23) (by have := q.2.1; omega), rfl, rfl, rfl, rfl⟩)
    · refine ev_iconst (v := 1) dX6_fits_26 rfl ?_
      refine ev_goto (tgt := 31) dX6_fits_27 rfl ?_
      refine ev_istore dX6_fits_31 (by decide) ?_
      refine ev_iload_n dX6_fits_33 rfl ?_
      refine ev_istore dX6_fits_34 (by decide) ?_
      exact lp_X6_fits1 hB s hs6 W H hW hH hW12 hH12 g hg x y w h hx hy hw hh (by have := (not_congr (nl_lt hW (nI_add x w) (by omega) (by omega))).mp h10; omega) (by have := (not_congr (nl_lt hH (nI_add y h) (by omega) (by omega))).mp h23; omega) y (by omega) (Nat.le_refl y) (fun a c h1 h2 h3 h4 => by omega)
set_option maxRecDepth 100000 in
set_option maxHeartbeats 4000000 in
theorem lp_X6_take2 {sh : SH} {mi : MI} {mr : MR} (hB : ba_c sh mr) (s : Nat) (hs6 : s < 6) (W H : Nat) (hW : mi 56 s = nI W) (hH : mi 57 s = nI H) (hW12 : W ≤ 12) (hH12 : H ≤ 12) (g : Nat → Nat → Int32) (hg : ∀ x y, x < W → y < H → mi 59 (144 * s + 12 * y + x) = g x y) (x y w h : Nat) (hx : x < 12) (hy : y < 12) (hw : w ≤ 12) (hh : h ≤ 12) (C : Nat) (hC : mi 60 s = nI C) (t : Bool) (hxw : x + w ≤ W) (hyh : y + h ≤ H) (r : Nat) (hr1 : y ≤ r) (hr : r < y + h) (hc : ∀ m, gd_c 59 (fun a b => 144 * s + 12 * b + a) W H (pf_g g x y w (nI (2 + C)) r (x + w)) mi m → EV none 0 0 0 mX6_take 57 [some (pv_r 29), some (pv_i (nI s)), some (pv_i (nI x)), some (pv_i (nI y)), some (pv_i (nI w)), some (pv_i (nI h)), some (pv_i (bi (t = true))), some (pv_i (nI r)), none] [] sh m mr (fun v_ sh_ mi_ mr_ => v_ = some (pv_i (nI (cu_n x y t))) ∧ sh_ = sh ∧ mr_ = mr ∧ (∀ a c, a ≠ 59 → ¬ (a = 60 ∧ c = s) → mi_ a c = mi a c) ∧ mi_ 60 s = nI (C + 1) ∧ (∀ a b, a < W → b < H → mi_ 59 (144 * s + 12 * b + a) = fi_g g x y w h (nI (2 + C)) a b) ∧ ∀ c, (∀ a b, a < W → b < H → c ≠ 144 * s + 12 * b + a) → mi_ 59 c = mi 59 c)) : ∀ i, i ≤ x + w → x ≤ i → ∀ m, gd_c 59 (fun a b => 144 * s + 12 * b + a) W H (pf_g g x y w (nI (2 + C)) r i) mi m → EV none 0 0 0 mX6_take 15 [some (pv_r 29), some (pv_i (nI s)), some (pv_i (nI x)), some (pv_i (nI y)), some (pv_i (nI w)), some (pv_i (nI h)), some (pv_i (bi (t = true))), some (pv_i (nI r)), some (pv_i (nI i))] [] sh m mr (fun v_ sh_ mi_ mr_ => v_ = some (pv_i (nI (cu_n x y t))) ∧ sh_ = sh ∧ mr_ = mr ∧ (∀ a c, a ≠ 59 → ¬ (a = 60 ∧ c = s) → mi_ a c = mi a c) ∧ mi_ 60 s = nI (C + 1) ∧ (∀ a b, a < W → b < H → mi_ 59 (144 * s + 12 * b + a) = fi_g g x y w h (nI (2 + C)) a b) ∧ ∀ c, (∀ a b, a < W → b < H → c ≠ 144 * s + 12 * b + a) → mi_ 59 c = mi 59 c) := by
  refine lp_i (x + w) (fun i hi ih => ?_)
  intro hxi m hG
  refine ev_iload dX6_take_15 rfl ?_
  refine ev_iload_n dX6_take_17 rfl ?_
  refine ev_iload dX6_take_18 rfl ?_
  refine ev_iadd dX6_take_20 ?_
  refine ev_icmp_ge (tgt := 57) dX6_take_21 rfl (fun h21 => ?_) (fun h21 => ?_)
  · have hin : x + w ≤ i := (nl_le (nI_add x w) (b := i) rfl (by omega) (by omega)).mp h21
    have e : i = x + w := by omega
    subst e
    exact ev_fg 8 (hc m hG)
  · have hlt : i < x + w := by have := (not_congr (nl_le (nI_add x w) (b := i) rfl (by omega) (by omega))).mp h21; omega
    refine ev_aload_n dX6_take_24 rfl ?_
    refine ev_getq dX6_take_25 fl_X6_102 rfl (hB.1 29 _ rfl) (hB.2 29 38 _ rfl) ?_
    refine ev_sipush (v := 144) dX6_take_28 rfl ?_
    refine ev_iload_n dX6_take_31 rfl ?_
    refine ev_imul dX6_take_32 ?_
    refine ev_bipush (v := 12) dX6_take_33 rfl ?_
    refine ev_iload dX6_take_35 rfl ?_
    refine ev_imul dX6_take_37 ?_
    refine ev_iadd dX6_take_38 ?_
    refine ev_iload dX6_take_39 rfl ?_
    refine ev_iadd dX6_take_41 ?_
    refine ev_iconst (v := 2) dX6_take_42 rfl ?_
    refine ev_aload_n dX6_take_43 rfl ?_
    refine ev_getq dX6_take_44 fl_X6_105 rfl (hB.1 29 _ rfl) (hB.2 29 39 _ rfl) ?_
    refine ev_iload_n dX6_take_47 rfl ?_
    refine ev_iald dX6_take_48 (hB.1 60 _ rfl) (j := s) rfl (by omega) (by decide) ?_
    refine ev_iadd dX6_take_49 ?_
    refine ev_iast dX6_take_50 (hB.1 59 _ rfl) (j := ((144 * s) + (12 * r)) + i) (by simp [up_2, pk_mul, nI_add, n_5, n_6, n_12, n_144]) (by omega) (by decide) ?_
    refine ev_iincN dX6_take_51 rfl (by decide) ?_
    refine ev_goto (tgt := 15) dX6_take_54 rfl ?_
    rw [show (2 : Int32) + m 60 s = nI (2 + C) by rw [hG.1 60 s (by decide), hC, show (2 : Int32) = nI 2 from rfl, nI_add]]
    exact ih hlt (by omega) _ (gd_up (f := (fun a b => 144 * s + 12 * b + a)) (i := i) (j := r) (fun a b ha hb he => by omega) hG (by omega) (by omega) (fun a b _ _ => pf_step hxi a b))
theorem tk_0 {x y : Nat} {t : Bool} (h : bi (t = true) = 0) : some (pv_i ((nI x + 100 * nI y) + 0)) = some (pv_i (nI (cu_n x y t))) := by
  have ht : t = false := by
    have := bi_0.mp h
    simpa using this
  subst ht
  rw [show (100 : Int32) = nI 100 from rfl, show (0 : Int32) = nI 0 from rfl, pk_mul, nI_add, nI_add]
  rfl
theorem tk_1 {x y : Nat} {t : Bool} (h : ¬ bi (t = true) = 0) : some (pv_i ((nI x + 100 * nI y) + 10000)) = some (pv_i (nI (cu_n x y t))) := by
  have ht : t = true := Classical.byContradiction (fun e => h (bi_f e))
  subst ht
  rw [show (100 : Int32) = nI 100 from rfl, show (10000 : Int32) = nI 10000 from rfl, pk_mul, nI_add, nI_add]
  rfl
set_option maxRecDepth 100000 in
set_option maxHeartbeats 4000000 in
theorem lp_X6_take1 {sh : SH} {mi : MI} {mr : MR} (hB : ba_c sh mr) (s : Nat) (hs6 : s < 6) (W H : Nat) (hW : mi 56 s = nI W) (hH : mi 57 s = nI H) (hW12 : W ≤ 12) (hH12 : H ≤ 12) (g : Nat → Nat → Int32) (hg : ∀ x y, x < W → y < H → mi 59 (144 * s + 12 * y + x) = g x y) (x y w h : Nat) (hx : x < 12) (hy : y < 12) (hw : w ≤ 12) (hh : h ≤ 12) (C : Nat) (hC : mi 60 s = nI C) (t : Bool) (hxw : x + w ≤ W) (hyh : y + h ≤ H) : ∀ r, r ≤ y + h → y ≤ r → ∀ m, gd_c 59 (fun a b => 144 * s + 12 * b + a) W H (pf_g g x y w (nI (2 + C)) r x) mi m → EV none 0 0 0 mX6_take 3 [some (pv_r 29), some (pv_i (nI s)), some (pv_i (nI x)), some (pv_i (nI y)), some (pv_i (nI w)), some (pv_i (nI h)), some (pv_i (bi (t = true))), some (pv_i (nI r)), none] [] sh m mr (fun v_ sh_ mi_ mr_ => v_ = some (pv_i (nI (cu_n x y t))) ∧ sh_ = sh ∧ mr_ = mr ∧ (∀ a c, a ≠ 59 → ¬ (a = 60 ∧ c = s) → mi_ a c = mi a c) ∧ mi_ 60 s = nI (C + 1) ∧ (∀ a b, a < W → b < H → mi_ 59 (144 * s + 12 * b + a) = fi_g g x y w h (nI (2 + C)) a b) ∧ ∀ c, (∀ a b, a < W → b < H → c ≠ 144 * s + 12 * b + a) → mi_ 59 c = mi 59 c) := by
  refine lp_i (y + h) (fun r hr ih => ?_)
  intro hr1 m hG
  refine ev_iload dX6_take_3 rfl ?_
  refine ev_iload_n dX6_take_5 rfl ?_
  refine ev_iload dX6_take_6 rfl ?_
  refine ev_iadd dX6_take_8 ?_
  refine ev_icmp_ge (tgt := 63) dX6_take_9 rfl (fun h9 => ?_) (fun h9 => ?_)
  · have hin : y + h ≤ r := (nl_le (nI_add y h) (b := r) rfl (by omega) (by omega)).mp h9
    refine ev_aload_n dX6_take_63 rfl ?_
    refine ev_getq dX6_take_64 fl_X6_105 rfl (hB.1 29 _ rfl) (hB.2 29 39 _ rfl) ?_
    refine ev_iload_n dX6_take_67 rfl ?_
    refine ev_dup2 dX6_take_68 ?_
    refine ev_iald dX6_take_69 (hB.1 60 _ rfl) (j := s) rfl (by omega) (by decide) ?_
    refine ev_iconst (v := 1) dX6_take_70 rfl ?_
    refine ev_iadd dX6_take_71 ?_
    refine ev_iast dX6_take_72 (hB.1 60 _ rfl) (j := s) rfl (by omega) (by decide) ?_
    refine ev_iload_n dX6_take_73 rfl ?_
    refine ev_bipush (v := 100) dX6_take_74 rfl ?_
    refine ev_iload_n dX6_take_76 rfl ?_
    refine ev_imul dX6_take_77 ?_
    refine ev_iadd dX6_take_78 ?_
    refine ev_iload dX6_take_79 rfl ?_
    refine ev_if_eq (tgt := 90) dX6_take_81 rfl (fun h81 => ?_) (fun h81 => ?_)
    · refine ev_iconst (v := 0) dX6_take_90 rfl ?_
      refine ev_iadd dX6_take_91 ?_
      exact ev_ireturn (ty := .int) dX6_take_92 rfl rfl ⟨tk_0 h81, rfl, rfl, fun a c h1 h2 => by rw [show up_2 m 60 s (m 60 s + 1) a c = m a c by simp only [up_2]; rw [if_neg h2]]; exact hG.1 a c h1, by rw [up_at, hG.1 60 s (by decide), hC, nI_1], fun a b ha hb => by rw [up_ne (Or.inl (by decide)), hG.2.1 a b ha hb, pf_all, show y + h = r by omega], fun c hc => by rw [up_ne (Or.inl (by decide))]; exact hG.2.2 c hc⟩
    · refine ev_sipush (v := 10000) dX6_take_84 rfl ?_
      refine ev_goto (tgt := 91) dX6_take_87 rfl ?_
      refine ev_iadd dX6_take_91 ?_
      exact ev_ireturn (ty := .int) dX6_take_92 rfl rfl ⟨tk_1 h81, rfl, rfl, fun a c h1 h2 => by rw [show up_2 m 60 s (m 60 s + 1) a c = m a c by simp only [up_2]; rw [if_neg h2]]; exact hG.1 a c h1, by rw [up_at, hG.1 60 s (by decide), hC, nI_1], fun a b ha hb => by rw [up_ne (Or.inl (by decide)), hG.2.1 a b ha hb, pf_all, show y + h = r by omega], fun c hc => by rw [up_ne (Or.inl (by decide))]; exact hG.2.2 c hc⟩
  · have hlt : r < y + h := by have := (not_congr (nl_le (nI_add y h) (b := r) rfl (by omega) (by omega))).mp h9; omega
    refine ev_iload_n dX6_take_12 rfl ?_
    refine ev_istore dX6_take_13 (by decide) ?_
    refine lp_X6_take2 hB s hs6 W H hW hH hW12 hH12 g hg x y w h hx hy hw hh C hC t hxw hyh r hr1 (by omega) (fun m2 hG2 => ?_) x (by omega) (Nat.le_refl x) m hG
    refine ev_iincN dX6_take_57 rfl (by decide) ?_
    refine ev_goto (tgt := 3) dX6_take_60 rfl ?_
    exact ih (by omega) (by omega) m2 (gd_eq hG2 (fun a b _ _ => pf_row hr1 a b))
set_option maxRecDepth 100000 in
set_option maxHeartbeats 4000000 in
theorem t_X6_take {sh : SH} {mi : MI} {mr : MR} (hB : ba_c sh mr) (s : Nat) (hs6 : s < 6) (W H : Nat) (hW : mi 56 s = nI W) (hH : mi 57 s = nI H) (hW12 : W ≤ 12) (hH12 : H ≤ 12) (g : Nat → Nat → Int32) (hg : ∀ x y, x < W → y < H → mi 59 (144 * s + 12 * y + x) = g x y) (x y w h : Nat) (hx : x < 12) (hy : y < 12) (hw : w ≤ 12) (hh : h ≤ 12) (C : Nat) (hC : mi 60 s = nI C) (t : Bool) (hxw : x + w ≤ W) (hyh : y + h ≤ H) : EV none 0 0 0 mX6_take 0 (en_l mX6_take [pv_r 29, pv_i (nI s), pv_i (nI x), pv_i (nI y), pv_i (nI w), pv_i (nI h), pv_i (bi (t = true))]) [] sh mi mr (fun v_ sh_ mi_ mr_ => v_ = some (pv_i (nI (cu_n x y t))) ∧ sh_ = sh ∧ mr_ = mr ∧ (∀ a c, a ≠ 59 → ¬ (a = 60 ∧ c = s) → mi_ a c = mi a c) ∧ mi_ 60 s = nI (C + 1) ∧ (∀ a b, a < W → b < H → mi_ 59 (144 * s + 12 * b + a) = fi_g g x y w h (nI (2 + C)) a b) ∧ ∀ c, (∀ a b, a < W → b < H → c ≠ 144 * s + 12 * b + a) → mi_ 59 c = mi 59 c) := by
  show EV none 0 0 0 mX6_take 0 [some (pv_r 29), some (pv_i (nI s)), some (pv_i (nI x)), some (pv_i (nI y)), some (pv_i (nI w)), some (pv_i (nI h)), some (pv_i (bi (t = true))), none, none] [] sh mi mr _
  refine ev_iload_n dX6_take_0 rfl ?_
  refine ev_istore dX6_take_1 (by decide) ?_
  exact lp_X6_take1 hB s hs6 W H hW hH hW12 hH12 g hg x y w h hx hy hw hh C hC t hxw hyh y (by omega) (Nat.le_refl y) mi ⟨fun _ _ _ => rfl, fun a b ha hb => by rw [pf_0]; exact hg a b ha hb, fun _ _ => rfl⟩
set_option maxRecDepth 100000 in
set_option maxHeartbeats 4000000 in
theorem lp_X6_cutOf2 {sh : SH} {mi : MI} {mr : MR} (hB : ba_c sh mr) (s : Nat) (hs6 : s < 6) (W H : Nat) (hW : mi 56 s = nI W) (hH : mi 57 s = nI H) (hW12 : W ≤ 12) (hH12 : H ≤ 12) (g : Nat → Nat → Int32) (hg : ∀ x y, x < W → y < H → mi 59 (144 * s + 12 * y + x) = g x y) (w h : Nat) (hw : w ≤ 12) (hh : h ≤ 12) (C : Nat) (hC : mi 60 s = nI C) (y : Nat) (hy : y < H) (hc : ea_g W H g w h 0 (y + 1) → EV none 1 0 0 mX6_cutOf 88 [some (pv_r 29), some (pv_i (nI s)), some (pv_i (nI w)), some (pv_i (nI h)), some (pv_i (nI y)), none] [] sh mi mr (fun v_ sh_ mi_ mr_ => sh_ = sh ∧ mr_ = mr ∧ ((no_g W H g w h ∧ v_ = some (pv_i (-1)) ∧ mi_ = mi) ∨ (∃ x y t, cu_g W H g w h x y t ∧ v_ = some (pv_i (nI (cu_n x y t))) ∧ (∀ a c, a ≠ 59 → ¬ (a = 60 ∧ c = s) → mi_ a c = mi a c) ∧ mi_ 60 s = nI (C + 1) ∧ (∀ a b, a < W → b < H → mi_ 59 (144 * s + 12 * b + a) = cu_f g w h x y t (nI (2 + C)) a b) ∧ ∀ c, (∀ a b, a < W → b < H → c ≠ 144 * s + 12 * b + a) → mi_ 59 c = mi 59 c)))) : ∀ x, x ≤ W → ea_g W H g w h x y → EV none 1 0 0 mX6_cutOf 17 [some (pv_r 29), some (pv_i (nI s)), some (pv_i (nI w)), some (pv_i (nI h)), some (pv_i (nI y)), some (pv_i (nI x))] [] sh mi mr (fun v_ sh_ mi_ mr_ => sh_ = sh ∧ mr_ = mr ∧ ((no_g W H g w h ∧ v_ = some (pv_i (-1)) ∧ mi_ = mi) ∨ (∃ x y t, cu_g W H g w h x y t ∧ v_ = some (pv_i (nI (cu_n x y t))) ∧ (∀ a c, a ≠ 59 → ¬ (a = 60 ∧ c = s) → mi_ a c = mi a c) ∧ mi_ 60 s = nI (C + 1) ∧ (∀ a b, a < W → b < H → mi_ 59 (144 * s + 12 * b + a) = cu_f g w h x y t (nI (2 + C)) a b) ∧ ∀ c, (∀ a b, a < W → b < H → c ≠ 144 * s + 12 * b + a) → mi_ 59 c = mi 59 c))) := by
  refine lp_i W (fun x hx ih => ?_)
  intro hea
  refine ev_iload dX6_cutOf_17 rfl ?_
  refine ev_aload_n dX6_cutOf_19 rfl ?_
  refine ev_getq dX6_cutOf_20 fl_X6_93 rfl (hB.1 29 _ rfl) (hB.2 29 35 _ rfl) ?_
  refine ev_iload_n dX6_cutOf_23 rfl ?_
  refine ev_iald dX6_cutOf_24 (hB.1 56 _ rfl) (j := s) rfl (by omega) (by decide) ?_
  refine ev_icmp_ge (tgt := 88) dX6_cutOf_25 rfl (fun h25 => ?_) (fun h25 => ?_)
  · have hin : W ≤ x := (nl_le hW (b := x) rfl (by omega) (by omega)).mp h25
    exact ev_fg 5 (hc (ea_r hea hin))
  · have hlt : x < W := by have := (not_congr (nl_le hW (b := x) rfl (by omega) (by omega))).mp h25; omega
    refine ev_aload_n dX6_cutOf_28 rfl ?_
    refine ev_iload_n dX6_cutOf_29 rfl ?_
    refine ev_iload dX6_cutOf_30 rfl ?_
    refine ev_iload dX6_cutOf_32 rfl ?_
    refine ev_iload_n dX6_cutOf_34 rfl ?_
    refine ev_iload_n dX6_cutOf_35 rfl ?_
    refine ev_callv (av := [pv_i (nI s), pv_i (nI x), pv_i (nI y), pv_i (nI w), pv_i (nI h)]) dX6_cutOf_36 cv_X6_197 (hB.1 29 _ rfl) rfl rfl (Nat.le_of_ble_eq_true rfl) (by decide) (Or.inl (fun v_ s_ m_ r_ h_ => by rcases h_ with ⟨_, _, e_, _, _⟩ | ⟨_, _, e_, _, _⟩ <;> rw [e_])) (Nat.zero_add _) (Nat.zero_add _) (t_X6_fits hB s hs6 W H hW hH hW12 hH12 g hg x y w h (by omega) (by omega) (by omega) (by omega)) ?_
    rintro v_ sh_ mi_ mr_ (⟨qa, e1_, e2_, e3_, e4_⟩ | ⟨qbw, e1_, e2_, e3_, e4_⟩)
    · subst e1_
      have e2_ := e2_.symm
      subst e2_
      have e3_ := e3_.symm
      subst e3_
      have e4_ := e4_.symm
      subst e4_
      refine ev_if_eq_f (tgt := 55) dX6_cutOf_39 rfl (by decide) ?_
      refine ev_aload_n dX6_cutOf_42 rfl ?_
      refine ev_iload_n dX6_cutOf_43 rfl ?_
      refine ev_iload dX6_cutOf_44 rfl ?_
      refine ev_iload dX6_cutOf_46 rfl ?_
      refine ev_iload_n dX6_cutOf_48 rfl ?_
      refine ev_iload_n dX6_cutOf_49 rfl ?_
      refine ev_iconst (v := 0) dX6_cutOf_50 rfl ?_
      refine ev_callv (av := [pv_i (nI s), pv_i (nI x), pv_i (nI y), pv_i (nI w), pv_i (nI h), pv_i 0]) dX6_cutOf_51 cv_X6_201 (hB.1 29 _ rfl) rfl rfl (Nat.le_of_ble_eq_true rfl) (by decide) (Or.inl (fun v_ s_ m_ r_ h_ => by rw [h_.2.1])) (Nat.zero_add _) (Nat.zero_add _) (t_X6_take hB s hs6 W H hW hH hW12 hH12 g hg x y w h (by omega) (by omega) (by omega) (by omega) C hC false qa.1 qa.2.1) ?_
      rintro v_ sh_ m1 mr_ ⟨e1_, e2_, e3_, hA, hA2, hA3, hA4⟩
      subst e1_
      have e2_ := e2_.symm
      subst e2_
      have e3_ := e3_.symm
      subst e3_
      exact ev_ireturn (ty := .int) dX6_cutOf_54 rfl rfl ⟨rfl, rfl, Or.inr ⟨x, y, false, ⟨hlt, hy, hea, fun _ => qa, (fun e => by cases e)⟩, rfl, hA, hA2, hA3, hA4⟩⟩
    · subst e1_
      have e2_ := e2_.symm
      subst e2_
      have e3_ := e3_.symm
      subst e3_
      have e4_ := e4_.symm
      subst e4_
      refine ev_if_eq_t (tgt := 55) dX6_cutOf_39 rfl (by decide) ?_
      refine ev_aload_n dX6_cutOf_55 rfl ?_
      refine ev_iload_n dX6_cutOf_56 rfl ?_
      refine ev_iload dX6_cutOf_57 rfl ?_
      refine ev_iload dX6_cutOf_59 rfl ?_
      refine ev_iload_n dX6_cutOf_61 rfl ?_
      refine ev_iload_n dX6_cutOf_62 rfl ?_
      refine ev_callv (av := [pv_i (nI s), pv_i (nI x), pv_i (nI y), pv_i (nI h), pv_i (nI w)]) dX6_cutOf_63 cv_X6_197 (hB.1 29 _ rfl) rfl rfl (Nat.le_of_ble_eq_true rfl) (by decide) (Or.inl (fun v_ s_ m_ r_ h_ => by rcases h_ with ⟨_, _, e_, _, _⟩ | ⟨_, _, e_, _, _⟩ <;> rw [e_])) (Nat.zero_add _) (Nat.zero_add _) (t_X6_fits hB s hs6 W H hW hH hW12 hH12 g hg x y h w (by omega) (by omega) (by omega) (by omega)) ?_
      rintro v_ sh_ mi_ mr_ (⟨qa, e1_, e2_, e3_, e4_⟩ | ⟨qbh, e1_, e2_, e3_, e4_⟩)
      · subst e1_
        have e2_ := e2_.symm
        subst e2_
        have e3_ := e3_.symm
        subst e3_
        have e4_ := e4_.symm
        subst e4_
        refine ev_if_eq_f (tgt := 82) dX6_cutOf_66 rfl (by decide) ?_
        refine ev_aload_n dX6_cutOf_69 rfl ?_
        refine ev_iload_n dX6_cutOf_70 rfl ?_
        refine ev_iload dX6_cutOf_71 rfl ?_
        refine ev_iload dX6_cutOf_73 rfl ?_
        refine ev_iload_n dX6_cutOf_75 rfl ?_
        refine ev_iload_n dX6_cutOf_76 rfl ?_
        refine ev_iconst (v := 1) dX6_cutOf_77 rfl ?_
        refine ev_callv (av := [pv_i (nI s), pv_i (nI x), pv_i (nI y), pv_i (nI h), pv_i (nI w), pv_i 1]) dX6_cutOf_78 cv_X6_201 (hB.1 29 _ rfl) rfl rfl (Nat.le_of_ble_eq_true rfl) (by decide) (Or.inl (fun v_ s_ m_ r_ h_ => by rw [h_.2.1])) (Nat.zero_add _) (Nat.zero_add _) (t_X6_take hB s hs6 W H hW hH hW12 hH12 g hg x y h w (by omega) (by omega) (by omega) (by omega) C hC true qa.1 qa.2.1) ?_
        rintro v_ sh_ m1 mr_ ⟨e1_, e2_, e3_, hA, hA2, hA3, hA4⟩
        subst e1_
        have e2_ := e2_.symm
        subst e2_
        have e3_ := e3_.symm
        subst e3_
        exact ev_ireturn (ty := .int) dX6_cutOf_81 rfl rfl ⟨rfl, rfl, Or.inr ⟨x, y, true, ⟨hlt, hy, hea, (fun e => by cases e), fun _ => ⟨qbw, qa⟩⟩, rfl, hA, hA2, hA3, hA4⟩⟩
      · subst e1_
        have e2_ := e2_.symm
        subst e2_
        have e3_ := e3_.symm
        subst e3_
        have e4_ := e4_.symm
        subst e4_
        refine ev_if_eq_t (tgt := 82) dX6_cutOf_66 rfl (by decide) ?_
        refine ev_iincN dX6_cutOf_82 rfl (by decide) ?_
        refine ev_goto (tgt := 17) dX6_cutOf_85 rfl ?_
        exact ih hlt (ea_s hea qbw qbh)
set_option maxRecDepth 100000 in
set_option maxHeartbeats 4000000 in
theorem lp_X6_cutOf1 {sh : SH} {mi : MI} {mr : MR} (hB : ba_c sh mr) (s : Nat) (hs6 : s < 6) (W H : Nat) (hW : mi 56 s = nI W) (hH : mi 57 s = nI H) (hW12 : W ≤ 12) (hH12 : H ≤ 12) (g : Nat → Nat → Int32) (hg : ∀ x y, x < W → y < H → mi 59 (144 * s + 12 * y + x) = g x y) (w h : Nat) (hw : w ≤ 12) (hh : h ≤ 12) (C : Nat) (hC : mi 60 s = nI C) : ∀ y, y ≤ H → ea_g W H g w h 0 y → EV none 1 0 0 mX6_cutOf 3 [some (pv_r 29), some (pv_i (nI s)), some (pv_i (nI w)), some (pv_i (nI h)), some (pv_i (nI y)), none] [] sh mi mr (fun v_ sh_ mi_ mr_ => sh_ = sh ∧ mr_ = mr ∧ ((no_g W H g w h ∧ v_ = some (pv_i (-1)) ∧ mi_ = mi) ∨ (∃ x y t, cu_g W H g w h x y t ∧ v_ = some (pv_i (nI (cu_n x y t))) ∧ (∀ a c, a ≠ 59 → ¬ (a = 60 ∧ c = s) → mi_ a c = mi a c) ∧ mi_ 60 s = nI (C + 1) ∧ (∀ a b, a < W → b < H → mi_ 59 (144 * s + 12 * b + a) = cu_f g w h x y t (nI (2 + C)) a b) ∧ ∀ c, (∀ a b, a < W → b < H → c ≠ 144 * s + 12 * b + a) → mi_ 59 c = mi 59 c))) := by
  refine lp_i H (fun y hy ih => ?_)
  intro hea
  refine ev_iload dX6_cutOf_3 rfl ?_
  refine ev_aload_n dX6_cutOf_5 rfl ?_
  refine ev_getq dX6_cutOf_6 fl_X6_96 rfl (hB.1 29 _ rfl) (hB.2 29 36 _ rfl) ?_
  refine ev_iload_n dX6_cutOf_9 rfl ?_
  refine ev_iald dX6_cutOf_10 (hB.1 57 _ rfl) (j := s) rfl (by omega) (by decide) ?_
  refine ev_icmp_ge (tgt := 94) dX6_cutOf_11 rfl (fun h11 => ?_) (fun h11 => ?_)
  · have hin : H ≤ y := (nl_le hH (b := y) rfl (by omega) (by omega)).mp h11
    refine ev_iconst (v := (-1)) dX6_cutOf_94 rfl ?_
    exact ev_ireturn (ty := .int) dX6_cutOf_95 rfl rfl ⟨rfl, rfl, Or.inl ⟨fun a b ha hb => hea a b ha hb (by omega), rfl, rfl⟩⟩
  · have hlt : y < H := by have := (not_congr (nl_le hH (b := y) rfl (by omega) (by omega))).mp h11; omega
    refine ev_iconst (v := 0) dX6_cutOf_14 rfl ?_
    refine ev_istore dX6_cutOf_15 (by decide) ?_
    refine lp_X6_cutOf2 hB s hs6 W H hW hH hW12 hH12 g hg w h hw hh C hC y hlt (fun hea2 => ?_) 0 (Nat.zero_le W) hea
    refine ev_iincN dX6_cutOf_88 rfl (by decide) ?_
    refine ev_goto (tgt := 3) dX6_cutOf_91 rfl ?_
    exact ih hlt hea2
set_option maxRecDepth 100000 in
set_option maxHeartbeats 4000000 in
theorem t_X6_cutOf {sh : SH} {mi : MI} {mr : MR} (hB : ba_c sh mr) (s : Nat) (hs6 : s < 6) (W H : Nat) (hW : mi 56 s = nI W) (hH : mi 57 s = nI H) (hW12 : W ≤ 12) (hH12 : H ≤ 12) (g : Nat → Nat → Int32) (hg : ∀ x y, x < W → y < H → mi 59 (144 * s + 12 * y + x) = g x y) (w h : Nat) (hw : w ≤ 12) (hh : h ≤ 12) (C : Nat) (hC : mi 60 s = nI C) : EV none 1 0 0 mX6_cutOf 0 (en_l mX6_cutOf [pv_r 29, pv_i (nI s), pv_i (nI w), pv_i (nI h)]) [] sh mi mr (fun v_ sh_ mi_ mr_ => sh_ = sh ∧ mr_ = mr ∧ ((no_g W H g w h ∧ v_ = some (pv_i (-1)) ∧ mi_ = mi) ∨ (∃ x y t, cu_g W H g w h x y t ∧ v_ = some (pv_i (nI (cu_n x y t))) ∧ (∀ a c, a ≠ 59 → ¬ (a = 60 ∧ c = s) → mi_ a c = mi a c) ∧ mi_ 60 s = nI (C + 1) ∧ (∀ a b, a < W → b < H → mi_ 59 (144 * s + 12 * b + a) = cu_f g w h x y t (nI (2 + C)) a b) ∧ ∀ c, (∀ a b, a < W → b < H → c ≠ 144 * s + 12 * b + a) → mi_ 59 c = mi 59 c))) := by
  show EV none 1 0 0 mX6_cutOf 0 [some (pv_r 29), some (pv_i (nI s)), some (pv_i (nI w)), some (pv_i (nI h)), none, none] [] sh mi mr _
  refine ev_iconst (v := 0) dX6_cutOf_0 rfl ?_
  refine ev_istore dX6_cutOf_1 (by decide) ?_
  exact lp_X6_cutOf1 hB s hs6 W H hW hH hW12 hH12 g hg w h hw hh C hC 0 (Nat.zero_le H) (fun a b ha hb hab => by omega)
set_option maxRecDepth 100000 in
set_option maxHeartbeats 4000000 in
theorem t_X6_cut_o {sh : SH} {mi : MI} {mr : MR} (hB : ba_c sh mr) (ns : Nat) (hns : mi 29 34 = nI ns) (hns6 : ns ≤ 6) (s : Nat) (hs : s < ns) (p2 p3 : Int32) (hv : ¬ ((1 ≤ p2 ∧ p2 ≤ 12) ∧ 1 ≤ p3 ∧ p3 ≤ 12)) : EV none 2 0 0 mX6_cut 0 (en_l mX6_cut [pv_r 29, pv_i (nI s), pv_i p2, pv_i p3]) [] sh mi mr (ok_r sh mr (-3) mi) := by
  show EV none 2 0 0 mX6_cut 0 [some (pv_r 29), some (pv_i (nI s)), some (pv_i p2), some (pv_i p3), none] [] sh mi mr _
  refine ev_aload_n dX6_cut_0 rfl ?_
  refine ev_iload_n dX6_cut_1 rfl ?_
  refine ev_v1i dX6_cut_2 cv_X6_191 (hB.1 29 _ rfl) (Nat.le_of_ble_eq_true rfl) (by decide) (t_X6_isSkin hB _) ?_
  refine ev_if_ne_t (tgt := 11) dX6_cut_5 rfl (by rw [bi_1 (by rw [hns]; exact (i_cases (by omega)).mpr ⟨s, hs, rfl⟩)]; decide) ?_
  refine ev_iload_n dX6_cut_11 rfl ?_
  refine ev_iconst (v := 1) dX6_cut_12 rfl ?_
  refine ev_bipush (v := 12) dX6_cut_13 rfl ?_
  refine ev_s3i dX6_cut_15 cs_X6_129 (Nat.le_of_ble_eq_true rfl) (by decide) (t_X6_in _ _ _) ?_
  refine ev_ifb_eq (tgt := 31) dX6_cut_18 rfl (fun h18 => ?_) (fun h18 => ?_)
  · refine ev_bipush (v := (-3)) dX6_cut_31 rfl ?_
    exact ev_ireturn (ty := .int) dX6_cut_33 rfl rfl ⟨rfl, rfl, rfl, rfl⟩
  · refine ev_iload_n dX6_cut_21 rfl ?_
    refine ev_iconst (v := 1) dX6_cut_22 rfl ?_
    refine ev_bipush (v := 12) dX6_cut_23 rfl ?_
    refine ev_s3i dX6_cut_25 cs_X6_129 (Nat.le_of_ble_eq_true rfl) (by decide) (t_X6_in _ _ _) ?_
    refine ev_ifb_ne (tgt := 34) dX6_cut_28 rfl (fun h28 => ?_) (fun h28 => ?_)
    · exact absurd ⟨h18, h28⟩ hv
    · refine ev_bipush (v := (-3)) dX6_cut_31 rfl ?_
      exact ev_ireturn (ty := .int) dX6_cut_33 rfl rfl ⟨rfl, rfl, rfl, rfl⟩
set_option maxRecDepth 100000 in
set_option maxHeartbeats 4000000 in
theorem t_X6_cut_k {sh : SH} {mi : MI} {mr : MR} (hB : ba_c sh mr) (ns : Nat) (hns : mi 29 34 = nI ns) (hns6 : ns ≤ 6) (s : Nat) (hs : s < ns) (W H : Nat) (hW : mi 56 s = nI W) (hH : mi 57 s = nI H) (hW12 : W ≤ 12) (hH12 : H ≤ 12) (g : Nat → Nat → Int32) (hg : ∀ x y, x < W → y < H → mi 59 (144 * s + 12 * y + x) = g x y) (w h : Nat) (hw : w ≤ 12) (hh : h ≤ 12) (hw1 : 1 ≤ w) (hh1 : 1 ≤ h) (C : Nat) (hC : mi 60 s = nI C) : EV none 2 0 0 mX6_cut 0 (en_l mX6_cut [pv_r 29, pv_i (nI s), pv_i (nI w), pv_i (nI h)]) [] sh mi mr (fun v_ sh_ mi_ mr_ => sh_ = sh ∧ mr_ = mr ∧ ((no_g W H g w h ∧ v_ = some (pv_i (-4)) ∧ mi_ = mi) ∨ (∃ x y t, cu_g W H g w h x y t ∧ v_ = some (pv_i (nI (cu_n x y t))) ∧ (∀ a c, a ≠ 59 → ¬ (a = 60 ∧ c = s) → mi_ a c = mi a c) ∧ mi_ 60 s = nI (C + 1) ∧ (∀ a b, a < W → b < H → mi_ 59 (144 * s + 12 * b + a) = cu_f g w h x y t (nI (2 + C)) a b) ∧ ∀ c, (∀ a b, a < W → b < H → c ≠ 144 * s + 12 * b + a) → mi_ 59 c = mi 59 c))) := by
  show EV none 2 0 0 mX6_cut 0 [some (pv_r 29), some (pv_i (nI s)), some (pv_i (nI w)), some (pv_i (nI h)), none] [] sh mi mr _
  refine ev_aload_n dX6_cut_0 rfl ?_
  refine ev_iload_n dX6_cut_1 rfl ?_
  refine ev_v1i dX6_cut_2 cv_X6_191 (hB.1 29 _ rfl) (Nat.le_of_ble_eq_true rfl) (by decide) (t_X6_isSkin hB _) ?_
  refine ev_if_ne_t (tgt := 11) dX6_cut_5 rfl (by rw [bi_1 (by rw [hns]; exact (i_cases (by omega)).mpr ⟨s, hs, rfl⟩)]; decide) ?_
  refine ev_iload_n dX6_cut_11 rfl ?_
  refine ev_iconst (v := 1) dX6_cut_12 rfl ?_
  refine ev_bipush (v := 12) dX6_cut_13 rfl ?_
  refine ev_s3i dX6_cut_15 cs_X6_129 (Nat.le_of_ble_eq_true rfl) (by decide) (t_X6_in _ _ _) ?_
  refine ev_if_eq_f (tgt := 31) dX6_cut_18 rfl (by rw [bi_1 (show (1 : Int32) ≤ nI w ∧ nI w ≤ 12 from i_lh (lo := 1) (hi := 12) hw1 hw (by decide))]; decide) ?_
  refine ev_iload_n dX6_cut_21 rfl ?_
  refine ev_iconst (v := 1) dX6_cut_22 rfl ?_
  refine ev_bipush (v := 12) dX6_cut_23 rfl ?_
  refine ev_s3i dX6_cut_25 cs_X6_129 (Nat.le_of_ble_eq_true rfl) (by decide) (t_X6_in _ _ _) ?_
  refine ev_if_ne_t (tgt := 34) dX6_cut_28 rfl (by rw [bi_1 (show (1 : Int32) ≤ nI h ∧ nI h ≤ 12 from i_lh (lo := 1) (hi := 12) hh1 hh (by decide))]; decide) ?_
  refine ev_aload_n dX6_cut_34 rfl ?_
  refine ev_iload_n dX6_cut_35 rfl ?_
  refine ev_iload_n dX6_cut_36 rfl ?_
  refine ev_iload_n dX6_cut_37 rfl ?_
  refine ev_callv (av := [pv_i (nI s), pv_i (nI w), pv_i (nI h)]) dX6_cut_38 cv_X6_205 (hB.1 29 _ rfl) rfl rfl (Nat.le_of_ble_eq_true rfl) (by decide) (Or.inl (fun v_ s_ m_ r_ h_ => by rw [h_.1])) (Nat.zero_add _) (Nat.zero_add _) (t_X6_cutOf hB s (by omega) W H hW hH hW12 hH12 g hg w h hw hh C hC) ?_
  rintro v_ sh_ m1 mr_ ⟨e2_, e3_, h_⟩
  have e2_ := e2_.symm
  subst e2_
  have e3_ := e3_.symm
  subst e3_
  rcases h_ with ⟨hno, e1_, e4_⟩ | ⟨x, y, t, hcu, e1_, hA, hA2, hA3, hA4⟩
  · subst e1_
    have e4_ := e4_.symm
    subst e4_
    refine ev_istore dX6_cut_41 (by decide) ?_
    refine ev_iload dX6_cut_43 rfl ?_
    refine ev_iconst (v := (-1)) dX6_cut_45 rfl ?_
    refine ev_icmp_ne_f (tgt := 54) dX6_cut_46 rfl (by decide) ?_
    refine ev_bipush (v := (-4)) dX6_cut_49 rfl ?_
    refine ev_goto (tgt := 56) dX6_cut_51 rfl ?_
    exact ev_ireturn (ty := .int) dX6_cut_56 rfl rfl ⟨rfl, rfl, Or.inl ⟨hno, rfl, rfl⟩⟩
  · subst e1_
    refine ev_istore dX6_cut_41 (by decide) ?_
    refine ev_iload dX6_cut_43 rfl ?_
    refine ev_iconst (v := (-1)) dX6_cut_45 rfl ?_
    refine ev_icmp_ne_t (tgt := 54) dX6_cut_46 rfl (nI_m1 (by have := cu_lt hW12 hH12 hcu; omega)) ?_
    refine ev_iload dX6_cut_54 rfl ?_
    exact ev_ireturn (ty := .int) dX6_cut_56 rfl rfl ⟨rfl, rfl, Or.inr ⟨x, y, t, hcu, rfl, hA, hA2, hA3, hA4⟩⟩
