/-- how many of the lowest i bits -/
def mn (x : Int32) : Nat → Int32
  | 0 => 0
  | i + 1 => mn x i + ((x >>> (nI i &&& 31)) &&& 1)
set_option maxRecDepth 100000 in
set_option maxHeartbeats 4000000 in
theorem lp_X6_many {sh : SH} {mi : MI} {mr : MR} (x : Int32) : ∀ i, i ≤ 16 → EV none 0 0 0 mX6_many 4 [some (pv_i x), some (pv_i (mn x i)), some (pv_i (nI i))] [] sh mi mr (ok_r sh mr (mn x 16) mi) := by
  refine lp_i 16 (fun i hi ih => ?_)
  refine ev_iload_n dX6_many_4 rfl ?_
  refine ev_bipush (v := 16) dX6_many_5 rfl ?_
  refine ev_icmp_ge (tgt := 24) dX6_many_7 rfl (fun h7 => ?_) (fun h7 => ?_)
  · have hin : i = 16 := by have := (nl_le (x := 16) (a := 16) rfl (b := i) rfl (by omega) (by omega)).mp h7; omega
    subst hin
    refine ev_iload_n dX6_many_24 rfl ?_
    exact ev_ireturn (ty := .int) dX6_many_25 rfl rfl ⟨rfl, rfl, rfl, rfl⟩
  · have hlt : i < 16 := by have := (not_congr (nl_le (x := 16) (a := 16) rfl (b := i) rfl (by omega) (by omega))).mp h7; omega
    refine ev_iload_n dX6_many_10 rfl ?_
    refine ev_iload_n dX6_many_11 rfl ?_
    refine ev_iload_n dX6_many_12 rfl ?_
    refine ev_ishr dX6_many_13 ?_
    refine ev_iconst (v := 1) dX6_many_14 rfl ?_
    refine ev_iand dX6_many_15 ?_
    refine ev_iadd dX6_many_16 ?_
    refine ev_istore_n dX6_many_17 (by decide) ?_
    refine ev_iincN dX6_many_18 rfl (by decide) ?_
    refine ev_goto (tgt := 4) dX6_many_21 rfl ?_
    exact ih hlt
set_option maxRecDepth 100000 in
set_option maxHeartbeats 4000000 in
theorem t_X6_many {sh : SH} {mi : MI} {mr : MR} (x : Int32) : EV none 0 0 0 mX6_many 0 (en_l mX6_many [pv_i x]) [] sh mi mr (ok_r sh mr (mn x 16) mi) := by
  show EV none 0 0 0 mX6_many 0 [some (pv_i x), none, none] [] sh mi mr _
  refine ev_iconst (v := 0) dX6_many_0 rfl ?_
  refine ev_istore_n dX6_many_1 (by decide) ?_
  refine ev_iconst (v := 0) dX6_many_2 rfl ?_
  refine ev_istore_n dX6_many_3 (by decide) ?_
  exact lp_X6_many x 0 (by decide)
set_option maxRecDepth 100000 in
set_option maxHeartbeats 4000000 in
theorem t_X6_isBook {sh : SH} {mi : MI} {mr : MR} (hB : ba_c sh mr) (p1 : Int32) : EV none 1 0 0 mX6_isBook 0 (en_l mX6_isBook [pv_r 29, pv_i p1]) [] sh mi mr (ok_r sh mr (bi (0 ≤ p1 ∧ p1 ≤ ((mi 29 1) - 1))) mi) := by
  show EV none 1 0 0 mX6_isBook 0 [some (pv_r 29), some (pv_i p1)] [] sh mi mr _
  refine ev_iload_n dX6_isBook_0 rfl ?_
  refine ev_iconst (v := 0) dX6_isBook_1 rfl ?_
  refine ev_aload_n dX6_isBook_2 rfl ?_
  refine ev_geti dX6_isBook_3 fl_X6_126 rfl (hB.1 29 _ rfl) ?_
  refine ev_iconst (v := 1) dX6_isBook_6 rfl ?_
  refine ev_isub dX6_isBook_7 ?_
  refine ev_s3i dX6_isBook_8 cs_X6_129 (Nat.le_of_ble_eq_true rfl) (by decide) (t_X6_in _ _ _) ?_
  exact ev_ireturn (ty := .boolean) dX6_isBook_11 rfl bi_nar ⟨rfl, rfl, rfl, rfl⟩
set_option maxRecDepth 100000 in
set_option maxHeartbeats 4000000 in
theorem t_X6_isGathering_u {sh : SH} {mi : MI} {mr : MR} (hB : ba_c sh mr) (p1 p2 : Int32) (hu : ¬ (0 ≤ p1 ∧ p1 ≤ (mi 29 1) - 1)) : EV none 2 0 0 mX6_isGathering 0 (en_l mX6_isGathering [pv_r 29, pv_i p1, pv_i p2]) [] sh mi mr (ok_r sh mr 0 mi) := by
  show EV none 2 0 0 mX6_isGathering 0 [some (pv_r 29), some (pv_i p1), some (pv_i p2)] [] sh mi mr _
  refine ev_aload_n dX6_isGathering_0 rfl ?_
  refine ev_iload_n dX6_isGathering_1 rfl ?_
  refine ev_v1i dX6_isGathering_2 cv_X6_133 (hB.1 29 _ rfl) (Nat.le_of_ble_eq_true rfl) (by decide) (t_X6_isBook hB _) ?_
  refine ev_if_eq_t (tgt := 28) dX6_isGathering_5 rfl (bi_f hu) ?_
  refine ev_iconst (v := 0) dX6_isGathering_28 rfl ?_
  exact ev_ireturn (ty := .boolean) dX6_isGathering_29 rfl rfl ⟨rfl, rfl, rfl, rfl⟩
set_option maxRecDepth 100000 in
set_option maxHeartbeats 4000000 in
theorem t_X6_isGathering_g {sh : SH} {mi : MI} {mr : MR} (hB : ba_c sh mr) (nb : Nat) (hnb : mi 29 1 = nI nb) (hnb10 : nb ≤ 10) (b : Nat) (hb : b < nb) (p2 : Int32) (hv : ¬ (0 ≤ p2 ∧ p2 ≤ (mi 31 b) - 1)) : EV none 2 0 0 mX6_isGathering 0 (en_l mX6_isGathering [pv_r 29, pv_i (nI b), pv_i p2]) [] sh mi mr (ok_r sh mr 0 mi) := by
  show EV none 2 0 0 mX6_isGathering 0 [some (pv_r 29), some (pv_i (nI b)), some (pv_i p2)] [] sh mi mr _
  refine ev_aload_n dX6_isGathering_0 rfl ?_
  refine ev_iload_n dX6_isGathering_1 rfl ?_
  refine ev_v1i dX6_isGathering_2 cv_X6_133 (hB.1 29 _ rfl) (Nat.le_of_ble_eq_true rfl) (by decide) (t_X6_isBook hB _) ?_
  refine ev_if_eq_f (tgt := 28) dX6_isGathering_5 rfl (by rw [bi_1 (by rw [hnb]; exact (i_cases (by omega)).mpr ⟨b, hb, rfl⟩)]; decide) ?_
  refine ev_iload_n dX6_isGathering_8 rfl ?_
  refine ev_iconst (v := 0) dX6_isGathering_9 rfl ?_
  refine ev_aload_n dX6_isGathering_10 rfl ?_
  refine ev_getq dX6_isGathering_11 fl_X6_13 rfl (hB.1 29 _ rfl) (hB.2 29 3 _ rfl) ?_
  refine ev_iload_n dX6_isGathering_14 rfl ?_
  refine ev_iald dX6_isGathering_15 (hB.1 31 _ rfl) (j := b) rfl (by omega) (by decide) ?_
  refine ev_iconst (v := 1) dX6_isGathering_16 rfl ?_
  refine ev_isub dX6_isGathering_17 ?_
  refine ev_s3i dX6_isGathering_18 cs_X6_129 (Nat.le_of_ble_eq_true rfl) (by decide) (t_X6_in _ _ _) ?_
  refine ev_if_eq_t (tgt := 28) dX6_isGathering_21 rfl (bi_f hv) ?_
  refine ev_iconst (v := 0) dX6_isGathering_28 rfl ?_
  exact ev_ireturn (ty := .boolean) dX6_isGathering_29 rfl rfl ⟨rfl, rfl, rfl, rfl⟩
set_option maxRecDepth 100000 in
set_option maxHeartbeats 4000000 in
theorem t_X6_isGathering_k {sh : SH} {mi : MI} {mr : MR} (hB : ba_c sh mr) (nb : Nat) (hnb : mi 29 1 = nI nb) (hnb10 : nb ≤ 10) (b : Nat) (hb : b < nb) (g : Nat) (hg : mi 31 b = nI g) (hg6 : g ≤ 6) (j : Nat) (hj : j < g) : EV none 2 0 0 mX6_isGathering 0 (en_l mX6_isGathering [pv_r 29, pv_i (nI b), pv_i (nI j)]) [] sh mi mr (ok_r sh mr 1 mi) := by
  show EV none 2 0 0 mX6_isGathering 0 [some (pv_r 29), some (pv_i (nI b)), some (pv_i (nI j))] [] sh mi mr _
  refine ev_aload_n dX6_isGathering_0 rfl ?_
  refine ev_iload_n dX6_isGathering_1 rfl ?_
  refine ev_v1i dX6_isGathering_2 cv_X6_133 (hB.1 29 _ rfl) (Nat.le_of_ble_eq_true rfl) (by decide) (t_X6_isBook hB _) ?_
  refine ev_if_eq_f (tgt := 28) dX6_isGathering_5 rfl (by rw [bi_1 (by rw [hnb]; exact (i_cases (by omega)).mpr ⟨b, hb, rfl⟩)]; decide) ?_
  refine ev_iload_n dX6_isGathering_8 rfl ?_
  refine ev_iconst (v := 0) dX6_isGathering_9 rfl ?_
  refine ev_aload_n dX6_isGathering_10 rfl ?_
  refine ev_getq dX6_isGathering_11 fl_X6_13 rfl (hB.1 29 _ rfl) (hB.2 29 3 _ rfl) ?_
  refine ev_iload_n dX6_isGathering_14 rfl ?_
  refine ev_iald dX6_isGathering_15 (hB.1 31 _ rfl) (j := b) rfl (by omega) (by decide) ?_
  refine ev_iconst (v := 1) dX6_isGathering_16 rfl ?_
  refine ev_isub dX6_isGathering_17 ?_
  refine ev_s3i dX6_isGathering_18 cs_X6_129 (Nat.le_of_ble_eq_true rfl) (by decide) (t_X6_in _ _ _) ?_
  refine ev_if_eq_f (tgt := 28) dX6_isGathering_21 rfl (by rw [bi_1 (by rw [hg]; exact (i_cases (by omega)).mpr ⟨j, hj, rfl⟩)]; decide) ?_
  refine ev_iconst (v := 1) dX6_isGathering_24 rfl ?_
  refine ev_goto (tgt := 29) dX6_isGathering_25 rfl ?_
  exact ev_ireturn (ty := .boolean) dX6_isGathering_29 rfl rfl ⟨rfl, rfl, rfl, rfl⟩
set_option maxRecDepth 100000 in
set_option maxHeartbeats 4000000 in
theorem t_X6_gather_u {sh : SH} {mi : MI} {mr : MR} (hB : ba_c sh mr) (p1 p2 : Int32) (hu : ¬ (0 ≤ p1 ∧ p1 ≤ (mi 29 1) - 1)) : EV none 2 0 0 mX6_gather 0 (en_l mX6_gather [pv_r 29, pv_i p1, pv_i p2]) [] sh mi mr (ok_r sh mr (-2) mi) := by
  show EV none 2 0 0 mX6_gather 0 [some (pv_r 29), some (pv_i p1), some (pv_i p2), none] [] sh mi mr _
  refine ev_aload_n dX6_gather_0 rfl ?_
  refine ev_iload_n dX6_gather_1 rfl ?_
  refine ev_v1i dX6_gather_2 cv_X6_133 (hB.1 29 _ rfl) (Nat.le_of_ble_eq_true rfl) (by decide) (t_X6_isBook hB _) ?_
  refine ev_if_ne_f (tgt := 11) dX6_gather_5 rfl (bi_f hu) ?_
  refine ev_bipush (v := (-2)) dX6_gather_8 rfl ?_
  exact ev_ireturn (ty := .int) dX6_gather_10 rfl rfl ⟨rfl, rfl, rfl, rfl⟩
set_option maxRecDepth 100000 in
set_option maxHeartbeats 4000000 in
theorem t_X6_pass_u {sh : SH} {mi : MI} {mr : MR} (hB : ba_c sh mr) (p1 : Int32) (hu : ¬ (0 ≤ p1 ∧ p1 ≤ (mi 29 1) - 1)) : EV none 2 0 0 mX6_pass 0 (en_l mX6_pass [pv_r 29, pv_i p1]) [] sh mi mr (ok_r sh mr (-2) mi) := by
  show EV none 2 0 0 mX6_pass 0 [some (pv_r 29), some (pv_i p1), none, none] [] sh mi mr _
  refine ev_aload_n dX6_pass_0 rfl ?_
  refine ev_iload_n dX6_pass_1 rfl ?_
  refine ev_v1i dX6_pass_2 cv_X6_133 (hB.1 29 _ rfl) (Nat.le_of_ble_eq_true rfl) (by decide) (t_X6_isBook hB _) ?_
  refine ev_if_ne_f (tgt := 11) dX6_pass_5 rfl (bi_f hu) ?_
  refine ev_bipush (v := (-2)) dX6_pass_8 rfl ?_
  exact ev_ireturn (ty := .int) dX6_pass_10 rfl rfl ⟨rfl, rfl, rfl, rfl⟩
set_option maxRecDepth 100000 in
set_option maxHeartbeats 4000000 in
theorem t_X6_told_u {sh : SH} {mi : MI} {mr : MR} (hB : ba_c sh mr) (p1 p2 : Int32) (hu : ¬ (0 ≤ p1 ∧ p1 ≤ (mi 29 1) - 1)) : EV none 2 0 0 mX6_told 0 (en_l mX6_told [pv_r 29, pv_i p1, pv_i p2]) [] sh mi mr (ok_r sh mr (-2) mi) := by
  show EV none 2 0 0 mX6_told 0 [some (pv_r 29), some (pv_i p1), some (pv_i p2), none, none] [] sh mi mr _
  refine ev_aload_n dX6_told_0 rfl ?_
  refine ev_iload_n dX6_told_1 rfl ?_
  refine ev_v1i dX6_told_2 cv_X6_133 (hB.1 29 _ rfl) (Nat.le_of_ble_eq_true rfl) (by decide) (t_X6_isBook hB _) ?_
  refine ev_if_ne_f (tgt := 11) dX6_told_5 rfl (bi_f hu) ?_
  refine ev_bipush (v := (-2)) dX6_told_8 rfl ?_
  exact ev_ireturn (ty := .int) dX6_told_10 rfl rfl ⟨rfl, rfl, rfl, rfl⟩
set_option maxRecDepth 100000 in
set_option maxHeartbeats 4000000 in
theorem t_X6_gone_u {sh : SH} {mi : MI} {mr : MR} (hB : ba_c sh mr) (p1 p2 p3 : Int32) (hu : ¬ (0 ≤ p1 ∧ p1 ≤ (mi 29 1) - 1)) : EV none 2 0 0 mX6_gone 0 (en_l mX6_gone [pv_r 29, pv_i p1, pv_i p2, pv_i p3]) [] sh mi mr (ok_r sh mr (-2) mi) := by
  show EV none 2 0 0 mX6_gone 0 [some (pv_r 29), some (pv_i p1), some (pv_i p2), some (pv_i p3)] [] sh mi mr _
  refine ev_aload_n dX6_gone_0 rfl ?_
  refine ev_iload_n dX6_gone_1 rfl ?_
  refine ev_v1i dX6_gone_2 cv_X6_133 (hB.1 29 _ rfl) (Nat.le_of_ble_eq_true rfl) (by decide) (t_X6_isBook hB _) ?_
  refine ev_if_eq_t (tgt := 15) dX6_gone_5 rfl (bi_f hu) ?_
  refine ev_bipush (v := (-2)) dX6_gone_15 rfl ?_
  exact ev_ireturn (ty := .int) dX6_gone_17 rfl rfl ⟨rfl, rfl, rfl, rfl⟩
set_option maxRecDepth 100000 in
set_option maxHeartbeats 4000000 in
theorem t_X6_hours_u {sh : SH} {mi : MI} {mr : MR} (hB : ba_c sh mr) (p1 p2 p3 : Int32) (hu : ¬ (0 ≤ p1 ∧ p1 ≤ (mi 29 1) - 1)) : EV none 2 0 0 mX6_hours 0 (en_l mX6_hours [pv_r 29, pv_i p1, pv_i p2, pv_i p3]) [] sh mi mr (ok_r sh mr (-2) mi) := by
  show EV none 2 0 0 mX6_hours 0 [some (pv_r 29), some (pv_i p1), some (pv_i p2), some (pv_i p3)] [] sh mi mr _
  refine ev_aload_n dX6_hours_0 rfl ?_
  refine ev_iload_n dX6_hours_1 rfl ?_
  refine ev_v1i dX6_hours_2 cv_X6_133 (hB.1 29 _ rfl) (Nat.le_of_ble_eq_true rfl) (by decide) (t_X6_isBook hB _) ?_
  refine ev_if_eq_t (tgt := 15) dX6_hours_5 rfl (bi_f hu) ?_
  refine ev_bipush (v := (-2)) dX6_hours_15 rfl ?_
  exact ev_ireturn (ty := .int) dX6_hours_17 rfl rfl ⟨rfl, rfl, rfl, rfl⟩
set_option maxRecDepth 100000 in
set_option maxHeartbeats 4000000 in
theorem t_X6_promise_u {sh : SH} {mi : MI} {mr : MR} (hB : ba_c sh mr) (p1 p2 p3 p4 : Int32) (hu : ¬ (0 ≤ p1 ∧ p1 ≤ (mi 29 1) - 1)) : EV none 2 0 0 mX6_promise 0 (en_l mX6_promise [pv_r 29, pv_i p1, pv_i p2, pv_i p3, pv_i p4]) [] sh mi mr (ok_r sh mr (-2) mi) := by
  show EV none 2 0 0 mX6_promise 0 [some (pv_r 29), some (pv_i p1), some (pv_i p2), some (pv_i p3), some (pv_i p4)] [] sh mi mr _
  refine ev_aload_n dX6_promise_0 rfl ?_
  refine ev_iload_n dX6_promise_1 rfl ?_
  refine ev_v1i dX6_promise_2 cv_X6_133 (hB.1 29 _ rfl) (Nat.le_of_ble_eq_true rfl) (by decide) (t_X6_isBook hB _) ?_
  refine ev_if_ne_f (tgt := 11) dX6_promise_5 rfl (bi_f hu) ?_
  refine ev_bipush (v := (-2)) dX6_promise_8 rfl ?_
  exact ev_ireturn (ty := .int) dX6_promise_10 rfl rfl ⟨rfl, rfl, rfl, rfl⟩
set_option maxRecDepth 100000 in
set_option maxHeartbeats 4000000 in
theorem t_X6_look_u {sh : SH} {mi : MI} {mr : MR} (hB : ba_c sh mr) (p1 p2 p3 : Int32) (hu : ¬ (0 ≤ p1 ∧ p1 ≤ (mi 29 1) - 1)) : EV none 3 0 0 mX6_look 0 (en_l mX6_look [pv_r 29, pv_i p1, pv_i p2, pv_i p3]) [] sh mi mr (ok_r sh mr (-2) mi) := by
  show EV none 3 0 0 mX6_look 0 [some (pv_r 29), some (pv_i p1), some (pv_i p2), some (pv_i p3), none, none, none] [] sh mi mr _
  refine ev_aload_n dX6_look_0 rfl ?_
  refine ev_iload_n dX6_look_1 rfl ?_
  refine ev_iload_n dX6_look_2 rfl ?_
  refine ev_v2i dX6_look_3 cv_X6_137 (hB.1 29 _ rfl) (Nat.le_of_ble_eq_true rfl) (by decide) (t_X6_isGathering_u hB _ _ hu) ?_
  refine ev_if_ne_f (tgt := 12) dX6_look_6 rfl (by decide) ?_
  refine ev_bipush (v := (-2)) dX6_look_9 rfl ?_
  exact ev_ireturn (ty := .int) dX6_look_11 rfl rfl ⟨rfl, rfl, rfl, rfl⟩
set_option maxRecDepth 100000 in
set_option maxHeartbeats 4000000 in
theorem t_X6_there_u {sh : SH} {mi : MI} {mr : MR} (hB : ba_c sh mr) (p1 p2 : Int32) (hu : ¬ (0 ≤ p1 ∧ p1 ≤ (mi 29 1) - 1)) : EV none 3 0 0 mX6_there 0 (en_l mX6_there [pv_r 29, pv_i p1, pv_i p2]) [] sh mi mr (ok_r sh mr (-2) mi) := by
  show EV none 3 0 0 mX6_there 0 [some (pv_r 29), some (pv_i p1), some (pv_i p2)] [] sh mi mr _
  refine ev_aload_n dX6_there_0 rfl ?_
  refine ev_iload_n dX6_there_1 rfl ?_
  refine ev_iload_n dX6_there_2 rfl ?_
  refine ev_v2i dX6_there_3 cv_X6_137 (hB.1 29 _ rfl) (Nat.le_of_ble_eq_true rfl) (by decide) (t_X6_isGathering_u hB _ _ hu) ?_
  refine ev_if_eq_t (tgt := 23) dX6_there_6 rfl (by decide) ?_
  refine ev_bipush (v := (-2)) dX6_there_23 rfl ?_
  exact ev_ireturn (ty := .int) dX6_there_25 rfl rfl ⟨rfl, rfl, rfl, rfl⟩
set_option maxRecDepth 100000 in
set_option maxHeartbeats 4000000 in
theorem t_X6_look_g {sh : SH} {mi : MI} {mr : MR} (hB : ba_c sh mr) (nb : Nat) (hnb : mi 29 1 = nI nb) (hnb10 : nb ≤ 10) (b : Nat) (hb : b < nb) (p2 p3 : Int32) (hv : ¬ (0 ≤ p2 ∧ p2 ≤ (mi 31 b) - 1)) : EV none 3 0 0 mX6_look 0 (en_l mX6_look [pv_r 29, pv_i (nI b), pv_i p2, pv_i p3]) [] sh mi mr (ok_r sh mr (-2) mi) := by
  show EV none 3 0 0 mX6_look 0 [some (pv_r 29), some (pv_i (nI b)), some (pv_i p2), some (pv_i p3), none, none, none] [] sh mi mr _
  refine ev_aload_n dX6_look_0 rfl ?_
  refine ev_iload_n dX6_look_1 rfl ?_
  refine ev_iload_n dX6_look_2 rfl ?_
  refine ev_v2i dX6_look_3 cv_X6_137 (hB.1 29 _ rfl) (Nat.le_of_ble_eq_true rfl) (by decide) (t_X6_isGathering_g hB nb hnb hnb10 b hb _ hv) ?_
  refine ev_if_ne_f (tgt := 12) dX6_look_6 rfl (by decide) ?_
  refine ev_bipush (v := (-2)) dX6_look_9 rfl ?_
  exact ev_ireturn (ty := .int) dX6_look_11 rfl rfl ⟨rfl, rfl, rfl, rfl⟩
set_option maxRecDepth 100000 in
set_option maxHeartbeats 4000000 in
theorem t_X6_there_g {sh : SH} {mi : MI} {mr : MR} (hB : ba_c sh mr) (nb : Nat) (hnb : mi 29 1 = nI nb) (hnb10 : nb ≤ 10) (b : Nat) (hb : b < nb) (p2 : Int32) (hv : ¬ (0 ≤ p2 ∧ p2 ≤ (mi 31 b) - 1)) : EV none 3 0 0 mX6_there 0 (en_l mX6_there [pv_r 29, pv_i (nI b), pv_i p2]) [] sh mi mr (ok_r sh mr (-2) mi) := by
  show EV none 3 0 0 mX6_there 0 [some (pv_r 29), some (pv_i (nI b)), some (pv_i p2)] [] sh mi mr _
  refine ev_aload_n dX6_there_0 rfl ?_
  refine ev_iload_n dX6_there_1 rfl ?_
  refine ev_iload_n dX6_there_2 rfl ?_
  refine ev_v2i dX6_there_3 cv_X6_137 (hB.1 29 _ rfl) (Nat.le_of_ble_eq_true rfl) (by decide) (t_X6_isGathering_g hB nb hnb hnb10 b hb _ hv) ?_
  refine ev_if_eq_t (tgt := 23) dX6_there_6 rfl (by decide) ?_
  refine ev_bipush (v := (-2)) dX6_there_23 rfl ?_
  exact ev_ireturn (ty := .int) dX6_there_25 rfl rfl ⟨rfl, rfl, rfl, rfl⟩
set_option maxRecDepth 100000 in
set_option maxHeartbeats 4000000 in
theorem t_X6_there_k {sh : SH} {mi : MI} {mr : MR} (hB : ba_c sh mr) (nb : Nat) (hnb : mi 29 1 = nI nb) (hnb10 : nb ≤ 10) (b : Nat) (hb : b < nb) (g : Nat) (hg : mi 31 b = nI g) (hg6 : g ≤ 6) (j : Nat) (hj : j < g) : EV none 3 0 0 mX6_there 0 (en_l mX6_there [pv_r 29, pv_i (nI b), pv_i (nI j)]) [] sh mi mr (ok_r sh mr (mi 33 ((6 * b) + j)) mi) := by
  show EV none 3 0 0 mX6_there 0 [some (pv_r 29), some (pv_i (nI b)), some (pv_i (nI j))] [] sh mi mr _
  refine ev_aload_n dX6_there_0 rfl ?_
  refine ev_iload_n dX6_there_1 rfl ?_
  refine ev_iload_n dX6_there_2 rfl ?_
  refine ev_v2i dX6_there_3 cv_X6_137 (hB.1 29 _ rfl) (Nat.le_of_ble_eq_true rfl) (by decide) (t_X6_isGathering_k hB nb hnb hnb10 b hb g hg hg6 j hj) ?_
  refine ev_if_eq_f (tgt := 23) dX6_there_6 rfl (by decide) ?_
  refine ev_aload_n dX6_there_9 rfl ?_
  refine ev_getq dX6_there_10 fl_X6_19 rfl (hB.1 29 _ rfl) (hB.2 29 5 _ rfl) ?_
  refine ev_bipush (v := 6) dX6_there_13 rfl ?_
  refine ev_iload_n dX6_there_15 rfl ?_
  refine ev_imul dX6_there_16 ?_
  refine ev_iload_n dX6_there_17 rfl ?_
  refine ev_iadd dX6_there_18 ?_
  refine ev_iald dX6_there_19 (hB.1 33 _ rfl) (j := (6 * b) + j) (by simp [up_2, pk_mul, nI_add, n_5, n_6, n_12, n_144]) (by omega) (by decide) ?_
  refine ev_goto (tgt := 25) dX6_there_20 rfl ?_
  exact ev_ireturn (ty := .int) dX6_there_25 rfl rfl ⟨rfl, rfl, rfl, rfl⟩
set_option maxRecDepth 100000 in
set_option maxHeartbeats 4000000 in
theorem t_X6_gather_k {sh : SH} {mi : MI} {mr : MR} (hB : ba_c sh mr) (nb : Nat) (hnb : mi 29 1 = nI nb) (hnb10 : nb ≤ 10) (b : Nat) (hb : b < nb) (p2 : Int32) (g : Nat) (hg : mi 31 b = nI g) (hg6 : g ≤ 6) : EV none 2 0 0 mX6_gather 0 (en_l mX6_gather [pv_r 29, pv_i (nI b), pv_i p2]) [] sh mi mr (fun v_ sh_ mi_ mr_ => ((1 ≤ p2 ∧ p2 ≤ 16) ∧ ((mi 30 b) = 0) ∧ (¬ (mi 31 b) = 6) ∧ (ok_r sh mr (((up_2 (up_2 (up_2 mi 32 ((6 * b) + g) p2) 33 ((6 * b) + g) ((1 <<< (p2 &&& 31)) - 1)) 31 b (((up_2 (up_2 mi 32 ((6 * b) + g) p2) 33 ((6 * b) + g) ((1 <<< (p2 &&& 31)) - 1)) 31 b) + 1)) 31 b) - 1) (up_2 (up_2 (up_2 mi 32 ((6 * b) + g) p2) 33 ((6 * b) + g) ((1 <<< (p2 &&& 31)) - 1)) 31 b (((up_2 (up_2 mi 32 ((6 * b) + g) p2) 33 ((6 * b) + g) ((1 <<< (p2 &&& 31)) - 1)) 31 b) + 1))) v_ sh_ mi_ mr_) ∨ ((1 ≤ p2 ∧ p2 ≤ 16) ∧ ((mi 30 b) = 0) ∧ ((mi 31 b) = 6) ∧ (ok_r sh mr (-6) mi) v_ sh_ mi_ mr_) ∨ ((1 ≤ p2 ∧ p2 ≤ 16) ∧ (¬ (mi 30 b) = 0) ∧ (ok_r sh mr (-4) mi) v_ sh_ mi_ mr_) ∨ ((¬ (1 ≤ p2 ∧ p2 ≤ 16)) ∧ (ok_r sh mr (-3) mi) v_ sh_ mi_ mr_)) := by
  show EV none 2 0 0 mX6_gather 0 [some (pv_r 29), some (pv_i (nI b)), some (pv_i p2), none] [] sh mi mr _
  refine ev_aload_n dX6_gather_0 rfl ?_
  refine ev_iload_n dX6_gather_1 rfl ?_
  refine ev_v1i dX6_gather_2 cv_X6_133 (hB.1 29 _ rfl) (Nat.le_of_ble_eq_true rfl) (by decide) (t_X6_isBook hB _) ?_
  refine ev_if_ne_t (tgt := 11) dX6_gather_5 rfl (by rw [bi_1 (by rw [hnb]; exact (i_cases (by omega)).mpr ⟨b, hb, rfl⟩)]; decide) ?_
  refine ev_iload_n dX6_gather_11 rfl ?_
  refine ev_iconst (v := 1) dX6_gather_12 rfl ?_
  refine ev_bipush (v := 16) dX6_gather_13 rfl ?_
  refine ev_s3i dX6_gather_15 cs_X6_129 (Nat.le_of_ble_eq_true rfl) (by decide) (t_X6_in _ _ _) ?_
  refine ev_ifb_ne (tgt := 24) dX6_gather_18 rfl (fun h18 => ?_) (fun h18 => ?_)
  · refine ev_aload_n dX6_gather_24 rfl ?_
    refine ev_getq dX6_gather_25 fl_X6_7 rfl (hB.1 29 _ rfl) (hB.2 29 2 _ rfl) ?_
    refine ev_iload_n dX6_gather_28 rfl ?_
    refine ev_iald dX6_gather_29 (hB.1 30 _ rfl) (j := b) rfl (by omega) (by decide) ?_
    refine ev_if_eq (tgt := 36) dX6_gather_30 rfl (fun h30 => ?_) (fun h30 => ?_)
    · refine ev_aload_n dX6_gather_36 rfl ?_
      refine ev_getq dX6_gather_37 fl_X6_13 rfl (hB.1 29 _ rfl) (hB.2 29 3 _ rfl) ?_
      refine ev_iload_n dX6_gather_40 rfl ?_
      refine ev_iald dX6_gather_41 (hB.1 31 _ rfl) (j := b) rfl (by omega) (by decide) ?_
      refine ev_bipush (v := 6) dX6_gather_42 rfl ?_
      refine ev_icmp_ne (tgt := 50) dX6_gather_44 rfl (fun h44 => ?_) (fun h44 => ?_)
      · refine ev_bipush (v := 6) dX6_gather_50 rfl ?_
        refine ev_iload_n dX6_gather_52 rfl ?_
        refine ev_imul dX6_gather_53 ?_
        refine ev_aload_n dX6_gather_54 rfl ?_
        refine ev_getq dX6_gather_55 fl_X6_13 rfl (hB.1 29 _ rfl) (hB.2 29 3 _ rfl) ?_
        refine ev_iload_n dX6_gather_58 rfl ?_
        refine ev_iald dX6_gather_59 (hB.1 31 _ rfl) (j := b) rfl (by omega) (by decide) ?_
        refine ev_iadd dX6_gather_60 ?_
        refine ev_istore_n dX6_gather_61 (by decide) ?_
        refine ev_aload_n dX6_gather_62 rfl ?_
        refine ev_getq dX6_gather_63 fl_X6_16 rfl (hB.1 29 _ rfl) (hB.2 29 4 _ rfl) ?_
        refine ev_iload_n dX6_gather_66 rfl ?_
        refine ev_iload_n dX6_gather_67 rfl ?_
        refine ev_iast dX6_gather_68 (hB.1 32 _ rfl) (j := (6 * b) + g) (by simp [up_2, pk_mul, nI_add, n_5, n_6, n_12, n_144, hg]) (by have := (not_congr (nl_eq hg (b := 6) rfl (by omega) (by decide))).mp h44; omega) (by decide) ?_
        refine ev_aload_n dX6_gather_69 rfl ?_
        refine ev_getq dX6_gather_70 fl_X6_19 rfl (hB.1 29 _ rfl) (hB.2 29 5 _ rfl) ?_
        refine ev_iload_n dX6_gather_73 rfl ?_
        refine ev_iconst (v := 1) dX6_gather_74 rfl ?_
        refine ev_iload_n dX6_gather_75 rfl ?_
        refine ev_ishl dX6_gather_76 ?_
        refine ev_iconst (v := 1) dX6_gather_77 rfl ?_
        refine ev_isub dX6_gather_78 ?_
        refine ev_iast dX6_gather_79 (hB.1 33 _ rfl) (j := (6 * b) + g) (by simp [up_2, pk_mul, nI_add, n_5, n_6, n_12, n_144, hg]) (by have := (not_congr (nl_eq hg (b := 6) rfl (by omega) (by decide))).mp h44; omega) (by decide) ?_
        refine ev_aload_n dX6_gather_80 rfl ?_
        refine ev_getq dX6_gather_81 fl_X6_13 rfl (hB.1 29 _ rfl) (hB.2 29 3 _ rfl) ?_
        refine ev_iload_n dX6_gather_84 rfl ?_
        refine ev_dup2 dX6_gather_85 ?_
        refine ev_iald dX6_gather_86 (hB.1 31 _ rfl) (j := b) rfl (by omega) (by decide) ?_
        refine ev_iconst (v := 1) dX6_gather_87 rfl ?_
        refine ev_iadd dX6_gather_88 ?_
        refine ev_iast dX6_gather_89 (hB.1 31 _ rfl) (j := b) rfl (by omega) (by decide) ?_
        refine ev_aload_n dX6_gather_90 rfl ?_
        refine ev_getq dX6_gather_91 fl_X6_13 rfl (hB.1 29 _ rfl) (hB.2 29 3 _ rfl) ?_
        refine ev_iload_n dX6_gather_94 rfl ?_
        refine ev_iald dX6_gather_95 (hB.1 31 _ rfl) (j := b) rfl (by omega) (by decide) ?_
        refine ev_iconst (v := 1) dX6_gather_96 rfl ?_
        refine ev_isub dX6_gather_97 ?_
        exact ev_ireturn (ty := .int) dX6_gather_98 rfl rfl (Or.inl ⟨h18, h30, h44, rfl, rfl, rfl, rfl⟩)
      · refine ev_bipush (v := (-6)) dX6_gather_47 rfl ?_
        exact ev_ireturn (ty := .int) dX6_gather_49 rfl rfl (Or.inr (Or.inl ⟨h18, h30, h44, rfl, rfl, rfl, rfl⟩))
    · refine ev_bipush (v := (-4)) dX6_gather_33 rfl ?_
      exact ev_ireturn (ty := .int) dX6_gather_35 rfl rfl (Or.inr (Or.inr (Or.inl ⟨h18, h30, rfl, rfl, rfl, rfl⟩)))
  · refine ev_bipush (v := (-3)) dX6_gather_21 rfl ?_
    exact ev_ireturn (ty := .int) dX6_gather_23 rfl rfl (Or.inr (Or.inr (Or.inr ⟨h18, rfl, rfl, rfl, rfl⟩)))
set_option maxRecDepth 100000 in
set_option maxHeartbeats 4000000 in
theorem t_X6_look_k {sh : SH} {mi : MI} {mr : MR} (hB : ba_c sh mr) (nb : Nat) (hnb : mi 29 1 = nI nb) (hnb10 : nb ≤ 10) (b : Nat) (hb : b < nb) (g : Nat) (hg : mi 31 b = nI g) (hg6 : g ≤ 6) (a : Nat) (ha : mi 30 b = nI a) (ha5 : a ≤ 5) (j : Nat) (hj : j < g) (p3 : Int32) : EV none 3 0 0 mX6_look 0 (en_l mX6_look [pv_r 29, pv_i (nI b), pv_i (nI j), pv_i p3]) [] sh mi mr (fun v_ sh_ mi_ mr_ => ((0 ≤ p3 ∧ p3 ≤ ((1 <<< ((mi 32 ((6 * b) + j)) &&& 31)) - 1)) ∧ (¬ (mi 30 b) = 5) ∧ (ok_r sh mr ((mn ((mi 33 ((6 * b) + j)) &&& (p3 ^^^ (-1))) 16) + (mn (p3 &&& ((mi 33 ((6 * b) + j)) ^^^ (-1))) 16)) (up_2 (up_2 (up_2 (up_2 mi 35 ((5 * b) + a) ((mi 35 ((5 * b) + a)) + (mn ((mi 33 ((6 * b) + j)) &&& (p3 ^^^ (-1))) 16))) 36 ((5 * b) + a) (((up_2 mi 35 ((5 * b) + a) ((mi 35 ((5 * b) + a)) + (mn ((mi 33 ((6 * b) + j)) &&& (p3 ^^^ (-1))) 16))) 36 ((5 * b) + a)) + (mn (p3 &&& ((mi 33 ((6 * b) + j)) ^^^ (-1))) 16))) 33 ((6 * b) + j) p3) 34 ((6 * b) + j) 1)) v_ sh_ mi_ mr_) ∨ ((0 ≤ p3 ∧ p3 ≤ ((1 <<< ((mi 32 ((6 * b) + j)) &&& 31)) - 1)) ∧ ((mi 30 b) = 5) ∧ (ok_r sh mr (-4) mi) v_ sh_ mi_ mr_) ∨ ((¬ (0 ≤ p3 ∧ p3 ≤ ((1 <<< ((mi 32 ((6 * b) + j)) &&& 31)) - 1))) ∧ (ok_r sh mr (-3) mi) v_ sh_ mi_ mr_)) := by
  show EV none 3 0 0 mX6_look 0 [some (pv_r 29), some (pv_i (nI b)), some (pv_i (nI j)), some (pv_i p3), none, none, none] [] sh mi mr _
  refine ev_aload_n dX6_look_0 rfl ?_
  refine ev_iload_n dX6_look_1 rfl ?_
  refine ev_iload_n dX6_look_2 rfl ?_
  refine ev_v2i dX6_look_3 cv_X6_137 (hB.1 29 _ rfl) (Nat.le_of_ble_eq_true rfl) (by decide) (t_X6_isGathering_k hB nb hnb hnb10 b hb g hg hg6 j hj) ?_
  refine ev_if_ne_t (tgt := 12) dX6_look_6 rfl (by decide) ?_
  refine ev_bipush (v := 6) dX6_look_12 rfl ?_
  refine ev_iload_n dX6_look_14 rfl ?_
  refine ev_imul dX6_look_15 ?_
  refine ev_iload_n dX6_look_16 rfl ?_
  refine ev_iadd dX6_look_17 ?_
  refine ev_istore dX6_look_18 (by decide) ?_
  refine ev_iload_n dX6_look_20 rfl ?_
  refine ev_iconst (v := 0) dX6_look_21 rfl ?_
  refine ev_iconst (v := 1) dX6_look_22 rfl ?_
  refine ev_aload_n dX6_look_23 rfl ?_
  refine ev_getq dX6_look_24 fl_X6_16 rfl (hB.1 29 _ rfl) (hB.2 29 4 _ rfl) ?_
  refine ev_iload dX6_look_27 rfl ?_
  refine ev_iald dX6_look_29 (hB.1 32 _ rfl) (j := (6 * b) + j) (by simp [up_2, pk_mul, nI_add, n_5, n_6, n_12, n_144, hg, ha]) (by omega) (by decide) ?_
  refine ev_ishl dX6_look_30 ?_
  refine ev_iconst (v := 1) dX6_look_31 rfl ?_
  refine ev_isub dX6_look_32 ?_
  refine ev_s3i dX6_look_33 cs_X6_129 (Nat.le_of_ble_eq_true rfl) (by decide) (t_X6_in _ _ _) ?_
  refine ev_ifb_ne (tgt := 42) dX6_look_36 rfl (fun h36 => ?_) (fun h36 => ?_)
  · refine ev_aload_n dX6_look_42 rfl ?_
    refine ev_getq dX6_look_43 fl_X6_7 rfl (hB.1 29 _ rfl) (hB.2 29 2 _ rfl) ?_
    refine ev_iload_n dX6_look_46 rfl ?_
    refine ev_iald dX6_look_47 (hB.1 30 _ rfl) (j := b) rfl (by omega) (by decide) ?_
    refine ev_iconst (v := 5) dX6_look_48 rfl ?_
    refine ev_icmp_ne (tgt := 55) dX6_look_49 rfl (fun h49 => ?_) (fun h49 => ?_)
    · refine ev_aload_n dX6_look_55 rfl ?_
      refine ev_getq dX6_look_56 fl_X6_19 rfl (hB.1 29 _ rfl) (hB.2 29 5 _ rfl) ?_
      refine ev_iload dX6_look_59 rfl ?_
      refine ev_iald dX6_look_61 (hB.1 33 _ rfl) (j := (6 * b) + j) (by simp [up_2, pk_mul, nI_add, n_5, n_6, n_12, n_144, hg, ha]) (by omega) (by decide) ?_
      refine ev_iload_n dX6_look_62 rfl ?_
      refine ev_iconst (v := (-1)) dX6_look_63 rfl ?_
      refine ev_ixor dX6_look_64 ?_
      refine ev_iand dX6_look_65 ?_
      refine ev_s1i dX6_look_66 cs_X6_141 (Nat.le_of_ble_eq_true rfl) (by decide) (t_X6_many _) ?_
      refine ev_istore dX6_look_69 (by decide) ?_
      refine ev_iload_n dX6_look_71 rfl ?_
      refine ev_aload_n dX6_look_72 rfl ?_
      refine ev_getq dX6_look_73 fl_X6_19 rfl (hB.1 29 _ rfl) (hB.2 29 5 _ rfl) ?_
      refine ev_iload dX6_look_76 rfl ?_
      refine ev_iald dX6_look_78 (hB.1 33 _ rfl) (j := (6 * b) + j) (by simp [up_2, pk_mul, nI_add, n_5, n_6, n_12, n_144, hg, ha]) (by omega) (by decide) ?_
      refine ev_iconst (v := (-1)) dX6_look_79 rfl ?_
      refine ev_ixor dX6_look_80 ?_
      refine ev_iand dX6_look_81 ?_
      refine ev_s1i dX6_look_82 cs_X6_141 (Nat.le_of_ble_eq_true rfl) (by decide) (t_X6_many _) ?_
      refine ev_istore dX6_look_85 (by decide) ?_
      refine ev_aload_n dX6_look_87 rfl ?_
      refine ev_getq dX6_look_88 fl_X6_26 rfl (hB.1 29 _ rfl) (hB.2 29 7 _ rfl) ?_
      refine ev_iconst (v := 5) dX6_look_91 rfl ?_
      refine ev_iload_n dX6_look_92 rfl ?_
      refine ev_imul dX6_look_93 ?_
      refine ev_aload_n dX6_look_94 rfl ?_
      refine ev_getq dX6_look_95 fl_X6_7 rfl (hB.1 29 _ rfl) (hB.2 29 2 _ rfl) ?_
      refine ev_iload_n dX6_look_98 rfl ?_
      refine ev_iald dX6_look_99 (hB.1 30 _ rfl) (j := b) rfl (by omega) (by decide) ?_
      refine ev_iadd dX6_look_100 ?_
      refine ev_dup2 dX6_look_101 ?_
      refine ev_iald dX6_look_102 (hB.1 35 _ rfl) (j := (5 * b) + a) (by simp [up_2, pk_mul, nI_add, n_5, n_6, n_12, n_144, hg, ha]) (by have := (not_congr (nl_eq ha (b := 5) rfl (by omega) (by decide))).mp h49; omega) (by decide) ?_
      refine ev_iload dX6_look_103 rfl ?_
      refine ev_iadd dX6_look_105 ?_
      refine ev_iast dX6_look_106 (hB.1 35 _ rfl) (j := (5 * b) + a) (by simp [up_2, pk_mul, nI_add, n_5, n_6, n_12, n_144, hg, ha]) (by have := (not_congr (nl_eq ha (b := 5) rfl (by omega) (by decide))).mp h49; omega) (by decide) ?_
      refine ev_aload_n dX6_look_107 rfl ?_
      refine ev_getq dX6_look_108 fl_X6_29 rfl (hB.1 29 _ rfl) (hB.2 29 8 _ rfl) ?_
      refine ev_iconst (v := 5) dX6_look_111 rfl ?_
      refine ev_iload_n dX6_look_112 rfl ?_
      refine ev_imul dX6_look_113 ?_
      refine ev_aload_n dX6_look_114 rfl ?_
      refine ev_getq dX6_look_115 fl_X6_7 rfl (hB.1 29 _ rfl) (hB.2 29 2 _ rfl) ?_
      refine ev_iload_n dX6_look_118 rfl ?_
      refine ev_iald dX6_look_119 (hB.1 30 _ rfl) (j := b) rfl (by omega) (by decide) ?_
      refine ev_iadd dX6_look_120 ?_
      refine ev_dup2 dX6_look_121 ?_
      refine ev_iald dX6_look_122 (hB.1 36 _ rfl) (j := (5 * b) + a) (by simp [up_2, pk_mul, nI_add, n_5, n_6, n_12, n_144, hg, ha]) (by have := (not_congr (nl_eq ha (b := 5) rfl (by omega) (by decide))).mp h49; omega) (by decide) ?_
      refine ev_iload dX6_look_123 rfl ?_
      refine ev_iadd dX6_look_125 ?_
      refine ev_iast dX6_look_126 (hB.1 36 _ rfl) (j := (5 * b) + a) (by simp [up_2, pk_mul, nI_add, n_5, n_6, n_12, n_144, hg, ha]) (by have := (not_congr (nl_eq ha (b := 5) rfl (by omega) (by decide))).mp h49; omega) (by decide) ?_
      refine ev_aload_n dX6_look_127 rfl ?_
      refine ev_getq dX6_look_128 fl_X6_19 rfl (hB.1 29 _ rfl) (hB.2 29 5 _ rfl) ?_
      refine ev_iload dX6_look_131 rfl ?_
      refine ev_iload_n dX6_look_133 rfl ?_
      refine ev_iast dX6_look_134 (hB.1 33 _ rfl) (j := (6 * b) + j) (by simp [up_2, pk_mul, nI_add, n_5, n_6, n_12, n_144, hg, ha]) (by omega) (by decide) ?_
      refine ev_aload_n dX6_look_135 rfl ?_
      refine ev_getq dX6_look_136 fl_X6_22 rfl (hB.1 29 _ rfl) (hB.2 29 6 _ rfl) ?_
      refine ev_iload dX6_look_139 rfl ?_
      refine ev_iconst (v := 1) dX6_look_141 rfl ?_
      refine ev_zast dX6_look_142 (hB.1 34 _ rfl) (j := (6 * b) + j) (by simp [up_2, pk_mul, nI_add, n_5, n_6, n_12, n_144, hg, ha]) (by omega) (by decide) rfl ?_
      refine ev_iload dX6_look_143 rfl ?_
      refine ev_iload dX6_look_145 rfl ?_
      refine ev_iadd dX6_look_147 ?_
      exact ev_ireturn (ty := .int) dX6_look_148 rfl rfl (Or.inl ⟨h36, h49, rfl, rfl, rfl, rfl⟩)
    · refine ev_bipush (v := (-4)) dX6_look_52 rfl ?_
      exact ev_ireturn (ty := .int) dX6_look_54 rfl rfl (Or.inr (Or.inl ⟨h36, h49, rfl, rfl, rfl, rfl⟩))
  · refine ev_bipush (v := (-3)) dX6_look_39 rfl ?_
    exact ev_ireturn (ty := .int) dX6_look_41 rfl rfl (Or.inr (Or.inr ⟨h36, rfl, rfl, rfl, rfl⟩))
set_option maxRecDepth 100000 in
set_option maxHeartbeats 4000000 in
theorem t_X6_gone_b {sh : SH} {mi : MI} {mr : MR} (hB : ba_c sh mr) (nb : Nat) (hnb : mi 29 1 = nI nb) (hnb10 : nb ≤ 10) (b : Nat) (hb : b < nb) (p2 p3 : Int32) (hv : ¬ (0 ≤ p2 ∧ p2 ≤ 4)) : EV none 2 0 0 mX6_gone 0 (en_l mX6_gone [pv_r 29, pv_i (nI b), pv_i p2, pv_i p3]) [] sh mi mr (ok_r sh mr (-2) mi) := by
  show EV none 2 0 0 mX6_gone 0 [some (pv_r 29), some (pv_i (nI b)), some (pv_i p2), some (pv_i p3)] [] sh mi mr _
  refine ev_aload_n dX6_gone_0 rfl ?_
  refine ev_iload_n dX6_gone_1 rfl ?_
  refine ev_v1i dX6_gone_2 cv_X6_133 (hB.1 29 _ rfl) (Nat.le_of_ble_eq_true rfl) (by decide) (t_X6_isBook hB _) ?_
  refine ev_if_eq_f (tgt := 15) dX6_gone_5 rfl (by rw [bi_1 (by rw [hnb]; exact (i_cases (by omega)).mpr ⟨b, hb, rfl⟩)]; decide) ?_
  refine ev_iload_n dX6_gone_8 rfl ?_
  refine ev_s1i dX6_gone_9 cs_X6_151 (Nat.le_of_ble_eq_true rfl) (by decide) (t_X6_isBench _) ?_
  refine ev_if_ne_f (tgt := 18) dX6_gone_12 rfl (bi_f hv) ?_
  refine ev_bipush (v := (-2)) dX6_gone_15 rfl ?_
  exact ev_ireturn (ty := .int) dX6_gone_17 rfl rfl ⟨rfl, rfl, rfl, rfl⟩
set_option maxRecDepth 100000 in
set_option maxHeartbeats 4000000 in
theorem t_X6_gone_k {sh : SH} {mi : MI} {mr : MR} (hB : ba_c sh mr) (nb : Nat) (hnb : mi 29 1 = nI nb) (hnb10 : nb ≤ 10) (b : Nat) (hb : b < nb) (k : Nat) (hk5 : k < 5) (p3 : Int32) : EV none 2 0 0 mX6_gone 0 (en_l mX6_gone [pv_r 29, pv_i (nI b), pv_i (nI k), pv_i p3]) [] sh mi mr (fun v_ sh_ mi_ mr_ => ((¬ p3 = 0) ∧ (¬ p3 = 1) ∧ (ok_r sh mr (-3) mi) v_ sh_ mi_ mr_) ∨ ((¬ p3 = 0) ∧ (p3 = 1) ∧ (ok_r sh mr (mi 36 ((5 * b) + k)) mi) v_ sh_ mi_ mr_) ∨ ((p3 = 0) ∧ (ok_r sh mr (mi 35 ((5 * b) + k)) mi) v_ sh_ mi_ mr_)) := by
  show EV none 2 0 0 mX6_gone 0 [some (pv_r 29), some (pv_i (nI b)), some (pv_i (nI k)), some (pv_i p3)] [] sh mi mr _
  refine ev_aload_n dX6_gone_0 rfl ?_
  refine ev_iload_n dX6_gone_1 rfl ?_
  refine ev_v1i dX6_gone_2 cv_X6_133 (hB.1 29 _ rfl) (Nat.le_of_ble_eq_true rfl) (by decide) (t_X6_isBook hB _) ?_
  refine ev_if_eq_f (tgt := 15) dX6_gone_5 rfl (by rw [bi_1 (by rw [hnb]; exact (i_cases (by omega)).mpr ⟨b, hb, rfl⟩)]; decide) ?_
  refine ev_iload_n dX6_gone_8 rfl ?_
  refine ev_s1i dX6_gone_9 cs_X6_151 (Nat.le_of_ble_eq_true rfl) (by decide) (t_X6_isBench _) ?_
  refine ev_if_ne_t (tgt := 18) dX6_gone_12 rfl (by rw [bi_1 ((i_in 4 (n := 4) rfl (by decide)).mpr ⟨k, by omega, rfl⟩)]; decide) ?_
  refine ev_iload_n dX6_gone_18 rfl ?_
  refine ev_if_ne (tgt := 35) dX6_gone_19 rfl (fun h19 => ?_) (fun h19 => ?_)
  · refine ev_iload_n dX6_gone_35 rfl ?_
    refine ev_iconst (v := 1) dX6_gone_36 rfl ?_
    refine ev_icmp_ne (tgt := 53) dX6_gone_37 rfl (fun h37 => ?_) (fun h37 => ?_)
    · refine ev_bipush (v := (-3)) dX6_gone_53 rfl ?_
      exact ev_ireturn (ty := .int) dX6_gone_55 rfl rfl (Or.inl ⟨h19, h37, rfl, rfl, rfl, rfl⟩)
    · refine ev_aload_n dX6_gone_40 rfl ?_
      refine ev_getq dX6_gone_41 fl_X6_29 rfl (hB.1 29 _ rfl) (hB.2 29 8 _ rfl) ?_
      refine ev_iconst (v := 5) dX6_gone_44 rfl ?_
      refine ev_iload_n dX6_gone_45 rfl ?_
      refine ev_imul dX6_gone_46 ?_
      refine ev_iload_n dX6_gone_47 rfl ?_
      refine ev_iadd dX6_gone_48 ?_
      refine ev_iald dX6_gone_49 (hB.1 36 _ rfl) (j := (5 * b) + k) (by simp [up_2, pk_mul, nI_add, n_5, n_6, n_12, n_144]) (by omega) (by decide) ?_
      refine ev_goto (tgt := 55) dX6_gone_50 rfl ?_
      exact ev_ireturn (ty := .int) dX6_gone_55 rfl rfl (Or.inr (Or.inl ⟨h19, h37, rfl, rfl, rfl, rfl⟩))
  · refine ev_aload_n dX6_gone_22 rfl ?_
    refine ev_getq dX6_gone_23 fl_X6_26 rfl (hB.1 29 _ rfl) (hB.2 29 7 _ rfl) ?_
    refine ev_iconst (v := 5) dX6_gone_26 rfl ?_
    refine ev_iload_n dX6_gone_27 rfl ?_
    refine ev_imul dX6_gone_28 ?_
    refine ev_iload_n dX6_gone_29 rfl ?_
    refine ev_iadd dX6_gone_30 ?_
    refine ev_iald dX6_gone_31 (hB.1 35 _ rfl) (j := (5 * b) + k) (by simp [up_2, pk_mul, nI_add, n_5, n_6, n_12, n_144]) (by omega) (by decide) ?_
    refine ev_goto (tgt := 55) dX6_gone_32 rfl ?_
    exact ev_ireturn (ty := .int) dX6_gone_55 rfl rfl (Or.inr (Or.inr ⟨h19, rfl, rfl, rfl, rfl⟩))
set_option maxRecDepth 100000 in
set_option maxHeartbeats 4000000 in
theorem t_X6_hours_b {sh : SH} {mi : MI} {mr : MR} (hB : ba_c sh mr) (nb : Nat) (hnb : mi 29 1 = nI nb) (hnb10 : nb ≤ 10) (b : Nat) (hb : b < nb) (p2 p3 : Int32) (hv : ¬ (0 ≤ p2 ∧ p2 ≤ 4)) : EV none 2 0 0 mX6_hours 0 (en_l mX6_hours [pv_r 29, pv_i (nI b), pv_i p2, pv_i p3]) [] sh mi mr (ok_r sh mr (-2) mi) := by
  show EV none 2 0 0 mX6_hours 0 [some (pv_r 29), some (pv_i (nI b)), some (pv_i p2), some (pv_i p3)] [] sh mi mr _
  refine ev_aload_n dX6_hours_0 rfl ?_
  refine ev_iload_n dX6_hours_1 rfl ?_
  refine ev_v1i dX6_hours_2 cv_X6_133 (hB.1 29 _ rfl) (Nat.le_of_ble_eq_true rfl) (by decide) (t_X6_isBook hB _) ?_
  refine ev_if_eq_f (tgt := 15) dX6_hours_5 rfl (by rw [bi_1 (by rw [hnb]; exact (i_cases (by omega)).mpr ⟨b, hb, rfl⟩)]; decide) ?_
  refine ev_iload_n dX6_hours_8 rfl ?_
  refine ev_s1i dX6_hours_9 cs_X6_151 (Nat.le_of_ble_eq_true rfl) (by decide) (t_X6_isBench _) ?_
  refine ev_if_ne_f (tgt := 18) dX6_hours_12 rfl (bi_f hv) ?_
  refine ev_bipush (v := (-2)) dX6_hours_15 rfl ?_
  exact ev_ireturn (ty := .int) dX6_hours_17 rfl rfl ⟨rfl, rfl, rfl, rfl⟩
set_option maxRecDepth 100000 in
set_option maxHeartbeats 4000000 in
theorem t_X6_hours_k {sh : SH} {mi : MI} {mr : MR} (hB : ba_c sh mr) (nb : Nat) (hnb : mi 29 1 = nI nb) (hnb10 : nb ≤ 10) (b : Nat) (hb : b < nb) (k : Nat) (hk5 : k < 5) (p3 : Int32) : EV none 2 0 0 mX6_hours 0 (en_l mX6_hours [pv_r 29, pv_i (nI b), pv_i (nI k), pv_i p3]) [] sh mi mr (fun v_ sh_ mi_ mr_ => ((0 ≤ p3 ∧ p3 ≤ 50) ∧ (ok_r sh mr 1 (up_2 mi 37 ((5 * b) + k) p3)) v_ sh_ mi_ mr_) ∨ ((¬ (0 ≤ p3 ∧ p3 ≤ 50)) ∧ (ok_r sh mr (-3) mi) v_ sh_ mi_ mr_)) := by
  show EV none 2 0 0 mX6_hours 0 [some (pv_r 29), some (pv_i (nI b)), some (pv_i (nI k)), some (pv_i p3)] [] sh mi mr _
  refine ev_aload_n dX6_hours_0 rfl ?_
  refine ev_iload_n dX6_hours_1 rfl ?_
  refine ev_v1i dX6_hours_2 cv_X6_133 (hB.1 29 _ rfl) (Nat.le_of_ble_eq_true rfl) (by decide) (t_X6_isBook hB _) ?_
  refine ev_if_eq_f (tgt := 15) dX6_hours_5 rfl (by rw [bi_1 (by rw [hnb]; exact (i_cases (by omega)).mpr ⟨b, hb, rfl⟩)]; decide) ?_
  refine ev_iload_n dX6_hours_8 rfl ?_
  refine ev_s1i dX6_hours_9 cs_X6_151 (Nat.le_of_ble_eq_true rfl) (by decide) (t_X6_isBench _) ?_
  refine ev_if_ne_t (tgt := 18) dX6_hours_12 rfl (by rw [bi_1 ((i_in 4 (n := 4) rfl (by decide)).mpr ⟨k, by omega, rfl⟩)]; decide) ?_
  refine ev_iload_n dX6_hours_18 rfl ?_
  refine ev_iconst (v := 0) dX6_hours_19 rfl ?_
  refine ev_bipush (v := 50) dX6_hours_20 rfl ?_
  refine ev_s3i dX6_hours_22 cs_X6_129 (Nat.le_of_ble_eq_true rfl) (by decide) (t_X6_in _ _ _) ?_
  refine ev_ifb_ne (tgt := 31) dX6_hours_25 rfl (fun h25 => ?_) (fun h25 => ?_)
  · refine ev_aload_n dX6_hours_31 rfl ?_
    refine ev_getq dX6_hours_32 fl_X6_32 rfl (hB.1 29 _ rfl) (hB.2 29 9 _ rfl) ?_
    refine ev_iconst (v := 5) dX6_hours_35 rfl ?_
    refine ev_iload_n dX6_hours_36 rfl ?_
    refine ev_imul dX6_hours_37 ?_
    refine ev_iload_n dX6_hours_38 rfl ?_
    refine ev_iadd dX6_hours_39 ?_
    refine ev_iload_n dX6_hours_40 rfl ?_
    refine ev_iast dX6_hours_41 (hB.1 37 _ rfl) (j := (5 * b) + k) (by simp [up_2, pk_mul, nI_add, n_5, n_6, n_12, n_144]) (by omega) (by decide) ?_
    refine ev_iconst (v := 1) dX6_hours_42 rfl ?_
    exact ev_ireturn (ty := .int) dX6_hours_43 rfl rfl (Or.inl ⟨h25, rfl, rfl, rfl, rfl⟩)
  · refine ev_bipush (v := (-3)) dX6_hours_28 rfl ?_
    exact ev_ireturn (ty := .int) dX6_hours_30 rfl rfl (Or.inr ⟨h25, rfl, rfl, rfl, rfl⟩)
set_option maxRecDepth 100000 in
set_option maxHeartbeats 4000000 in
theorem t_X6_promise_k {sh : SH} {mi : MI} {mr : MR} (hB : ba_c sh mr) (nb : Nat) (hnb : mi 29 1 = nI nb) (hnb10 : nb ≤ 10) (b : Nat) (hb : b < nb) (p2 p3 p4 : Int32) : EV none 2 0 0 mX6_promise 0 (en_l mX6_promise [pv_r 29, pv_i (nI b), pv_i p2, pv_i p3, pv_i p4]) [] sh mi mr (fun v_ sh_ mi_ mr_ => ((¬ (0 ≤ p2 ∧ p2 ≤ 30)) ∧ (ok_r sh mr (-3) mi) v_ sh_ mi_ mr_) ∨ ((0 ≤ p2 ∧ p2 ≤ 30) ∧ (¬ (0 ≤ p3 ∧ p3 ≤ 2000)) ∧ (ok_r sh mr (-3) mi) v_ sh_ mi_ mr_) ∨ ((0 ≤ p2 ∧ p2 ≤ 30) ∧ (0 ≤ p3 ∧ p3 ≤ 2000) ∧ (0 ≤ p4 ∧ p4 ≤ 100) ∧ (ok_r sh mr 1 (up_2 (up_2 (up_2 mi 38 b p2) 39 b p3) 40 b p4)) v_ sh_ mi_ mr_) ∨ ((0 ≤ p2 ∧ p2 ≤ 30) ∧ (0 ≤ p3 ∧ p3 ≤ 2000) ∧ (¬ (0 ≤ p4 ∧ p4 ≤ 100)) ∧ (ok_r sh mr (-3) mi) v_ sh_ mi_ mr_)) := by
  show EV none 2 0 0 mX6_promise 0 [some (pv_r 29), some (pv_i (nI b)), some (pv_i p2), some (pv_i p3), some (pv_i p4)] [] sh mi mr _
  refine ev_aload_n dX6_promise_0 rfl ?_
  refine ev_iload_n dX6_promise_1 rfl ?_
  refine ev_v1i dX6_promise_2 cv_X6_133 (hB.1 29 _ rfl) (Nat.le_of_ble_eq_true rfl) (by decide) (t_X6_isBook hB _) ?_
  refine ev_if_ne_t (tgt := 11) dX6_promise_5 rfl (by rw [bi_1 (by rw [hnb]; exact (i_cases (by omega)).mpr ⟨b, hb, rfl⟩)]; decide) ?_
  refine ev_iload_n dX6_promise_11 rfl ?_
  refine ev_iconst (v := 0) dX6_promise_12 rfl ?_
  refine ev_bipush (v := 30) dX6_promise_13 rfl ?_
  refine ev_s3i dX6_promise_15 cs_X6_129 (Nat.le_of_ble_eq_true rfl) (by decide) (t_X6_in _ _ _) ?_
  refine ev_ifb_eq (tgt := 43) dX6_promise_18 rfl (fun h18 => ?_) (fun h18 => ?_)
  · refine ev_bipush (v := (-3)) dX6_promise_43 rfl ?_
    exact ev_ireturn (ty := .int) dX6_promise_45 rfl rfl (Or.inl ⟨h18, rfl, rfl, rfl, rfl⟩)
  · refine ev_iload_n dX6_promise_21 rfl ?_
    refine ev_iconst (v := 0) dX6_promise_22 rfl ?_
    refine ev_sipush (v := 2000) dX6_promise_23 rfl ?_
    refine ev_s3i dX6_promise_26 cs_X6_129 (Nat.le_of_ble_eq_true rfl) (by decide) (t_X6_in _ _ _) ?_
    refine ev_ifb_eq (tgt := 43) dX6_promise_29 rfl (fun h29 => ?_) (fun h29 => ?_)
    · refine ev_bipush (v := (-3)) dX6_promise_43 rfl ?_
      exact ev_ireturn (ty := .int) dX6_promise_45 rfl rfl (Or.inr (Or.inl ⟨h18, h29, rfl, rfl, rfl, rfl⟩))
    · refine ev_iload dX6_promise_32 rfl ?_
      refine ev_iconst (v := 0) dX6_promise_34 rfl ?_
      refine ev_bipush (v := 100) dX6_promise_35 rfl ?_
      refine ev_s3i dX6_promise_37 cs_X6_129 (Nat.le_of_ble_eq_true rfl) (by decide) (t_X6_in _ _ _) ?_
      refine ev_ifb_ne (tgt := 46) dX6_promise_40 rfl (fun h40 => ?_) (fun h40 => ?_)
      · refine ev_aload_n dX6_promise_46 rfl ?_
        refine ev_getq dX6_promise_47 fl_X6_35 rfl (hB.1 29 _ rfl) (hB.2 29 10 _ rfl) ?_
        refine ev_iload_n dX6_promise_50 rfl ?_
        refine ev_iload_n dX6_promise_51 rfl ?_
        refine ev_iast dX6_promise_52 (hB.1 38 _ rfl) (j := b) rfl (by omega) (by decide) ?_
        refine ev_aload_n dX6_promise_53 rfl ?_
        refine ev_getq dX6_promise_54 fl_X6_38 rfl (hB.1 29 _ rfl) (hB.2 29 11 _ rfl) ?_
        refine ev_iload_n dX6_promise_57 rfl ?_
        refine ev_iload_n dX6_promise_58 rfl ?_
        refine ev_iast dX6_promise_59 (hB.1 39 _ rfl) (j := b) rfl (by omega) (by decide) ?_
        refine ev_aload_n dX6_promise_60 rfl ?_
        refine ev_getq dX6_promise_61 fl_X6_41 rfl (hB.1 29 _ rfl) (hB.2 29 12 _ rfl) ?_
        refine ev_iload_n dX6_promise_64 rfl ?_
        refine ev_iload dX6_promise_65 rfl ?_
        refine ev_iast dX6_promise_67 (hB.1 40 _ rfl) (j := b) rfl (by omega) (by decide) ?_
        refine ev_iconst (v := 1) dX6_promise_68 rfl ?_
        exact ev_ireturn (ty := .int) dX6_promise_69 rfl rfl (Or.inr (Or.inr (Or.inl ⟨h18, h29, h40, rfl, rfl, rfl, rfl⟩)))
      · refine ev_bipush (v := (-3)) dX6_promise_43 rfl ?_
        exact ev_ireturn (ty := .int) dX6_promise_45 rfl rfl (Or.inr (Or.inr (Or.inr ⟨h18, h29, h40, rfl, rfl, rfl, rfl⟩)))
set_option maxRecDepth 100000 in
set_option maxHeartbeats 4000000 in
theorem t_X6_told_o {sh : SH} {mi : MI} {mr : MR} (hB : ba_c sh mr) (nb : Nat) (hnb : mi 29 1 = nI nb) (hnb10 : nb ≤ 10) (b : Nat) (hb : b < nb) (p2 : Int32) (hv : ¬ (0 ≤ p2 ∧ p2 ≤ 3)) : EV none 2 0 0 mX6_told 0 (en_l mX6_told [pv_r 29, pv_i (nI b), pv_i p2]) [] sh mi mr (ok_r sh mr (-3) mi) := by
  show EV none 2 0 0 mX6_told 0 [some (pv_r 29), some (pv_i (nI b)), some (pv_i p2), none, none] [] sh mi mr _
  refine ev_aload_n dX6_told_0 rfl ?_
  refine ev_iload_n dX6_told_1 rfl ?_
  refine ev_v1i dX6_told_2 cv_X6_133 (hB.1 29 _ rfl) (Nat.le_of_ble_eq_true rfl) (by decide) (t_X6_isBook hB _) ?_
  refine ev_if_ne_t (tgt := 11) dX6_told_5 rfl (by rw [bi_1 (by rw [hnb]; exact (i_cases (by omega)).mpr ⟨b, hb, rfl⟩)]; decide) ?_
  refine ev_iload_n dX6_told_11 rfl ?_
  refine ev_iconst (v := 0) dX6_told_12 rfl ?_
  refine ev_iconst (v := 3) dX6_told_13 rfl ?_
  refine ev_s3i dX6_told_14 cs_X6_129 (Nat.le_of_ble_eq_true rfl) (by decide) (t_X6_in _ _ _) ?_
  refine ev_if_ne_f (tgt := 23) dX6_told_17 rfl (bi_f hv) ?_
  refine ev_bipush (v := (-3)) dX6_told_20 rfl ?_
  exact ev_ireturn (ty := .int) dX6_told_22 rfl rfl ⟨rfl, rfl, rfl, rfl⟩
set_option maxRecDepth 100000 in
set_option maxHeartbeats 4000000 in
theorem t_X6_told_0 {sh : SH} {mi : MI} {mr : MR} (hB : ba_c sh mr) (nb : Nat) (hnb : mi 29 1 = nI nb) (hnb10 : nb ≤ 10) (b : Nat) (hb : b < nb) : EV none 2 0 0 mX6_told 0 (en_l mX6_told [pv_r 29, pv_i (nI b), pv_i 0]) [] sh mi mr (ok_r sh mr (mi 30 b) mi) := by
  show EV none 2 0 0 mX6_told 0 [some (pv_r 29), some (pv_i (nI b)), some (pv_i 0), none, none] [] sh mi mr _
  refine ev_aload_n dX6_told_0 rfl ?_
  refine ev_iload_n dX6_told_1 rfl ?_
  refine ev_v1i dX6_told_2 cv_X6_133 (hB.1 29 _ rfl) (Nat.le_of_ble_eq_true rfl) (by decide) (t_X6_isBook hB _) ?_
  refine ev_if_ne_t (tgt := 11) dX6_told_5 rfl (by rw [bi_1 (by rw [hnb]; exact (i_cases (by omega)).mpr ⟨b, hb, rfl⟩)]; decide) ?_
  refine ev_iload_n dX6_told_11 rfl ?_
  refine ev_iconst (v := 0) dX6_told_12 rfl ?_
  refine ev_iconst (v := 3) dX6_told_13 rfl ?_
  refine ev_s3i dX6_told_14 cs_X6_129 (Nat.le_of_ble_eq_true rfl) (by decide) (t_X6_in _ _ _) ?_
  refine ev_if_ne_t (tgt := 23) dX6_told_17 rfl (by rw [bi_1 (by decide)]; decide) ?_
  refine ev_iconst (v := 0) dX6_told_23 rfl ?_
  refine ev_istore_n dX6_told_24 (by decide) ?_
  refine ev_iconst (v := 0) dX6_told_25 rfl ?_
  refine ev_istore dX6_told_26 (by decide) ?_
  refine ev_iload dX6_told_28 rfl ?_
  refine ev_aload_n dX6_told_30 rfl ?_
  refine ev_getq dX6_told_31 fl_X6_13 rfl (hB.1 29 _ rfl) (hB.2 29 3 _ rfl) ?_
  refine ev_iload_n dX6_told_34 rfl ?_
  refine ev_iald dX6_told_35 (hB.1 31 _ rfl) (j := b) rfl (by omega) (by decide) ?_
  refine ev_icmp_ge (tgt := 88) dX6_told_36 rfl (fun h36 => ?_) (fun h36 => ?_)
  · refine ev_iload_n dX6_told_88 rfl ?_
    refine ev_if_ne_f (tgt := 101) dX6_told_89 rfl (by decide) ?_
    refine ev_aload_n dX6_told_92 rfl ?_
    refine ev_getq dX6_told_93 fl_X6_7 rfl (hB.1 29 _ rfl) (hB.2 29 2 _ rfl) ?_
    refine ev_iload_n dX6_told_96 rfl ?_
    refine ev_iald dX6_told_97 (hB.1 30 _ rfl) (j := b) rfl (by omega) (by decide) ?_
    refine ev_goto (tgt := 116) dX6_told_98 rfl ?_
    exact ev_ireturn (ty := .int) dX6_told_116 rfl rfl ⟨rfl, rfl, rfl, rfl⟩
  · refine ev_iload_n dX6_told_39 rfl ?_
    refine ev_iconst (v := 1) dX6_told_40 rfl ?_
    refine ev_icmp_le_t (tgt := 88) dX6_told_41 rfl (by decide) ?_
    refine ev_iload_n dX6_told_88 rfl ?_
    refine ev_if_ne_f (tgt := 101) dX6_told_89 rfl (by decide) ?_
    refine ev_aload_n dX6_told_92 rfl ?_
    refine ev_getq dX6_told_93 fl_X6_7 rfl (hB.1 29 _ rfl) (hB.2 29 2 _ rfl) ?_
    refine ev_iload_n dX6_told_96 rfl ?_
    refine ev_iald dX6_told_97 (hB.1 30 _ rfl) (j := b) rfl (by omega) (by decide) ?_
    refine ev_goto (tgt := 116) dX6_told_98 rfl ?_
    exact ev_ireturn (ty := .int) dX6_told_116 rfl rfl ⟨rfl, rfl, rfl, rfl⟩
set_option maxRecDepth 100000 in
set_option maxHeartbeats 4000000 in
theorem t_X6_told_1 {sh : SH} {mi : MI} {mr : MR} (hB : ba_c sh mr) (nb : Nat) (hnb : mi 29 1 = nI nb) (hnb10 : nb ≤ 10) (b : Nat) (hb : b < nb) : EV none 2 0 0 mX6_told 0 (en_l mX6_told [pv_r 29, pv_i (nI b), pv_i 1]) [] sh mi mr (ok_r sh mr (mi 31 b) mi) := by
  show EV none 2 0 0 mX6_told 0 [some (pv_r 29), some (pv_i (nI b)), some (pv_i 1), none, none] [] sh mi mr _
  refine ev_aload_n dX6_told_0 rfl ?_
  refine ev_iload_n dX6_told_1 rfl ?_
  refine ev_v1i dX6_told_2 cv_X6_133 (hB.1 29 _ rfl) (Nat.le_of_ble_eq_true rfl) (by decide) (t_X6_isBook hB _) ?_
  refine ev_if_ne_t (tgt := 11) dX6_told_5 rfl (by rw [bi_1 (by rw [hnb]; exact (i_cases (by omega)).mpr ⟨b, hb, rfl⟩)]; decide) ?_
  refine ev_iload_n dX6_told_11 rfl ?_
  refine ev_iconst (v := 0) dX6_told_12 rfl ?_
  refine ev_iconst (v := 3) dX6_told_13 rfl ?_
  refine ev_s3i dX6_told_14 cs_X6_129 (Nat.le_of_ble_eq_true rfl) (by decide) (t_X6_in _ _ _) ?_
  refine ev_if_ne_t (tgt := 23) dX6_told_17 rfl (by rw [bi_1 (by decide)]; decide) ?_
  refine ev_iconst (v := 0) dX6_told_23 rfl ?_
  refine ev_istore_n dX6_told_24 (by decide) ?_
  refine ev_iconst (v := 0) dX6_told_25 rfl ?_
  refine ev_istore dX6_told_26 (by decide) ?_
  refine ev_iload dX6_told_28 rfl ?_
  refine ev_aload_n dX6_told_30 rfl ?_
  refine ev_getq dX6_told_31 fl_X6_13 rfl (hB.1 29 _ rfl) (hB.2 29 3 _ rfl) ?_
  refine ev_iload_n dX6_told_34 rfl ?_
  refine ev_iald dX6_told_35 (hB.1 31 _ rfl) (j := b) rfl (by omega) (by decide) ?_
  refine ev_icmp_ge (tgt := 88) dX6_told_36 rfl (fun h36 => ?_) (fun h36 => ?_)
  · refine ev_iload_n dX6_told_88 rfl ?_
    refine ev_if_ne_t (tgt := 101) dX6_told_89 rfl (by decide) ?_
    refine ev_iload_n dX6_told_101 rfl ?_
    refine ev_iconst (v := 1) dX6_told_102 rfl ?_
    refine ev_icmp_ne_f (tgt := 115) dX6_told_103 rfl (by decide) ?_
    refine ev_aload_n dX6_told_106 rfl ?_
    refine ev_getq dX6_told_107 fl_X6_13 rfl (hB.1 29 _ rfl) (hB.2 29 3 _ rfl) ?_
    refine ev_iload_n dX6_told_110 rfl ?_
    refine ev_iald dX6_told_111 (hB.1 31 _ rfl) (j := b) rfl (by omega) (by decide) ?_
    refine ev_goto (tgt := 116) dX6_told_112 rfl ?_
    exact ev_ireturn (ty := .int) dX6_told_116 rfl rfl ⟨rfl, rfl, rfl, rfl⟩
  · refine ev_iload_n dX6_told_39 rfl ?_
    refine ev_iconst (v := 1) dX6_told_40 rfl ?_
    refine ev_icmp_le_t (tgt := 88) dX6_told_41 rfl (by decide) ?_
    refine ev_iload_n dX6_told_88 rfl ?_
    refine ev_if_ne_t (tgt := 101) dX6_told_89 rfl (by decide) ?_
    refine ev_iload_n dX6_told_101 rfl ?_
    refine ev_iconst (v := 1) dX6_told_102 rfl ?_
    refine ev_icmp_ne_f (tgt := 115) dX6_told_103 rfl (by decide) ?_
    refine ev_aload_n dX6_told_106 rfl ?_
    refine ev_getq dX6_told_107 fl_X6_13 rfl (hB.1 29 _ rfl) (hB.2 29 3 _ rfl) ?_
    refine ev_iload_n dX6_told_110 rfl ?_
    refine ev_iald dX6_told_111 (hB.1 31 _ rfl) (j := b) rfl (by omega) (by decide) ?_
    refine ev_goto (tgt := 116) dX6_told_112 rfl ?_
    exact ev_ireturn (ty := .int) dX6_told_116 rfl rfl ⟨rfl, rfl, rfl, rfl⟩
set_option maxRecDepth 100000 in
set_option maxHeartbeats 4000000 in
theorem lp_X6_told_2 {sh : SH} {mi : MI} {mr : MR} (hB : ba_c sh mr) (nb : Nat) (hnb : mi 29 1 = nI nb) (hnb10 : nb ≤ 10) (b : Nat) (hb : b < nb) (g : Nat) (hg : mi 31 b = nI g) (hg6 : g ≤ 6) : ∀ i, i ≤ g → EV none 2 0 0 mX6_told 28 [some (pv_r 29), some (pv_i (nI b)), some (pv_i 2), some (pv_i (sm_c (fun k => mn (mi 33 (6 * b + k)) 16) i)), some (pv_i (nI i))] [] sh mi mr (ok_r sh mr (sm_c (fun k => mn (mi 33 (6 * b + k)) 16) g) mi) := by
  refine lp_i g (fun i hi ih => ?_)
  refine ev_iload dX6_told_28 rfl ?_
  refine ev_aload_n dX6_told_30 rfl ?_
  refine ev_getq dX6_told_31 fl_X6_13 rfl (hB.1 29 _ rfl) (hB.2 29 3 _ rfl) ?_
  refine ev_iload_n dX6_told_34 rfl ?_
  refine ev_iald dX6_told_35 (hB.1 31 _ rfl) (j := b) rfl (by omega) (by decide) ?_
  refine ev_icmp_ge (tgt := 88) dX6_told_36 rfl (fun h36 => ?_) (fun h36 => ?_)
  · have hin : i = g := by have := (nl_le hg rfl (by omega) (by omega)).mp h36; omega
    subst hin
    refine ev_iload_n dX6_told_88 rfl ?_
    refine ev_if_ne_t (tgt := 101) dX6_told_89 rfl (by decide) ?_
    refine ev_iload_n dX6_told_101 rfl ?_
    refine ev_iconst (v := 1) dX6_told_102 rfl ?_
    refine ev_icmp_ne_t (tgt := 115) dX6_told_103 rfl (by decide) ?_
    refine ev_iload_n dX6_told_115 rfl ?_
    exact ev_ireturn (ty := .int) dX6_told_116 rfl rfl ⟨rfl, rfl, rfl, rfl⟩
  · have hlt : i < g := by have := (not_congr (nl_le hg rfl (by omega) (by omega))).mp h36; omega
    refine ev_iload_n dX6_told_39 rfl ?_
    refine ev_iconst (v := 1) dX6_told_40 rfl ?_
    refine ev_icmp_le_f (tgt := 88) dX6_told_41 rfl (by decide) ?_
    refine ev_iload_n dX6_told_44 rfl ?_
    refine ev_iload_n dX6_told_45 rfl ?_
    refine ev_iconst (v := 2) dX6_told_46 rfl ?_
    refine ev_icmp_ne_f (tgt := 68) dX6_told_47 rfl (by decide) ?_
    refine ev_aload_n dX6_told_50 rfl ?_
    refine ev_getq dX6_told_51 fl_X6_19 rfl (hB.1 29 _ rfl) (hB.2 29 5 _ rfl) ?_
    refine ev_bipush (v := 6) dX6_told_54 rfl ?_
    refine ev_iload_n dX6_told_56 rfl ?_
    refine ev_imul dX6_told_57 ?_
    refine ev_iload dX6_told_58 rfl ?_
    refine ev_iadd dX6_told_60 ?_
    refine ev_iald dX6_told_61 (hB.1 33 _ rfl) (j := (6 * b) + i) (by simp [up_2, pk_mul, nI_add, n_5, n_6, n_12, n_144]) (by omega) (by decide) ?_
    refine ev_s1i dX6_told_62 cs_X6_141 (Nat.le_of_ble_eq_true rfl) (by decide) (t_X6_many _) ?_
    refine ev_goto (tgt := 80) dX6_told_65 rfl ?_
    refine ev_iadd dX6_told_80 ?_
    refine ev_istore_n dX6_told_81 (by decide) ?_
    refine ev_iincN dX6_told_82 rfl (by decide) ?_
    refine ev_goto (tgt := 28) dX6_told_85 rfl ?_
    exact ih hlt
set_option maxRecDepth 100000 in
set_option maxHeartbeats 4000000 in
theorem t_X6_told_2 {sh : SH} {mi : MI} {mr : MR} (hB : ba_c sh mr) (nb : Nat) (hnb : mi 29 1 = nI nb) (hnb10 : nb ≤ 10) (b : Nat) (hb : b < nb) (g : Nat) (hg : mi 31 b = nI g) (hg6 : g ≤ 6) : EV none 2 0 0 mX6_told 0 (en_l mX6_told [pv_r 29, pv_i (nI b), pv_i 2]) [] sh mi mr (ok_r sh mr (sm_c (fun k => mn (mi 33 (6 * b + k)) 16) g) mi) := by
  show EV none 2 0 0 mX6_told 0 [some (pv_r 29), some (pv_i (nI b)), some (pv_i 2), none, none] [] sh mi mr _
  refine ev_aload_n dX6_told_0 rfl ?_
  refine ev_iload_n dX6_told_1 rfl ?_
  refine ev_v1i dX6_told_2 cv_X6_133 (hB.1 29 _ rfl) (Nat.le_of_ble_eq_true rfl) (by decide) (t_X6_isBook hB _) ?_
  refine ev_if_ne_t (tgt := 11) dX6_told_5 rfl (by rw [bi_1 (by rw [hnb]; exact (i_cases (by omega)).mpr ⟨b, hb, rfl⟩)]; decide) ?_
  refine ev_iload_n dX6_told_11 rfl ?_
  refine ev_iconst (v := 0) dX6_told_12 rfl ?_
  refine ev_iconst (v := 3) dX6_told_13 rfl ?_
  refine ev_s3i dX6_told_14 cs_X6_129 (Nat.le_of_ble_eq_true rfl) (by decide) (t_X6_in _ _ _) ?_
  refine ev_if_ne_t (tgt := 23) dX6_told_17 rfl (by rw [bi_1 (by decide)]; decide) ?_
  refine ev_iconst (v := 0) dX6_told_23 rfl ?_
  refine ev_istore_n dX6_told_24 (by decide) ?_
  refine ev_iconst (v := 0) dX6_told_25 rfl ?_
  refine ev_istore dX6_told_26 (by decide) ?_
  exact lp_X6_told_2 hB nb hnb hnb10 b hb g hg hg6 0 (Nat.zero_le g)
set_option maxRecDepth 100000 in
set_option maxHeartbeats 4000000 in
theorem lp_X6_told_3 {sh : SH} {mi : MI} {mr : MR} (hB : ba_c sh mr) (nb : Nat) (hnb : mi 29 1 = nI nb) (hnb10 : nb ≤ 10) (b : Nat) (hb : b < nb) (g : Nat) (hg : mi 31 b = nI g) (hg6 : g ≤ 6) : ∀ i, i ≤ g → EV none 2 0 0 mX6_told 28 [some (pv_r 29), some (pv_i (nI b)), some (pv_i 3), some (pv_i (sm_c (fun k => mi 32 (6 * b + k)) i)), some (pv_i (nI i))] [] sh mi mr (ok_r sh mr (sm_c (fun k => mi 32 (6 * b + k)) g) mi) := by
  refine lp_i g (fun i hi ih => ?_)
  refine ev_iload dX6_told_28 rfl ?_
  refine ev_aload_n dX6_told_30 rfl ?_
  refine ev_getq dX6_told_31 fl_X6_13 rfl (hB.1 29 _ rfl) (hB.2 29 3 _ rfl) ?_
  refine ev_iload_n dX6_told_34 rfl ?_
  refine ev_iald dX6_told_35 (hB.1 31 _ rfl) (j := b) rfl (by omega) (by decide) ?_
  refine ev_icmp_ge (tgt := 88) dX6_told_36 rfl (fun h36 => ?_) (fun h36 => ?_)
  · have hin : i = g := by have := (nl_le hg rfl (by omega) (by omega)).mp h36; omega
    subst hin
    refine ev_iload_n dX6_told_88 rfl ?_
    refine ev_if_ne_t (tgt := 101) dX6_told_89 rfl (by decide) ?_
    refine ev_iload_n dX6_told_101 rfl ?_
    refine ev_iconst (v := 1) dX6_told_102 rfl ?_
    refine ev_icmp_ne_t (tgt := 115) dX6_told_103 rfl (by decide) ?_
    refine ev_iload_n dX6_told_115 rfl ?_
    exact ev_ireturn (ty := .int) dX6_told_116 rfl rfl ⟨rfl, rfl, rfl, rfl⟩
  · have hlt : i < g := by have := (not_congr (nl_le hg rfl (by omega) (by omega))).mp h36; omega
    refine ev_iload_n dX6_told_39 rfl ?_
    refine ev_iconst (v := 1) dX6_told_40 rfl ?_
    refine ev_icmp_le_f (tgt := 88) dX6_told_41 rfl (by decide) ?_
    refine ev_iload_n dX6_told_44 rfl ?_
    refine ev_iload_n dX6_told_45 rfl ?_
    refine ev_iconst (v := 2) dX6_told_46 rfl ?_
    refine ev_icmp_ne_t (tgt := 68) dX6_told_47 rfl (by decide) ?_
    refine ev_aload_n dX6_told_68 rfl ?_
    refine ev_getq dX6_told_69 fl_X6_16 rfl (hB.1 29 _ rfl) (hB.2 29 4 _ rfl) ?_
    refine ev_bipush (v := 6) dX6_told_72 rfl ?_
    refine ev_iload_n dX6_told_74 rfl ?_
    refine ev_imul dX6_told_75 ?_
    refine ev_iload dX6_told_76 rfl ?_
    refine ev_iadd dX6_told_78 ?_
    refine ev_iald dX6_told_79 (hB.1 32 _ rfl) (j := (6 * b) + i) (by simp [up_2, pk_mul, nI_add, n_5, n_6, n_12, n_144]) (by omega) (by decide) ?_
    refine ev_iadd dX6_told_80 ?_
    refine ev_istore_n dX6_told_81 (by decide) ?_
    refine ev_iincN dX6_told_82 rfl (by decide) ?_
    refine ev_goto (tgt := 28) dX6_told_85 rfl ?_
    exact ih hlt
set_option maxRecDepth 100000 in
set_option maxHeartbeats 4000000 in
theorem t_X6_told_3 {sh : SH} {mi : MI} {mr : MR} (hB : ba_c sh mr) (nb : Nat) (hnb : mi 29 1 = nI nb) (hnb10 : nb ≤ 10) (b : Nat) (hb : b < nb) (g : Nat) (hg : mi 31 b = nI g) (hg6 : g ≤ 6) : EV none 2 0 0 mX6_told 0 (en_l mX6_told [pv_r 29, pv_i (nI b), pv_i 3]) [] sh mi mr (ok_r sh mr (sm_c (fun k => mi 32 (6 * b + k)) g) mi) := by
  show EV none 2 0 0 mX6_told 0 [some (pv_r 29), some (pv_i (nI b)), some (pv_i 3), none, none] [] sh mi mr _
  refine ev_aload_n dX6_told_0 rfl ?_
  refine ev_iload_n dX6_told_1 rfl ?_
  refine ev_v1i dX6_told_2 cv_X6_133 (hB.1 29 _ rfl) (Nat.le_of_ble_eq_true rfl) (by decide) (t_X6_isBook hB _) ?_
  refine ev_if_ne_t (tgt := 11) dX6_told_5 rfl (by rw [bi_1 (by rw [hnb]; exact (i_cases (by omega)).mpr ⟨b, hb, rfl⟩)]; decide) ?_
  refine ev_iload_n dX6_told_11 rfl ?_
  refine ev_iconst (v := 0) dX6_told_12 rfl ?_
  refine ev_iconst (v := 3) dX6_told_13 rfl ?_
  refine ev_s3i dX6_told_14 cs_X6_129 (Nat.le_of_ble_eq_true rfl) (by decide) (t_X6_in _ _ _) ?_
  refine ev_if_ne_t (tgt := 23) dX6_told_17 rfl (by rw [bi_1 (by decide)]; decide) ?_
  refine ev_iconst (v := 0) dX6_told_23 rfl ?_
  refine ev_istore_n dX6_told_24 (by decide) ?_
  refine ev_iconst (v := 0) dX6_told_25 rfl ?_
  refine ev_istore dX6_told_26 (by decide) ?_
  exact lp_X6_told_3 hB nb hnb hnb10 b hb g hg hg6 0 (Nat.zero_le g)
theorem all_s {P : Nat → Prop} {i : Nat} (h : ∀ k, k < i → P k) (hi : P i) : ∀ k, k < i + 1 → P k := fun k hk => by
  by_cases e : k = i
  · subst e; exact hi
  · exact h k (by omega)
set_option maxRecDepth 100000 in
set_option maxHeartbeats 4000000 in
theorem lp_X6_pass2 {sh : SH} {mr : MR} (M0 : MI) (hB : ba_c sh mr) (nb : Nat) (hnb : M0 29 1 = nI nb) (hnb10 : nb ≤ 10) (b : Nat) (hb : b < nb) (p2 : Int32) : ∀ i, i ≤ 6 → EV none 2 0 0 mX6_pass 135 [some (pv_r 29), some (pv_i (nI b)), some (pv_i p2), some (pv_i (nI i))] [] sh (fl_r M0 34 (6 * b) i 0) mr (ok_r sh mr ((fl_r M0 34 (6 * b) 6 0) 30 b) (fl_r M0 34 (6 * b) 6 0)) := by
  refine lp_i 6 (fun i hi ih => ?_)
  refine ev_iload_n dX6_pass_135 rfl ?_
  refine ev_bipush (v := 6) dX6_pass_136 rfl ?_
  refine ev_icmp_ge (tgt := 159) dX6_pass_138 rfl (fun h138 => ?_) (fun h138 => ?_)
  · have hin : i = 6 := by have := (nl_le (x := 6) (a := 6) rfl (b := i) rfl (by omega) (by omega)).mp h138; omega
    subst hin
    refine ev_aload_n dX6_pass_159 rfl ?_
    refine ev_getq dX6_pass_160 fl_X6_7 rfl (hB.1 29 _ rfl) (hB.2 29 2 _ rfl) ?_
    refine ev_iload_n dX6_pass_163 rfl ?_
    refine ev_iald dX6_pass_164 (hB.1 30 _ rfl) (j := b) rfl (by omega) (by decide) ?_
    exact ev_ireturn (ty := .int) dX6_pass_165 rfl rfl ⟨rfl, rfl, rfl, rfl⟩
  · have hlt : i < 6 := by have := (not_congr (nl_le (x := 6) (a := 6) rfl (b := i) rfl (by omega) (by omega))).mp h138; omega
    refine ev_aload_n dX6_pass_141 rfl ?_
    refine ev_getq dX6_pass_142 fl_X6_22 rfl (hB.1 29 _ rfl) (hB.2 29 6 _ rfl) ?_
    refine ev_bipush (v := 6) dX6_pass_145 rfl ?_
    refine ev_iload_n dX6_pass_147 rfl ?_
    refine ev_imul dX6_pass_148 ?_
    refine ev_iload_n dX6_pass_149 rfl ?_
    refine ev_iadd dX6_pass_150 ?_
    refine ev_iconst (v := 0) dX6_pass_151 rfl ?_
    refine ev_zast dX6_pass_152 (hB.1 34 _ rfl) (j := (6 * b) + i) (by simp [up_2, pk_mul, nI_add, n_5, n_6, n_12, n_144]) (by omega) (by decide) rfl ?_
    refine ev_iincN dX6_pass_153 rfl (by decide) ?_
    refine ev_goto (tgt := 135) dX6_pass_156 rfl ?_
    have q := ih hlt
    rw [← fl_s] at q
    exact q
set_option maxRecDepth 100000 in
set_option maxHeartbeats 4000000 in
theorem lp_X6_pass {sh : SH} {mi : MI} {mr : MR} (hB : ba_c sh mr) (nb : Nat) (hnb : mi 29 1 = nI nb) (hnb10 : nb ≤ 10) (b : Nat) (hb : b < nb) (g : Nat) (hg : mi 31 b = nI g) (hg6 : g ≤ 6) (m : Nat) (hm : mi 29 13 = nI m) (hm50 : m < 50) : ∀ i, i ≤ g → EV none 2 0 0 mX6_pass 38 [some (pv_r 29), some (pv_i (nI b)), some (pv_i (bi ((¬ 5 ≤ (mi 30 b) ∧ ¬ (mi 31 b) ≤ 0) ∧ ∀ k, k < i → ¬ mi 34 (6 * b + k) = 0))), some (pv_i (nI i))] [] sh mi mr (fun v_ sh_ mi_ mr_ => ((¬ ((¬ 5 ≤ (mi 30 b) ∧ ¬ (mi 31 b) ≤ 0) ∧ ∀ k, k < g → ¬ mi 34 (6 * b + k) = 0)) ∧ (ok_r sh mr (-4) mi) v_ sh_ mi_ mr_) ∨ (((¬ 5 ≤ (mi 30 b) ∧ ¬ (mi 31 b) ≤ 0) ∧ ∀ k, k < g → ¬ mi 34 (6 * b + k) = 0) ∧ (ok_r sh mr ((fl_r (up_2 (up_2 (up_2 (up_2 mi 41 m (mi 30 b)) 42 m ((up_2 mi 41 m (mi 30 b)) 29 0)) 29 13 (((up_2 (up_2 mi 41 m (mi 30 b)) 42 m ((up_2 mi 41 m (mi 30 b)) 29 0)) 29 13) + 1)) 30 b (((up_2 (up_2 (up_2 mi 41 m (mi 30 b)) 42 m ((up_2 mi 41 m (mi 30 b)) 29 0)) 29 13 (((up_2 (up_2 mi 41 m (mi 30 b)) 42 m ((up_2 mi 41 m (mi 30 b)) 29 0)) 29 13) + 1)) 30 b) + 1)) 34 (6 * b) 6 0) 30 b) (fl_r (up_2 (up_2 (up_2 (up_2 mi 41 m (mi 30 b)) 42 m ((up_2 mi 41 m (mi 30 b)) 29 0)) 29 13 (((up_2 (up_2 mi 41 m (mi 30 b)) 42 m ((up_2 mi 41 m (mi 30 b)) 29 0)) 29 13) + 1)) 30 b (((up_2 (up_2 (up_2 mi 41 m (mi 30 b)) 42 m ((up_2 mi 41 m (mi 30 b)) 29 0)) 29 13 (((up_2 (up_2 mi 41 m (mi 30 b)) 42 m ((up_2 mi 41 m (mi 30 b)) 29 0)) 29 13) + 1)) 30 b) + 1)) 34 (6 * b) 6 0)) v_ sh_ mi_ mr_)) := by
  refine lp_i g (fun i hi ih => ?_)
  refine ev_iload_n dX6_pass_38 rfl ?_
  refine ev_aload_n dX6_pass_39 rfl ?_
  refine ev_getq dX6_pass_40 fl_X6_13 rfl (hB.1 29 _ rfl) (hB.2 29 3 _ rfl) ?_
  refine ev_iload_n dX6_pass_43 rfl ?_
  refine ev_iald dX6_pass_44 (hB.1 31 _ rfl) (j := b) rfl (by omega) (by decide) ?_
  refine ev_icmp_ge (tgt := 78) dX6_pass_45 rfl (fun h45 => ?_) (fun h45 => ?_)
  · have hin : i = g := by have := (nl_le hg rfl (by omega) (by omega)).mp h45; omega
    subst hin
    refine ev_iload_n dX6_pass_78 rfl ?_
    refine ev_ifb_ne (tgt := 85) dX6_pass_79 rfl (fun h79 => ?_) (fun h79 => ?_)
    · refine ev_aload_n dX6_pass_85 rfl ?_
      refine ev_getq dX6_pass_86 fl_X6_44 rfl (hB.1 29 _ rfl) (hB.2 29 14 _ rfl) ?_
      refine ev_aload_n dX6_pass_89 rfl ?_
      refine ev_geti dX6_pass_90 fl_X6_145 rfl (hB.1 29 _ rfl) ?_
      refine ev_aload_n dX6_pass_93 rfl ?_
      refine ev_getq dX6_pass_94 fl_X6_7 rfl (hB.1 29 _ rfl) (hB.2 29 2 _ rfl) ?_
      refine ev_iload_n dX6_pass_97 rfl ?_
      refine ev_iald dX6_pass_98 (hB.1 30 _ rfl) (j := b) rfl (by omega) (by decide) ?_
      refine ev_iast dX6_pass_99 (hB.1 41 _ rfl) (j := m) (by simp [up_2, pk_mul, nI_add, n_5, n_6, n_12, n_144, hm]) (by omega) (by decide) ?_
      refine ev_aload_n dX6_pass_100 rfl ?_
      refine ev_getq dX6_pass_101 fl_X6_47 rfl (hB.1 29 _ rfl) (hB.2 29 15 _ rfl) ?_
      refine ev_aload_n dX6_pass_104 rfl ?_
      refine ev_geti dX6_pass_105 fl_X6_145 rfl (hB.1 29 _ rfl) ?_
      refine ev_aload_n dX6_pass_108 rfl ?_
      refine ev_geti dX6_pass_109 fl_X6_148 rfl (hB.1 29 _ rfl) ?_
      refine ev_iast dX6_pass_112 (hB.1 42 _ rfl) (j := m) (by simp [up_2, pk_mul, nI_add, n_5, n_6, n_12, n_144, hm]) (by omega) (by decide) ?_
      refine ev_aload_n dX6_pass_113 rfl ?_
      refine ev_dup dX6_pass_114 ?_
      refine ev_geti dX6_pass_115 fl_X6_145 rfl (hB.1 29 _ rfl) ?_
      refine ev_iconst (v := 1) dX6_pass_118 rfl ?_
      refine ev_iadd dX6_pass_119 ?_
      refine ev_puti dX6_pass_120 fl_X6_145 rfl rfl (hB.1 29 _ rfl) ?_
      refine ev_aload_n dX6_pass_123 rfl ?_
      refine ev_getq dX6_pass_124 fl_X6_7 rfl (hB.1 29 _ rfl) (hB.2 29 2 _ rfl) ?_
      refine ev_iload_n dX6_pass_127 rfl ?_
      refine ev_dup2 dX6_pass_128 ?_
      refine ev_iald dX6_pass_129 (hB.1 30 _ rfl) (j := b) rfl (by omega) (by decide) ?_
      refine ev_iconst (v := 1) dX6_pass_130 rfl ?_
      refine ev_iadd dX6_pass_131 ?_
      refine ev_iast dX6_pass_132 (hB.1 30 _ rfl) (j := b) rfl (by omega) (by decide) ?_
      refine ev_iconst (v := 0) dX6_pass_133 rfl ?_
      refine ev_istore_n dX6_pass_134 (by decide) ?_
      have q := lp_X6_pass2 (up_2 (up_2 (up_2 (up_2 mi 41 m (mi 30 b)) 42 m ((up_2 mi 41 m (mi 30 b)) 29 0)) 29 13 (((up_2 (up_2 mi 41 m (mi 30 b)) 42 m ((up_2 mi 41 m (mi 30 b)) 29 0)) 29 13) + 1)) 30 b (((up_2 (up_2 (up_2 mi 41 m (mi 30 b)) 42 m ((up_2 mi 41 m (mi 30 b)) 29 0)) 29 13 (((up_2 (up_2 mi 41 m (mi 30 b)) 42 m ((up_2 mi 41 m (mi 30 b)) 29 0)) 29 13) + 1)) 30 b) + 1)) (sh := sh) (mr := mr) hB nb (by simp [up_2, hnb]) hnb10 b hb (bi ((¬ 5 ≤ (mi 30 b) ∧ ¬ (mi 31 b) ≤ 0) ∧ ∀ k, k < i → ¬ mi 34 (6 * b + k) = 0)) 0 (by decide)
      rw [fl_0] at q
      exact ev_post (fun v_ s_ m_ r_ h_ => Or.inr ⟨h79, h_⟩) q
    · refine ev_bipush (v := (-4)) dX6_pass_82 rfl ?_
      exact ev_ireturn (ty := .int) dX6_pass_84 rfl rfl (Or.inl ⟨h79, rfl, rfl, rfl, rfl⟩)
  · have hlt : i < g := by have := (not_congr (nl_le hg rfl (by omega) (by omega))).mp h45; omega
    refine ev_iload_n dX6_pass_48 rfl ?_
    refine ev_ifb_eq (tgt := 70) dX6_pass_49 rfl (fun h49 => ?_) (fun h49 => ?_)
    · refine ev_iconst (v := 0) dX6_pass_70 rfl ?_
      refine ev_istore_n dX6_pass_71 (by decide) ?_
      refine ev_iincN dX6_pass_72 rfl (by decide) ?_
      refine ev_goto (tgt := 38) dX6_pass_75 rfl ?_
      have q := ih hlt
      rw [show bi ((¬ 5 ≤ (mi 30 b) ∧ ¬ (mi 31 b) ≤ 0) ∧ ∀ k, k < (i + 1) → ¬ mi 34 (6 * b + k) = 0) = _ from bi_f (fun q => h49 ⟨q.1, fun k hk => q.2 k (by omega)⟩)] at q
      exact q
    · refine ev_aload_n dX6_pass_52 rfl ?_
      refine ev_getq dX6_pass_53 fl_X6_22 rfl (hB.1 29 _ rfl) (hB.2 29 6 _ rfl) ?_
      refine ev_bipush (v := 6) dX6_pass_56 rfl ?_
      refine ev_iload_n dX6_pass_58 rfl ?_
      refine ev_imul dX6_pass_59 ?_
      refine ev_iload_n dX6_pass_60 rfl ?_
      refine ev_iadd dX6_pass_61 ?_
      refine ev_zald dX6_pass_62 (hB.1 34 _ rfl) (j := (6 * b) + i) (by simp [up_2, pk_mul, nI_add, n_5, n_6, n_12, n_144, hm]) (by omega) (by decide) ?_
      refine ev_if_eq (tgt := 70) dX6_pass_63 rfl (fun h63 => ?_) (fun h63 => ?_)
      · refine ev_iconst (v := 0) dX6_pass_70 rfl ?_
        refine ev_istore_n dX6_pass_71 (by decide) ?_
        refine ev_iincN dX6_pass_72 rfl (by decide) ?_
        refine ev_goto (tgt := 38) dX6_pass_75 rfl ?_
        have q := ih hlt
        rw [show bi ((¬ 5 ≤ (mi 30 b) ∧ ¬ (mi 31 b) ≤ 0) ∧ ∀ k, k < (i + 1) → ¬ mi 34 (6 * b + k) = 0) = _ from bi_f (fun q => q.2 i (by omega) h63)] at q
        exact q
      · refine ev_iconst (v := 1) dX6_pass_66 rfl ?_
        refine ev_goto (tgt := 71) dX6_pass_67 rfl ?_
        refine ev_istore_n dX6_pass_71 (by decide) ?_
        refine ev_iincN dX6_pass_72 rfl (by decide) ?_
        refine ev_goto (tgt := 38) dX6_pass_75 rfl ?_
        have q := ih hlt
        rw [show bi ((¬ 5 ≤ (mi 30 b) ∧ ¬ (mi 31 b) ≤ 0) ∧ ∀ k, k < (i + 1) → ¬ mi 34 (6 * b + k) = 0) = _ from bi_1 ⟨h49.1, all_s h49.2 h63⟩] at q
        exact q
set_option maxRecDepth 100000 in
set_option maxHeartbeats 4000000 in
theorem t_X6_pass_k {sh : SH} {mi : MI} {mr : MR} (hB : ba_c sh mr) (nb : Nat) (hnb : mi 29 1 = nI nb) (hnb10 : nb ≤ 10) (b : Nat) (hb : b < nb) (g : Nat) (hg : mi 31 b = nI g) (hg6 : g ≤ 6) (m : Nat) (hm : mi 29 13 = nI m) (hm50 : m < 50) : EV none 2 0 0 mX6_pass 0 (en_l mX6_pass [pv_r 29, pv_i (nI b)]) [] sh mi mr (fun v_ sh_ mi_ mr_ => ((¬ ((¬ 5 ≤ (mi 30 b) ∧ ¬ (mi 31 b) ≤ 0) ∧ ∀ k, k < g → ¬ mi 34 (6 * b + k) = 0)) ∧ (ok_r sh mr (-4) mi) v_ sh_ mi_ mr_) ∨ (((¬ 5 ≤ (mi 30 b) ∧ ¬ (mi 31 b) ≤ 0) ∧ ∀ k, k < g → ¬ mi 34 (6 * b + k) = 0) ∧ (ok_r sh mr ((fl_r (up_2 (up_2 (up_2 (up_2 mi 41 m (mi 30 b)) 42 m ((up_2 mi 41 m (mi 30 b)) 29 0)) 29 13 (((up_2 (up_2 mi 41 m (mi 30 b)) 42 m ((up_2 mi 41 m (mi 30 b)) 29 0)) 29 13) + 1)) 30 b (((up_2 (up_2 (up_2 mi 41 m (mi 30 b)) 42 m ((up_2 mi 41 m (mi 30 b)) 29 0)) 29 13 (((up_2 (up_2 mi 41 m (mi 30 b)) 42 m ((up_2 mi 41 m (mi 30 b)) 29 0)) 29 13) + 1)) 30 b) + 1)) 34 (6 * b) 6 0) 30 b) (fl_r (up_2 (up_2 (up_2 (up_2 mi 41 m (mi 30 b)) 42 m ((up_2 mi 41 m (mi 30 b)) 29 0)) 29 13 (((up_2 (up_2 mi 41 m (mi 30 b)) 42 m ((up_2 mi 41 m (mi 30 b)) 29 0)) 29 13) + 1)) 30 b (((up_2 (up_2 (up_2 mi 41 m (mi 30 b)) 42 m ((up_2 mi 41 m (mi 30 b)) 29 0)) 29 13 (((up_2 (up_2 mi 41 m (mi 30 b)) 42 m ((up_2 mi 41 m (mi 30 b)) 29 0)) 29 13) + 1)) 30 b) + 1)) 34 (6 * b) 6 0)) v_ sh_ mi_ mr_)) := by
  show EV none 2 0 0 mX6_pass 0 [some (pv_r 29), some (pv_i (nI b)), none, none] [] sh mi mr _
  refine ev_aload_n dX6_pass_0 rfl ?_
  refine ev_iload_n dX6_pass_1 rfl ?_
  refine ev_v1i dX6_pass_2 cv_X6_133 (hB.1 29 _ rfl) (Nat.le_of_ble_eq_true rfl) (by decide) (t_X6_isBook hB _) ?_
  refine ev_if_ne_t (tgt := 11) dX6_pass_5 rfl (by rw [bi_1 (by rw [hnb]; exact (i_cases (by omega)).mpr ⟨b, hb, rfl⟩)]; decide) ?_
  refine ev_aload_n dX6_pass_11 rfl ?_
  refine ev_getq dX6_pass_12 fl_X6_7 rfl (hB.1 29 _ rfl) (hB.2 29 2 _ rfl) ?_
  refine ev_iload_n dX6_pass_15 rfl ?_
  refine ev_iald dX6_pass_16 (hB.1 30 _ rfl) (j := b) rfl (by omega) (by decide) ?_
  refine ev_iconst (v := 5) dX6_pass_17 rfl ?_
  refine ev_icmp_ge (tgt := 34) dX6_pass_18 rfl (fun h18 => ?_) (fun h18 => ?_)
  · refine ev_iconst (v := 0) dX6_pass_34 rfl ?_
    refine ev_istore_n dX6_pass_35 (by decide) ?_
    refine ev_iconst (v := 0) dX6_pass_36 rfl ?_
    refine ev_istore_n dX6_pass_37 (by decide) ?_
    obtain ⟨z, hz⟩ : ∃ z : Nat, z = 0 := ⟨0, rfl⟩
    have q := lp_X6_pass hB nb hnb hnb10 b hb g hg hg6 m hm hm50 z (by omega)
    rw [show bi ((¬ 5 ≤ (mi 30 b) ∧ ¬ (mi 31 b) ≤ 0) ∧ ∀ k, k < z → ¬ mi 34 (6 * b + k) = 0) = _ from bi_f (fun q => q.1.1 h18)] at q
    subst hz
    exact q
  · refine ev_aload_n dX6_pass_21 rfl ?_
    refine ev_getq dX6_pass_22 fl_X6_13 rfl (hB.1 29 _ rfl) (hB.2 29 3 _ rfl) ?_
    refine ev_iload_n dX6_pass_25 rfl ?_
    refine ev_iald dX6_pass_26 (hB.1 31 _ rfl) (j := b) rfl (by omega) (by decide) ?_
    refine ev_if_le (tgt := 34) dX6_pass_27 rfl (fun h27 => ?_) (fun h27 => ?_)
    · refine ev_iconst (v := 0) dX6_pass_34 rfl ?_
      refine ev_istore_n dX6_pass_35 (by decide) ?_
      refine ev_iconst (v := 0) dX6_pass_36 rfl ?_
      refine ev_istore_n dX6_pass_37 (by decide) ?_
      obtain ⟨z, hz⟩ : ∃ z : Nat, z = 0 := ⟨0, rfl⟩
      have q := lp_X6_pass hB nb hnb hnb10 b hb g hg hg6 m hm hm50 z (by omega)
      rw [show bi ((¬ 5 ≤ (mi 30 b) ∧ ¬ (mi 31 b) ≤ 0) ∧ ∀ k, k < z → ¬ mi 34 (6 * b + k) = 0) = _ from bi_f (fun q => q.1.2 h27)] at q
      subst hz
      exact q
    · refine ev_iconst (v := 1) dX6_pass_30 rfl ?_
      refine ev_goto (tgt := 35) dX6_pass_31 rfl ?_
      refine ev_istore_n dX6_pass_35 (by decide) ?_
      refine ev_iconst (v := 0) dX6_pass_36 rfl ?_
      refine ev_istore_n dX6_pass_37 (by decide) ?_
      obtain ⟨z, hz⟩ : ∃ z : Nat, z = 0 := ⟨0, rfl⟩
      have q := lp_X6_pass hB nb hnb hnb10 b hb g hg hg6 m hm hm50 z (by omega)
      rw [show bi ((¬ 5 ≤ (mi 30 b) ∧ ¬ (mi 31 b) ≤ 0) ∧ ∀ k, k < z → ¬ mi 34 (6 * b + k) = 0) = _ from bi_1 ⟨⟨h18, h27⟩, fun k hk => by omega⟩] at q
      subst hz
      exact q
