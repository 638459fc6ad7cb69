theorem i_gt {x y : Int32} : ¬ y < x ↔ x ≤ y := by rw [Int32.not_lt]
set_option maxRecDepth 100000 in
set_option maxHeartbeats 4000000 in
theorem t_X5_within {sh : SH} {mi : MI} {mr : MR} (v a b : Int32) : EV none 0 0 0 mX5_within 0 (en_l mX5_within [pv_i v, pv_i a, pv_i b]) [] sh mi mr (ok_r sh mr (bi (a ≤ v ∧ v ≤ b)) mi) := by
  show EV none 0 0 0 mX5_within 0 [some (pv_i v), some (pv_i a), some (pv_i b)] [] sh mi mr _
  refine ev_iload_n dX5_within_0 rfl ?_
  refine ev_iload_n dX5_within_1 rfl ?_
  refine ev_icmp_lt (tgt := 14) dX5_within_2 rfl (fun h2 => ?_) (fun h2 => ?_)
  · refine ev_iconst (v := 0) dX5_within_14 rfl ?_
    exact ev_ireturn (ty := .boolean) dX5_within_15 rfl rfl ⟨congrArg (fun z => some (pv_i z)) (by unfold bi; simp only [Int32.lt_iff_toInt_lt, Int32.le_iff_toInt_le] at *; split <;> first | rfl | (exfalso; omega)), rfl, rfl, rfl⟩
  · refine ev_iload_n dX5_within_5 rfl ?_
    refine ev_iload_n dX5_within_6 rfl ?_
    refine ev_icmp_gt (tgt := 14) dX5_within_7 rfl (fun h7 => ?_) (fun h7 => ?_)
    · refine ev_iconst (v := 0) dX5_within_14 rfl ?_
      exact ev_ireturn (ty := .boolean) dX5_within_15 rfl rfl ⟨congrArg (fun z => some (pv_i z)) (by unfold bi; simp only [Int32.lt_iff_toInt_lt, Int32.le_iff_toInt_le] at *; split <;> first | rfl | (exfalso; omega)), rfl, rfl, rfl⟩
    · refine ev_iconst (v := 1) dX5_within_10 rfl ?_
      refine ev_goto (tgt := 15) dX5_within_11 rfl ?_
      exact ev_ireturn (ty := .boolean) dX5_within_15 rfl rfl ⟨congrArg (fun z => some (pv_i z)) (by unfold bi; simp only [Int32.lt_iff_toInt_lt, Int32.le_iff_toInt_le] at *; split <;> first | rfl | (exfalso; omega)), rfl, rfl, rfl⟩
set_option maxRecDepth 100000 in
set_option maxHeartbeats 4000000 in
theorem t_X6_in {sh : SH} {mi : MI} {mr : MR} (v a b : Int32) : EV none 0 0 0 mX6_in 0 (en_l mX6_in [pv_i v, pv_i a, pv_i b]) [] sh mi mr (ok_r sh mr (bi (a ≤ v ∧ v ≤ b)) mi) := by
  show EV none 0 0 0 mX6_in 0 [some (pv_i v), some (pv_i a), some (pv_i b)] [] sh mi mr _
  refine ev_iload_n dX6_in_0 rfl ?_
  refine ev_iload_n dX6_in_1 rfl ?_
  refine ev_icmp_lt (tgt := 14) dX6_in_2 rfl (fun h2 => ?_) (fun h2 => ?_)
  · refine ev_iconst (v := 0) dX6_in_14 rfl ?_
    exact ev_ireturn (ty := .boolean) dX6_in_15 rfl rfl ⟨congrArg (fun z => some (pv_i z)) (by unfold bi; simp only [Int32.lt_iff_toInt_lt, Int32.le_iff_toInt_le] at *; split <;> first | rfl | (exfalso; omega)), rfl, rfl, rfl⟩
  · refine ev_iload_n dX6_in_5 rfl ?_
    refine ev_iload_n dX6_in_6 rfl ?_
    refine ev_icmp_gt (tgt := 14) dX6_in_7 rfl (fun h7 => ?_) (fun h7 => ?_)
    · refine ev_iconst (v := 0) dX6_in_14 rfl ?_
      exact ev_ireturn (ty := .boolean) dX6_in_15 rfl rfl ⟨congrArg (fun z => some (pv_i z)) (by unfold bi; simp only [Int32.lt_iff_toInt_lt, Int32.le_iff_toInt_le] at *; split <;> first | rfl | (exfalso; omega)), rfl, rfl, rfl⟩
    · refine ev_iconst (v := 1) dX6_in_10 rfl ?_
      refine ev_goto (tgt := 15) dX6_in_11 rfl ?_
      exact ev_ireturn (ty := .boolean) dX6_in_15 rfl rfl ⟨congrArg (fun z => some (pv_i z)) (by unfold bi; simp only [Int32.lt_iff_toInt_lt, Int32.le_iff_toInt_le] at *; split <;> first | rfl | (exfalso; omega)), rfl, rfl, rfl⟩
set_option maxRecDepth 100000 in
set_option maxHeartbeats 4000000 in
theorem t_X5_isBench {sh : SH} {mi : MI} {mr : MR} (v : Int32) : EV none 1 0 0 mX5_isBench 0 (en_l mX5_isBench [pv_i v]) [] sh mi mr (ok_r sh mr (bi (0 ≤ v ∧ v ≤ 4)) mi) := by
  show EV none 1 0 0 mX5_isBench 0 [some (pv_i v)] [] sh mi mr _
  refine ev_iload_n dX5_isBench_0 rfl ?_
  refine ev_iconst (v := 0) dX5_isBench_1 rfl ?_
  refine ev_iconst (v := 4) dX5_isBench_2 rfl ?_
  refine ev_s3i dX5_isBench_3 cs_X5_57 (by decide) (by decide) (t_X5_within _ _ _) ?_
  exact ev_ireturn (ty := .boolean) dX5_isBench_6 rfl bi_nar ⟨rfl, rfl, rfl, rfl⟩
set_option maxRecDepth 100000 in
set_option maxHeartbeats 4000000 in
theorem t_X5_isSign {sh : SH} {mi : MI} {mr : MR} (v : Int32) : EV none 1 0 0 mX5_isSign 0 (en_l mX5_isSign [pv_i v]) [] sh mi mr (ok_r sh mr (bi (0 ≤ v ∧ v ≤ 26)) mi) := by
  show EV none 1 0 0 mX5_isSign 0 [some (pv_i v)] [] sh mi mr _
  refine ev_iload_n dX5_isSign_0 rfl ?_
  refine ev_iconst (v := 0) dX5_isSign_1 rfl ?_
  refine ev_bipush (v := 26) dX5_isSign_2 rfl ?_
  refine ev_s3i dX5_isSign_4 cs_X5_57 (by decide) (by decide) (t_X5_within _ _ _) ?_
  exact ev_ireturn (ty := .boolean) dX5_isSign_7 rfl bi_nar ⟨rfl, rfl, rfl, rfl⟩
set_option maxRecDepth 100000 in
set_option maxHeartbeats 4000000 in
theorem t_X5_isDay {sh : SH} {mi : MI} {mr : MR} (v : Int32) : EV none 1 0 0 mX5_isDay 0 (en_l mX5_isDay [pv_i v]) [] sh mi mr (ok_r sh mr (bi (0 ≤ v ∧ v ≤ 1000)) mi) := by
  show EV none 1 0 0 mX5_isDay 0 [some (pv_i v)] [] sh mi mr _
  refine ev_iload_n dX5_isDay_0 rfl ?_
  refine ev_iconst (v := 0) dX5_isDay_1 rfl ?_
  refine ev_sipush (v := 1000) dX5_isDay_2 rfl ?_
  refine ev_s3i dX5_isDay_5 cs_X5_57 (by decide) (by decide) (t_X5_within _ _ _) ?_
  exact ev_ireturn (ty := .boolean) dX5_isDay_8 rfl bi_nar ⟨rfl, rfl, rfl, rfl⟩
set_option maxRecDepth 100000 in
set_option maxHeartbeats 4000000 in
theorem t_X6_isBench {sh : SH} {mi : MI} {mr : MR} (v : Int32) : EV none 1 0 0 mX6_isBench 0 (en_l mX6_isBench [pv_i v]) [] sh mi mr (ok_r sh mr (bi (0 ≤ v ∧ v ≤ 4)) mi) := by
  show EV none 1 0 0 mX6_isBench 0 [some (pv_i v)] [] sh mi mr _
  refine ev_iload_n dX6_isBench_0 rfl ?_
  refine ev_iconst (v := 0) dX6_isBench_1 rfl ?_
  refine ev_iconst (v := 4) dX6_isBench_2 rfl ?_
  refine ev_s3i dX6_isBench_3 cs_X6_129 (by decide) (by decide) (t_X6_in _ _ _) ?_
  exact ev_ireturn (ty := .boolean) dX6_isBench_6 rfl bi_nar ⟨rfl, rfl, rfl, rfl⟩
set_option maxRecDepth 100000 in
set_option maxHeartbeats 4000000 in
theorem t_X6_isDay {sh : SH} {mi : MI} {mr : MR} (v : Int32) : EV none 1 0 0 mX6_isDay 0 (en_l mX6_isDay [pv_i v]) [] sh mi mr (ok_r sh mr (bi (0 ≤ v ∧ v ≤ 1000)) mi) := by
  show EV none 1 0 0 mX6_isDay 0 [some (pv_i v)] [] sh mi mr _
  refine ev_iload_n dX6_isDay_0 rfl ?_
  refine ev_iconst (v := 0) dX6_isDay_1 rfl ?_
  refine ev_sipush (v := 1000) dX6_isDay_2 rfl ?_
  refine ev_s3i dX6_isDay_5 cs_X6_129 (by decide) (by decide) (t_X6_in _ _ _) ?_
  exact ev_ireturn (ty := .boolean) dX6_isDay_8 rfl bi_nar ⟨rfl, rfl, rfl, rfl⟩
set_option maxRecDepth 100000 in
set_option maxHeartbeats 4000000 in
theorem t_X5_isSize {sh : SH} {mi : MI} {mr : MR} (v w : Int32) : EV none 1 0 0 mX5_isSize 0 (en_l mX5_isSize [pv_i v, pv_i w]) [] sh mi mr (ok_r sh mr (bi ((1 ≤ v ∧ v ≤ 12) ∧ 1 ≤ w ∧ w ≤ 12)) mi) := by
  show EV none 1 0 0 mX5_isSize 0 [some (pv_i v), some (pv_i w)] [] sh mi mr _
  refine ev_iload_n dX5_isSize_0 rfl ?_
  refine ev_iconst (v := 1) dX5_isSize_1 rfl ?_
  refine ev_bipush (v := 12) dX5_isSize_2 rfl ?_
  refine ev_s3i dX5_isSize_4 cs_X5_57 (by decide) (by decide) (t_X5_within _ _ _) ?_
  refine ev_ifb_eq (tgt := 24) dX5_isSize_7 rfl (fun h7 => ?_) (fun h7 => ?_)
  · refine ev_iconst (v := 0) dX5_isSize_24 rfl ?_
    exact ev_ireturn (ty := .boolean) dX5_isSize_25 rfl rfl ⟨congrArg (fun z => some (pv_i z)) (by unfold bi; simp only [Int32.lt_iff_toInt_lt, Int32.le_iff_toInt_le] at *; split <;> first | rfl | (exfalso; omega)), rfl, rfl, rfl⟩
  · refine ev_iload_n dX5_isSize_10 rfl ?_
    refine ev_iconst (v := 1) dX5_isSize_11 rfl ?_
    refine ev_bipush (v := 12) dX5_isSize_12 rfl ?_
    refine ev_s3i dX5_isSize_14 cs_X5_57 (by decide) (by decide) (t_X5_within _ _ _) ?_
    refine ev_ifb_eq (tgt := 24) dX5_isSize_17 rfl (fun h17 => ?_) (fun h17 => ?_)
    · refine ev_iconst (v := 0) dX5_isSize_24 rfl ?_
      exact ev_ireturn (ty := .boolean) dX5_isSize_25 rfl rfl ⟨congrArg (fun z => some (pv_i z)) (by unfold bi; simp only [Int32.lt_iff_toInt_lt, Int32.le_iff_toInt_le] at *; split <;> first | rfl | (exfalso; omega)), rfl, rfl, rfl⟩
    · refine ev_iconst (v := 1) dX5_isSize_20 rfl ?_
      refine ev_goto (tgt := 25) dX5_isSize_21 rfl ?_
      exact ev_ireturn (ty := .boolean) dX5_isSize_25 rfl rfl ⟨congrArg (fun z => some (pv_i z)) (by unfold bi; simp only [Int32.lt_iff_toInt_lt, Int32.le_iff_toInt_le] at *; split <;> first | rfl | (exfalso; omega)), rfl, rfl, rfl⟩
set_option maxRecDepth 100000 in
set_option maxHeartbeats 4000000 in
theorem t_X0_allOf {sh : SH} {mi : MI} {mr : MR} (n : Int32) : EV none 0 0 0 mX0_allOf 0 (en_l mX0_allOf [pv_i n]) [] sh mi mr (ok_r sh mr ((1 <<< (n &&& 31)) - 1) mi) := by
  show EV none 0 0 0 mX0_allOf 0 [some (pv_i n)] [] sh mi mr _
  refine ev_iconst (v := 1) dX0_allOf_0 rfl ?_
  refine ev_iload_n dX0_allOf_1 rfl ?_
  refine ev_ishl dX0_allOf_2 ?_
  refine ev_iconst (v := 1) dX0_allOf_3 rfl ?_
  refine ev_isub dX0_allOf_4 ?_
  exact ev_ireturn (ty := .int) dX0_allOf_5 rfl rfl ⟨rfl, rfl, rfl, rfl⟩
