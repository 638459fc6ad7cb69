set_option maxRecDepth 100000 in
set_option maxHeartbeats 4000000 in
theorem t_J6_bitCount {sh : SH} {mi : MI} {mr : MR} (x : Int32) : EV none 0 0 0 mJ6_bitCount_0f7a4 0 (en_l mJ6_bitCount_0f7a4 [pv_i x]) [] sh mi mr (ok_r sh mr (bc x) mi) := by
  show EV none 0 0 0 mJ6_bitCount_0f7a4 0 [some (pv_i x)] [] sh mi mr _
  refine ev_iload_n dJ6_bitCount_0f7a4_0 rfl ?_
  refine ev_iload_n dJ6_bitCount_0f7a4_1 rfl ?_
  refine ev_iconst (v := 1) dJ6_bitCount_0f7a4_2 rfl ?_
  refine ev_iushr dJ6_bitCount_0f7a4_3 ?_
  refine ev_ldcw dJ6_bitCount_0f7a4_4 kc_J6_265 ?_
  refine ev_iand dJ6_bitCount_0f7a4_7 ?_
  refine ev_isub dJ6_bitCount_0f7a4_8 ?_
  refine ev_istore_n dJ6_bitCount_0f7a4_9 (by decide) ?_
  refine ev_iload_n dJ6_bitCount_0f7a4_10 rfl ?_
  refine ev_ldcw dJ6_bitCount_0f7a4_11 kc_J6_266 ?_
  refine ev_iand dJ6_bitCount_0f7a4_14 ?_
  refine ev_iload_n dJ6_bitCount_0f7a4_15 rfl ?_
  refine ev_iconst (v := 2) dJ6_bitCount_0f7a4_16 rfl ?_
  refine ev_iushr dJ6_bitCount_0f7a4_17 ?_
  refine ev_ldcw dJ6_bitCount_0f7a4_18 kc_J6_266 ?_
  refine ev_iand dJ6_bitCount_0f7a4_21 ?_
  refine ev_iadd dJ6_bitCount_0f7a4_22 ?_
  refine ev_istore_n dJ6_bitCount_0f7a4_23 (by decide) ?_
  refine ev_iload_n dJ6_bitCount_0f7a4_24 rfl ?_
  refine ev_iload_n dJ6_bitCount_0f7a4_25 rfl ?_
  refine ev_iconst (v := 4) dJ6_bitCount_0f7a4_26 rfl ?_
  refine ev_iushr dJ6_bitCount_0f7a4_27 ?_
  refine ev_iadd dJ6_bitCount_0f7a4_28 ?_
  refine ev_ldcw dJ6_bitCount_0f7a4_29 kc_J6_267 ?_
  refine ev_iand dJ6_bitCount_0f7a4_32 ?_
  refine ev_istore_n dJ6_bitCount_0f7a4_33 (by decide) ?_
  refine ev_iload_n dJ6_bitCount_0f7a4_34 rfl ?_
  refine ev_iload_n dJ6_bitCount_0f7a4_35 rfl ?_
  refine ev_bipush (v := 8) dJ6_bitCount_0f7a4_36 rfl ?_
  refine ev_iushr dJ6_bitCount_0f7a4_38 ?_
  refine ev_iadd dJ6_bitCount_0f7a4_39 ?_
  refine ev_istore_n dJ6_bitCount_0f7a4_40 (by decide) ?_
  refine ev_iload_n dJ6_bitCount_0f7a4_41 rfl ?_
  refine ev_iload_n dJ6_bitCount_0f7a4_42 rfl ?_
  refine ev_bipush (v := 16) dJ6_bitCount_0f7a4_43 rfl ?_
  refine ev_iushr dJ6_bitCount_0f7a4_45 ?_
  refine ev_iadd dJ6_bitCount_0f7a4_46 ?_
  refine ev_istore_n dJ6_bitCount_0f7a4_47 (by decide) ?_
  refine ev_iload_n dJ6_bitCount_0f7a4_48 rfl ?_
  refine ev_bipush (v := 63) dJ6_bitCount_0f7a4_49 rfl ?_
  refine ev_iand dJ6_bitCount_0f7a4_51 ?_
  exact ev_ireturn (ty := .int) dJ6_bitCount_0f7a4_52 rfl rfl ⟨rfl, rfl, rfl, rfl⟩
set_option maxRecDepth 100000 in
set_option maxHeartbeats 4000000 in
theorem t_X0_addGathering {sh : SH} {mi : MI} {mr : MR} {q : Nat} (hk : bk_c sh mr q) (p1 : Int32) (g : Nat) (hg : mi q 5 = nI g) (hg6 : g ≤ 6) : EV none 1 0 0 mX0_addGathering 0 (en_l mX0_addGathering [pv_r q, pv_i p1]) [] sh mi mr (fun v_ sh_ mi_ mr_ => (((mi q 5) < 6) ∧ (ok_r sh mr (((up_2 (up_2 (up_2 mi (q + 1) g p1) (q + 2) g ((1 <<< (p1 &&& 31)) - 1)) q 5 (((up_2 (up_2 mi (q + 1) g p1) (q + 2) g ((1 <<< (p1 &&& 31)) - 1)) q 5) + 1)) q 5) - 1) (up_2 (up_2 (up_2 mi (q + 1) g p1) (q + 2) g ((1 <<< (p1 &&& 31)) - 1)) q 5 (((up_2 (up_2 mi (q + 1) g p1) (q + 2) g ((1 <<< (p1 &&& 31)) - 1)) q 5) + 1))) v_ sh_ mi_ mr_) ∨ ((¬ (mi q 5) < 6) ∧ (ok_r sh mr (-6) mi) v_ sh_ mi_ mr_)) := by
  show EV none 1 0 0 mX0_addGathering 0 [some (pv_r q), some (pv_i p1)] [] sh mi mr _
  refine ev_aload_n dX0_addGathering_0 rfl ?_
  refine ev_geti dX0_addGathering_1 fl_X0_27 rfl hk.1 ?_
  refine ev_bipush (v := 6) dX0_addGathering_4 rfl ?_
  refine ev_icmp_lt (tgt := 12) dX0_addGathering_6 rfl (fun h6 => ?_) (fun h6 => ?_)
  · refine ev_aload_n dX0_addGathering_12 rfl ?_
    refine ev_getq dX0_addGathering_13 fl_X0_9 rfl hk.1 hk.2.1.1 ?_
    refine ev_aload_n dX0_addGathering_16 rfl ?_
    refine ev_geti dX0_addGathering_17 fl_X0_27 rfl hk.1 ?_
    refine ev_iload_n dX0_addGathering_20 rfl ?_
    refine ev_iast dX0_addGathering_21 hk.2.2.1 (j := g) (by simp [up_2, pk_mul, nI_add, n_5, n_6, n_12, n_144, hg]) ((nl_lt hg (b := 6) rfl (by omega) (by decide)).mp h6) (by decide) ?_
    refine ev_aload_n dX0_addGathering_22 rfl ?_
    refine ev_getq dX0_addGathering_23 fl_X0_15 rfl hk.1 hk.2.1.2.1 ?_
    refine ev_aload_n dX0_addGathering_26 rfl ?_
    refine ev_geti dX0_addGathering_27 fl_X0_27 rfl hk.1 ?_
    refine ev_iload_n dX0_addGathering_30 rfl ?_
    refine ev_s1i dX0_addGathering_31 cs_X0_46 (Nat.le_of_ble_eq_true rfl) (by decide) (t_X0_allOf _) ?_
    refine ev_iast dX0_addGathering_34 hk.2.2.2.1 (j := g) (by simp [up_2, pk_mul, nI_add, n_5, n_6, n_12, n_144, hg]) ((nl_lt hg (b := 6) rfl (by omega) (by decide)).mp h6) (by decide) ?_
    refine ev_aload_n dX0_addGathering_35 rfl ?_
    refine ev_dup dX0_addGathering_36 ?_
    refine ev_geti dX0_addGathering_37 fl_X0_27 rfl hk.1 ?_
    refine ev_iconst (v := 1) dX0_addGathering_40 rfl ?_
    refine ev_iadd dX0_addGathering_41 ?_
    refine ev_puti dX0_addGathering_42 fl_X0_27 rfl rfl hk.1 ?_
    refine ev_aload_n dX0_addGathering_45 rfl ?_
    refine ev_geti dX0_addGathering_46 fl_X0_27 rfl hk.1 ?_
    refine ev_iconst (v := 1) dX0_addGathering_49 rfl ?_
    refine ev_isub dX0_addGathering_50 ?_
    exact ev_ireturn (ty := .int) dX0_addGathering_51 rfl rfl (Or.inl ⟨h6, rfl, rfl, rfl, rfl⟩)
  · refine ev_bipush (v := (-6)) dX0_addGathering_9 rfl ?_
    exact ev_ireturn (ty := .int) dX0_addGathering_11 rfl rfl (Or.inr ⟨h6, rfl, rfl, rfl, rfl⟩)
set_option maxRecDepth 100000 in
set_option maxHeartbeats 4000000 in
theorem t_X0_hasGathering {sh : SH} {mi : MI} {mr : MR} {q : Nat} (hk : bk_c sh mr q) (p1 : Int32) : EV none 1 0 0 mX0_hasGathering 0 (en_l mX0_hasGathering [pv_r q, pv_i p1]) [] sh mi mr (ok_r sh mr (bi (0 ≤ p1 ∧ p1 ≤ ((mi q 5) - 1))) mi) := by
  show EV none 1 0 0 mX0_hasGathering 0 [some (pv_r q), some (pv_i p1)] [] sh mi mr _
  refine ev_iload_n dX0_hasGathering_0 rfl ?_
  refine ev_iconst (v := 0) dX0_hasGathering_1 rfl ?_
  refine ev_aload_n dX0_hasGathering_2 rfl ?_
  refine ev_geti dX0_hasGathering_3 fl_X0_27 rfl hk.1 ?_
  refine ev_iconst (v := 1) dX0_hasGathering_6 rfl ?_
  refine ev_isub dX0_hasGathering_7 ?_
  refine ev_t3i dX0_hasGathering_8 cn_X0_50 (Nat.le_of_ble_eq_true rfl) (by decide) (t_X5_within _ _ _) ?_
  exact ev_ireturn (ty := .boolean) dX0_hasGathering_11 rfl bi_nar ⟨rfl, rfl, rfl, rfl⟩
set_option maxRecDepth 100000 in
set_option maxHeartbeats 4000000 in
theorem t_X0_hasLeaves {sh : SH} {mi : MI} {mr : MR} {q : Nat} (hk : bk_c sh mr q) (j : Nat) (hj : j < 6) (p2 : Int32) : EV none 1 0 0 mX0_hasLeaves 0 (en_l mX0_hasLeaves [pv_r q, pv_i (nI j), pv_i p2]) [] sh mi mr (ok_r sh mr (bi ((p2 &&& (((1 <<< ((mi (q + 1) j) &&& 31)) - 1) ^^^ (-1))) = 0)) mi) := by
  show EV none 1 0 0 mX0_hasLeaves 0 [some (pv_r q), some (pv_i (nI j)), some (pv_i p2)] [] sh mi mr _
  refine ev_iload_n dX0_hasLeaves_0 rfl ?_
  refine ev_aload_n dX0_hasLeaves_1 rfl ?_
  refine ev_getq dX0_hasLeaves_2 fl_X0_9 rfl hk.1 hk.2.1.1 ?_
  refine ev_iload_n dX0_hasLeaves_5 rfl ?_
  refine ev_iald dX0_hasLeaves_6 hk.2.2.1 (j := j) rfl (by omega) (by decide) ?_
  refine ev_s1i dX0_hasLeaves_7 cs_X0_46 (Nat.le_of_ble_eq_true rfl) (by decide) (t_X0_allOf _) ?_
  refine ev_iconst (v := (-1)) dX0_hasLeaves_10 rfl ?_
  refine ev_ixor dX0_hasLeaves_11 ?_
  refine ev_iand dX0_hasLeaves_12 ?_
  refine ev_if_ne (tgt := 20) dX0_hasLeaves_13 rfl (fun h13 => ?_) (fun h13 => ?_)
  · refine ev_iconst (v := 0) dX0_hasLeaves_20 rfl ?_
    exact ev_ireturn (ty := .boolean) dX0_hasLeaves_21 rfl rfl ⟨congrArg (fun z => some (pv_i z)) (bi_f h13).symm, rfl, rfl, rfl⟩
  · refine ev_iconst (v := 1) dX0_hasLeaves_16 rfl ?_
    refine ev_goto (tgt := 21) dX0_hasLeaves_17 rfl ?_
    exact ev_ireturn (ty := .boolean) dX0_hasLeaves_21 rfl rfl ⟨congrArg (fun z => some (pv_i z)) (bi_1 h13).symm, rfl, rfl, rfl⟩
set_option maxRecDepth 100000 in
set_option maxHeartbeats 4000000 in
theorem t_X0_inspect {sh : SH} {mi : MI} {mr : MR} {q : Nat} (hk : bk_c sh mr q) (j : Nat) (hj : j < 6) (p2 : Int32) (a : Nat) (ha : mi q 6 = nI a) (ha5 : a ≤ 5) (hA5 : a < 5) : EV none 1 0 0 mX0_inspect 0 (en_l mX0_inspect [pv_r q, pv_i (nI j), pv_i p2]) [] sh mi mr (ok_r sh mr ((bc ((mi (q + 2) j) &&& (p2 ^^^ (-1)))) + (bc (p2 &&& ((mi (q + 2) j) ^^^ (-1))))) (up_2 (up_2 (up_2 (up_2 mi (q + 3) a ((mi (q + 3) a) + (bc ((mi (q + 2) j) &&& (p2 ^^^ (-1)))))) (q + 4) a (((up_2 mi (q + 3) a ((mi (q + 3) a) + (bc ((mi (q + 2) j) &&& (p2 ^^^ (-1)))))) (q + 4) a) + (bc (p2 &&& ((mi (q + 2) j) ^^^ (-1)))))) (q + 2) j p2) q 7 (((up_2 (up_2 (up_2 mi (q + 3) a ((mi (q + 3) a) + (bc ((mi (q + 2) j) &&& (p2 ^^^ (-1)))))) (q + 4) a (((up_2 mi (q + 3) a ((mi (q + 3) a) + (bc ((mi (q + 2) j) &&& (p2 ^^^ (-1)))))) (q + 4) a) + (bc (p2 &&& ((mi (q + 2) j) ^^^ (-1)))))) (q + 2) j p2) q 7) ||| (1 <<< ((nI j) &&& 31))))) := by
  show EV none 1 0 0 mX0_inspect 0 [some (pv_r q), some (pv_i (nI j)), some (pv_i p2), none, none] [] sh mi mr _
  refine ev_aload_n dX0_inspect_0 rfl ?_
  refine ev_getq dX0_inspect_1 fl_X0_15 rfl hk.1 hk.2.1.2.1 ?_
  refine ev_iload_n dX0_inspect_4 rfl ?_
  refine ev_iald dX0_inspect_5 hk.2.2.2.1 (j := j) rfl (by omega) (by decide) ?_
  refine ev_iload_n dX0_inspect_6 rfl ?_
  refine ev_iconst (v := (-1)) dX0_inspect_7 rfl ?_
  refine ev_ixor dX0_inspect_8 ?_
  refine ev_iand dX0_inspect_9 ?_
  refine ev_s1i dX0_inspect_10 cs_X0_54 (Nat.le_of_ble_eq_true rfl) (by decide) (t_J6_bitCount _) ?_
  refine ev_istore_n dX0_inspect_13 (by decide) ?_
  refine ev_iload_n dX0_inspect_14 rfl ?_
  refine ev_aload_n dX0_inspect_15 rfl ?_
  refine ev_getq dX0_inspect_16 fl_X0_15 rfl hk.1 hk.2.1.2.1 ?_
  refine ev_iload_n dX0_inspect_19 rfl ?_
  refine ev_iald dX0_inspect_20 hk.2.2.2.1 (j := j) rfl (by omega) (by decide) ?_
  refine ev_iconst (v := (-1)) dX0_inspect_21 rfl ?_
  refine ev_ixor dX0_inspect_22 ?_
  refine ev_iand dX0_inspect_23 ?_
  refine ev_s1i dX0_inspect_24 cs_X0_54 (Nat.le_of_ble_eq_true rfl) (by decide) (t_J6_bitCount _) ?_
  refine ev_istore dX0_inspect_27 (by decide) ?_
  refine ev_aload_n dX0_inspect_29 rfl ?_
  refine ev_geti dX0_inspect_30 fl_X0_31 rfl hk.1 ?_
  refine ev_iconst (v := 5) dX0_inspect_33 rfl ?_
  refine ev_icmp_ge_f (tgt := 64) dX0_inspect_34 rfl (by rw [ha]; exact fun h => absurd ((nI_leI (a := 5) (by decide) (by omega)).mp h) (by omega)) ?_
  refine ev_aload_n dX0_inspect_37 rfl ?_
  refine ev_getq dX0_inspect_38 fl_X0_18 rfl hk.1 hk.2.1.2.2.1 ?_
  refine ev_aload_n dX0_inspect_41 rfl ?_
  refine ev_geti dX0_inspect_42 fl_X0_31 rfl hk.1 ?_
  refine ev_dup2 dX0_inspect_45 ?_
  refine ev_iald dX0_inspect_46 hk.2.2.2.2.1 (j := a) (by simp [up_2, pk_mul, nI_add, n_5, n_6, n_12, n_144, ha]) (by omega) (by decide) ?_
  refine ev_iload_n dX0_inspect_47 rfl ?_
  refine ev_iadd dX0_inspect_48 ?_
  refine ev_iast dX0_inspect_49 hk.2.2.2.2.1 (j := a) (by simp [up_2, pk_mul, nI_add, n_5, n_6, n_12, n_144, ha]) (by omega) (by decide) ?_
  refine ev_aload_n dX0_inspect_50 rfl ?_
  refine ev_getq dX0_inspect_51 fl_X0_21 rfl hk.1 hk.2.1.2.2.2.1 ?_
  refine ev_aload_n dX0_inspect_54 rfl ?_
  refine ev_geti dX0_inspect_55 fl_X0_31 rfl hk.1 ?_
  refine ev_dup2 dX0_inspect_58 ?_
  refine ev_iald dX0_inspect_59 hk.2.2.2.2.2.1 (j := a) (by simp [up_2, pk_mul, nI_add, n_5, n_6, n_12, n_144, ha]) (by omega) (by decide) ?_
  refine ev_iload dX0_inspect_60 rfl ?_
  refine ev_iadd dX0_inspect_62 ?_
  refine ev_iast dX0_inspect_63 hk.2.2.2.2.2.1 (j := a) (by simp [up_2, pk_mul, nI_add, n_5, n_6, n_12, n_144, ha]) (by omega) (by decide) ?_
  refine ev_aload_n dX0_inspect_64 rfl ?_
  refine ev_getq dX0_inspect_65 fl_X0_15 rfl hk.1 hk.2.1.2.1 ?_
  refine ev_iload_n dX0_inspect_68 rfl ?_
  refine ev_iload_n dX0_inspect_69 rfl ?_
  refine ev_iast dX0_inspect_70 hk.2.2.2.1 (j := j) rfl (by omega) (by decide) ?_
  refine ev_aload_n dX0_inspect_71 rfl ?_
  refine ev_dup dX0_inspect_72 ?_
  refine ev_geti dX0_inspect_73 fl_X0_34 rfl hk.1 ?_
  refine ev_iconst (v := 1) dX0_inspect_76 rfl ?_
  refine ev_iload_n dX0_inspect_77 rfl ?_
  refine ev_ishl dX0_inspect_78 ?_
  refine ev_ior dX0_inspect_79 ?_
  refine ev_puti dX0_inspect_80 fl_X0_34 rfl rfl hk.1 ?_
  refine ev_iload_n dX0_inspect_83 rfl ?_
  refine ev_iload dX0_inspect_84 rfl ?_
  refine ev_iadd dX0_inspect_86 ?_
  exact ev_ireturn (ty := .int) dX0_inspect_87 rfl rfl ⟨rfl, rfl, rfl, rfl⟩
set_option maxRecDepth 100000 in
set_option maxHeartbeats 4000000 in
theorem t_X0_mayMoveOn {sh : SH} {mi : MI} {mr : MR} {q : Nat} (hk : bk_c sh mr q) : EV none 1 0 0 mX0_mayMoveOn 0 (en_l mX0_mayMoveOn [pv_r q]) [] sh mi mr (ok_r sh mr (bi (¬ mi q 6 = 5 ∧ ¬ mi q 5 ≤ 0 ∧ mi q 7 = (1 <<< (mi q 5 &&& 31)) - 1)) mi) := by
  show EV none 1 0 0 mX0_mayMoveOn 0 [some (pv_r q)] [] sh mi mr _
  refine ev_aload_n dX0_mayMoveOn_0 rfl ?_
  refine ev_geti dX0_mayMoveOn_1 fl_X0_31 rfl hk.1 ?_
  refine ev_iconst (v := 5) dX0_mayMoveOn_4 rfl ?_
  refine ev_icmp_eq (tgt := 33) dX0_mayMoveOn_5 rfl (fun h5 => ?_) (fun h5 => ?_)
  · refine ev_iconst (v := 0) dX0_mayMoveOn_33 rfl ?_
    exact ev_ireturn (ty := .boolean) dX0_mayMoveOn_34 rfl rfl ⟨congrArg (fun z => some (pv_i z)) (by simp_all [bi]), rfl, rfl, rfl⟩
  · refine ev_aload_n dX0_mayMoveOn_8 rfl ?_
    refine ev_geti dX0_mayMoveOn_9 fl_X0_27 rfl hk.1 ?_
    refine ev_if_le (tgt := 33) dX0_mayMoveOn_12 rfl (fun h12 => ?_) (fun h12 => ?_)
    · refine ev_iconst (v := 0) dX0_mayMoveOn_33 rfl ?_
      exact ev_ireturn (ty := .boolean) dX0_mayMoveOn_34 rfl rfl ⟨congrArg (fun z => some (pv_i z)) (by simp_all [bi]), rfl, rfl, rfl⟩
    · refine ev_aload_n dX0_mayMoveOn_15 rfl ?_
      refine ev_geti dX0_mayMoveOn_16 fl_X0_34 rfl hk.1 ?_
      refine ev_aload_n dX0_mayMoveOn_19 rfl ?_
      refine ev_geti dX0_mayMoveOn_20 fl_X0_27 rfl hk.1 ?_
      refine ev_s1i dX0_mayMoveOn_23 cs_X0_46 (Nat.le_of_ble_eq_true rfl) (by decide) (t_X0_allOf _) ?_
      refine ev_icmp_ne (tgt := 33) dX0_mayMoveOn_26 rfl (fun h26 => ?_) (fun h26 => ?_)
      · refine ev_iconst (v := 0) dX0_mayMoveOn_33 rfl ?_
        exact ev_ireturn (ty := .boolean) dX0_mayMoveOn_34 rfl rfl ⟨congrArg (fun z => some (pv_i z)) (by simp_all [bi]), rfl, rfl, rfl⟩
      · refine ev_iconst (v := 1) dX0_mayMoveOn_29 rfl ?_
        refine ev_goto (tgt := 34) dX0_mayMoveOn_30 rfl ?_
        exact ev_ireturn (ty := .boolean) dX0_mayMoveOn_34 rfl rfl ⟨congrArg (fun z => some (pv_i z)) (by simp_all [bi]), rfl, rfl, rfl⟩
set_option maxRecDepth 100000 in
set_option maxHeartbeats 4000000 in
theorem t_X0_moveOn {sh : SH} {mi : MI} {mr : MR} {q : Nat} (hk : bk_c sh mr q) : EV none 0 0 0 mX0_moveOn 0 (en_l mX0_moveOn [pv_r q]) [] sh mi mr (ok_r sh mr ((up_2 (up_2 mi q 6 ((mi q 6) + 1)) q 7 0) q 6) (up_2 (up_2 mi q 6 ((mi q 6) + 1)) q 7 0)) := by
  show EV none 0 0 0 mX0_moveOn 0 [some (pv_r q)] [] sh mi mr _
  refine ev_aload_n dX0_moveOn_0 rfl ?_
  refine ev_dup dX0_moveOn_1 ?_
  refine ev_geti dX0_moveOn_2 fl_X0_31 rfl hk.1 ?_
  refine ev_iconst (v := 1) dX0_moveOn_5 rfl ?_
  refine ev_iadd dX0_moveOn_6 ?_
  refine ev_puti dX0_moveOn_7 fl_X0_31 rfl rfl hk.1 ?_
  refine ev_aload_n dX0_moveOn_10 rfl ?_
  refine ev_iconst (v := 0) dX0_moveOn_11 rfl ?_
  refine ev_puti dX0_moveOn_12 fl_X0_34 rfl rfl hk.1 ?_
  refine ev_aload_n dX0_moveOn_15 rfl ?_
  refine ev_geti dX0_moveOn_16 fl_X0_31 rfl hk.1 ?_
  exact ev_ireturn (ty := .int) dX0_moveOn_19 rfl rfl ⟨rfl, rfl, rfl, rfl⟩
def sm_c (f : Nat → Int32) : Nat → Int32
  | 0 => 0
  | i + 1 => sm_c f i + f i
theorem sm_congr {f g : Nat → Int32} : ∀ n, (∀ i, i < n → f i = g i) → sm_c f n = sm_c g n
  | 0, _ => rfl
  | n + 1, h => by
    show sm_c f n + f n = sm_c g n + g n
    rw [sm_congr n (fun i hi => h i (by omega)), h n (by omega)]
set_option maxRecDepth 100000 in
set_option maxHeartbeats 4000000 in
theorem lp_X0_leavesBelieved {sh : SH} {mi : MI} {mr : MR} {q : Nat} (hk : bk_c sh mr q) (g : Nat) (hg : mi q 5 = nI g) (hg6 : g ≤ 6) : ∀ i, i ≤ g → EV none 1 0 0 mX0_leavesBelieved 4 [some (pv_r q), some (pv_i (sm_c (fun k => bc (mi (q + 2) k)) i)), some (pv_i (nI i))] [] sh mi mr (ok_r sh mr (sm_c (fun k => bc (mi (q + 2) k)) g) mi) := by
  refine lp_i g (fun i hi ih => ?_)
  refine ev_iload_n dX0_leavesBelieved_4 rfl ?_
  refine ev_aload_n dX0_leavesBelieved_5 rfl ?_
  refine ev_geti dX0_leavesBelieved_6 fl_X0_27 rfl hk.1 ?_
  refine ev_icmp_ge (tgt := 30) dX0_leavesBelieved_9 rfl (fun h9 => ?_) (fun h9 => ?_)
  · have hin : i = g := by have := (nl_le hg rfl (by omega) (by omega)).mp h9; omega
    subst hin
    refine ev_iload_n dX0_leavesBelieved_30 rfl ?_
    exact ev_ireturn (ty := .int) dX0_leavesBelieved_31 rfl rfl ⟨rfl, rfl, rfl, rfl⟩
  · have hlt : i < g := by have := (not_congr (nl_le hg rfl (by omega) (by omega))).mp h9; omega
    refine ev_iload_n dX0_leavesBelieved_12 rfl ?_
    refine ev_aload_n dX0_leavesBelieved_13 rfl ?_
    refine ev_getq dX0_leavesBelieved_14 fl_X0_15 rfl hk.1 hk.2.1.2.1 ?_
    refine ev_iload_n dX0_leavesBelieved_17 rfl ?_
    refine ev_iald dX0_leavesBelieved_18 hk.2.2.2.1 (j := i) rfl (by omega) (by decide) ?_
    refine ev_s1i dX0_leavesBelieved_19 cs_X0_54 (Nat.le_of_ble_eq_true rfl) (by decide) (t_J6_bitCount _) ?_
    refine ev_iadd dX0_leavesBelieved_22 ?_
    refine ev_istore_n dX0_leavesBelieved_23 (by decide) ?_
    refine ev_iincN dX0_leavesBelieved_24 rfl (by decide) ?_
    refine ev_goto (tgt := 4) dX0_leavesBelieved_27 rfl ?_
    exact ih hlt
set_option maxRecDepth 100000 in
set_option maxHeartbeats 4000000 in
theorem t_X0_leavesBelieved {sh : SH} {mi : MI} {mr : MR} {q : Nat} (hk : bk_c sh mr q) (g : Nat) (hg : mi q 5 = nI g) (hg6 : g ≤ 6) : EV none 1 0 0 mX0_leavesBelieved 0 (en_l mX0_leavesBelieved [pv_r q]) [] sh mi mr (ok_r sh mr (sm_c (fun k => bc (mi (q + 2) k)) g) mi) := by
  show EV none 1 0 0 mX0_leavesBelieved 0 [some (pv_r q), none, none] [] sh mi mr _
  refine ev_iconst (v := 0) dX0_leavesBelieved_0 rfl ?_
  refine ev_istore_n dX0_leavesBelieved_1 (by decide) ?_
  refine ev_iconst (v := 0) dX0_leavesBelieved_2 rfl ?_
  refine ev_istore_n dX0_leavesBelieved_3 (by decide) ?_
  exact lp_X0_leavesBelieved hk g hg hg6 0 (Nat.zero_le g)
set_option maxRecDepth 100000 in
set_option maxHeartbeats 4000000 in
theorem lp_X0_leavesInAll {sh : SH} {mi : MI} {mr : MR} {q : Nat} (hk : bk_c sh mr q) (g : Nat) (hg : mi q 5 = nI g) (hg6 : g ≤ 6) : ∀ i, i ≤ g → EV none 1 0 0 mX0_leavesInAll 4 [some (pv_r q), some (pv_i (sm_c (mi (q + 1)) i)), some (pv_i (nI i))] [] sh mi mr (ok_r sh mr (sm_c (mi (q + 1)) g) mi) := by
  refine lp_i g (fun i hi ih => ?_)
  refine ev_iload_n dX0_leavesInAll_4 rfl ?_
  refine ev_aload_n dX0_leavesInAll_5 rfl ?_
  refine ev_geti dX0_leavesInAll_6 fl_X0_27 rfl hk.1 ?_
  refine ev_icmp_ge (tgt := 27) dX0_leavesInAll_9 rfl (fun h9 => ?_) (fun h9 => ?_)
  · have hin : i = g := by have := (nl_le hg rfl (by omega) (by omega)).mp h9; omega
    subst hin
    refine ev_iload_n dX0_leavesInAll_27 rfl ?_
    exact ev_ireturn (ty := .int) dX0_leavesInAll_28 rfl rfl ⟨rfl, rfl, rfl, rfl⟩
  · have hlt : i < g := by have := (not_congr (nl_le hg rfl (by omega) (by omega))).mp h9; omega
    refine ev_iload_n dX0_leavesInAll_12 rfl ?_
    refine ev_aload_n dX0_leavesInAll_13 rfl ?_
    refine ev_getq dX0_leavesInAll_14 fl_X0_9 rfl hk.1 hk.2.1.1 ?_
    refine ev_iload_n dX0_leavesInAll_17 rfl ?_
    refine ev_iald dX0_leavesInAll_18 hk.2.2.1 (j := i) rfl (by omega) (by decide) ?_
    refine ev_iadd dX0_leavesInAll_19 ?_
    refine ev_istore_n dX0_leavesInAll_20 (by decide) ?_
    refine ev_iincN dX0_leavesInAll_21 rfl (by decide) ?_
    refine ev_goto (tgt := 4) dX0_leavesInAll_24 rfl ?_
    exact ih hlt
set_option maxRecDepth 100000 in
set_option maxHeartbeats 4000000 in
theorem t_X0_leavesInAll {sh : SH} {mi : MI} {mr : MR} {q : Nat} (hk : bk_c sh mr q) (g : Nat) (hg : mi q 5 = nI g) (hg6 : g ≤ 6) : EV none 1 0 0 mX0_leavesInAll 0 (en_l mX0_leavesInAll [pv_r q]) [] sh mi mr (ok_r sh mr (sm_c (mi (q + 1)) g) mi) := by
  show EV none 1 0 0 mX0_leavesInAll 0 [some (pv_r q), none, none] [] sh mi mr _
  refine ev_iconst (v := 0) dX0_leavesInAll_0 rfl ?_
  refine ev_istore_n dX0_leavesInAll_1 (by decide) ?_
  refine ev_iconst (v := 0) dX0_leavesInAll_2 rfl ?_
  refine ev_istore_n dX0_leavesInAll_3 (by decide) ?_
  exact lp_X0_leavesInAll hk g hg hg6 0 (Nat.zero_le g)
set_option maxRecDepth 100000 in
set_option maxHeartbeats 4000000 in
theorem t_X5_bookAt_k {sh : SH} {mi : MI} {mr : MR} (hB : ba_c sh mr) (nb : Nat) (hnb : mi 0 5 = nI nb) (hnb10 : nb ≤ 10) (b : Nat) (hb : b < nb) {q : Nat} (hq : mr 1 b = some q) (hk : bk_c sh mr q) : EV none 1 0 0 mX5_bookAt 0 (en_l mX5_bookAt [pv_r 0, pv_i (nI b)]) [] sh mi mr (ok_q sh mr (some q) mi) := by
  show EV none 1 0 0 mX5_bookAt 0 [some (pv_r 0), some (pv_i (nI b))] [] sh mi mr _
  refine ev_iload_n dX5_bookAt_0 rfl ?_
  refine ev_iconst (v := 0) dX5_bookAt_1 rfl ?_
  refine ev_aload_n dX5_bookAt_2 rfl ?_
  refine ev_geti dX5_bookAt_3 fl_X5_42 rfl (hB.1 0 _ rfl) ?_
  refine ev_iconst (v := 1) dX5_bookAt_6 rfl ?_
  refine ev_isub dX5_bookAt_7 ?_
  refine ev_s3i dX5_bookAt_8 cs_X5_57 (Nat.le_of_ble_eq_true rfl) (by decide) (t_X5_within _ _ _) ?_
  refine ev_if_eq_f (tgt := 23) dX5_bookAt_11 rfl (by rw [bi_1 (by rw [hnb]; exact (i_cases (by omega)).mpr ⟨b, hb, rfl⟩)]; decide) ?_
  refine ev_aload_n dX5_bookAt_14 rfl ?_
  refine ev_getq dX5_bookAt_15 fl_X5_11 rfl (hB.1 0 _ rfl) (hB.2 0 0 _ rfl) ?_
  refine ev_iload_n dX5_bookAt_18 rfl ?_
  refine ev_aald dX5_bookAt_19 (hB.1 1 _ rfl) (by decide) rfl (j := b) rfl (by omega) (by decide) ?_
  rw [hq]
  refine ev_goto (tgt := 24) dX5_bookAt_20 rfl ?_
  exact ev_areturn dX5_bookAt_24 rfl ⟨rfl, rfl, rfl, rfl⟩
set_option maxRecDepth 100000 in
set_option maxHeartbeats 4000000 in
theorem t_X5_bookAt_u {sh : SH} {mi : MI} {mr : MR} (hB : ba_c sh mr) (p1 : Int32) (hu : ¬ (0 ≤ p1 ∧ p1 ≤ (mi 0 5) - 1)) : EV none 1 0 0 mX5_bookAt 0 (en_l mX5_bookAt [pv_r 0, pv_i p1]) [] sh mi mr (ok_q sh mr none mi) := by
  show EV none 1 0 0 mX5_bookAt 0 [some (pv_r 0), some (pv_i p1)] [] sh mi mr _
  refine ev_iload_n dX5_bookAt_0 rfl ?_
  refine ev_iconst (v := 0) dX5_bookAt_1 rfl ?_
  refine ev_aload_n dX5_bookAt_2 rfl ?_
  refine ev_geti dX5_bookAt_3 fl_X5_42 rfl (hB.1 0 _ rfl) ?_
  refine ev_iconst (v := 1) dX5_bookAt_6 rfl ?_
  refine ev_isub dX5_bookAt_7 ?_
  refine ev_s3i dX5_bookAt_8 cs_X5_57 (Nat.le_of_ble_eq_true rfl) (by decide) (t_X5_within _ _ _) ?_
  refine ev_if_eq_t (tgt := 23) dX5_bookAt_11 rfl (bi_f hu) ?_
  refine ev_null dX5_bookAt_23 ?_
  exact ev_areturn dX5_bookAt_24 rfl ⟨rfl, rfl, rfl, rfl⟩
set_option maxRecDepth 100000 in
set_option maxHeartbeats 4000000 in
theorem t_X5_gather_u {sh : SH} {mi : MI} {mr : MR} (hB : ba_c sh mr) (p1 : Int32) (hu : ¬ (0 ≤ p1 ∧ p1 ≤ (mi 0 5) - 1)) (p2 : Int32) : EV none 2 0 0 mX5_gather 0 (en_l mX5_gather [pv_r 0, pv_i p1, pv_i p2]) [] sh mi mr (ok_r sh mr (-2) mi) := by
  show EV none 2 0 0 mX5_gather 0 [some (pv_r 0), some (pv_i p1), some (pv_i p2), none] [] sh mi mr _
  refine ev_aload_n dX5_gather_0 rfl ?_
  refine ev_iload_n dX5_gather_1 rfl ?_
  refine ev_v1q dX5_gather_2 cv_X5_53 (hB.1 0 _ rfl) (Nat.le_of_ble_eq_true rfl) (by decide) (t_X5_bookAt_u hB _ hu) ?_
  refine ev_astore_n dX5_gather_5 (by decide) ?_
  refine ev_aload_n dX5_gather_6 rfl ?_
  refine ev_ifnonnull_n (tgt := 13) dX5_gather_7 rfl ?_
  refine ev_bipush (v := (-2)) dX5_gather_10 rfl ?_
  exact ev_ireturn (ty := .int) dX5_gather_12 rfl rfl ⟨rfl, rfl, rfl, rfl⟩
set_option maxRecDepth 100000 in
set_option maxHeartbeats 4000000 in
theorem t_X5_look_u {sh : SH} {mi : MI} {mr : MR} (hB : ba_c sh mr) (p1 : Int32) (hu : ¬ (0 ≤ p1 ∧ p1 ≤ (mi 0 5) - 1)) (p2 p3 : Int32) : EV none 2 0 0 mX5_look 0 (en_l mX5_look [pv_r 0, pv_i p1, pv_i p2, pv_i p3]) [] sh mi mr (ok_r sh mr (-2) mi) := by
  show EV none 2 0 0 mX5_look 0 [some (pv_r 0), some (pv_i p1), some (pv_i p2), some (pv_i p3), none] [] sh mi mr _
  refine ev_aload_n dX5_look_0 rfl ?_
  refine ev_iload_n dX5_look_1 rfl ?_
  refine ev_v1q dX5_look_2 cv_X5_53 (hB.1 0 _ rfl) (Nat.le_of_ble_eq_true rfl) (by decide) (t_X5_bookAt_u hB _ hu) ?_
  refine ev_astore dX5_look_5 (by decide) ?_
  refine ev_aload dX5_look_7 rfl ?_
  refine ev_ifnull_n (tgt := 21) dX5_look_9 rfl ?_
  refine ev_bipush (v := (-2)) dX5_look_21 rfl ?_
  exact ev_ireturn (ty := .int) dX5_look_23 rfl rfl ⟨rfl, rfl, rfl, rfl⟩
set_option maxRecDepth 100000 in
set_option maxHeartbeats 4000000 in
theorem t_X5_pass_u {sh : SH} {mi : MI} {mr : MR} (hB : ba_c sh mr) (p1 : Int32) (hu : ¬ (0 ≤ p1 ∧ p1 ≤ (mi 0 5) - 1)) : EV none 2 0 0 mX5_pass 0 (en_l mX5_pass [pv_r 0, pv_i p1]) [] sh mi mr (ok_r sh mr (-2) mi) := by
  show EV none 2 0 0 mX5_pass 0 [some (pv_r 0), some (pv_i p1), none] [] sh mi mr _
  refine ev_aload_n dX5_pass_0 rfl ?_
  refine ev_iload_n dX5_pass_1 rfl ?_
  refine ev_v1q dX5_pass_2 cv_X5_53 (hB.1 0 _ rfl) (Nat.le_of_ble_eq_true rfl) (by decide) (t_X5_bookAt_u hB _ hu) ?_
  refine ev_astore_n dX5_pass_5 (by decide) ?_
  refine ev_aload_n dX5_pass_6 rfl ?_
  refine ev_ifnonnull_n (tgt := 13) dX5_pass_7 rfl ?_
  refine ev_bipush (v := (-2)) dX5_pass_10 rfl ?_
  exact ev_ireturn (ty := .int) dX5_pass_12 rfl rfl ⟨rfl, rfl, rfl, rfl⟩
set_option maxRecDepth 100000 in
set_option maxHeartbeats 4000000 in
theorem t_X5_told_u {sh : SH} {mi : MI} {mr : MR} (hB : ba_c sh mr) (p1 : Int32) (hu : ¬ (0 ≤ p1 ∧ p1 ≤ (mi 0 5) - 1)) (p2 : Int32) : EV none 2 0 0 mX5_told 0 (en_l mX5_told [pv_r 0, pv_i p1, pv_i p2]) [] sh mi mr (ok_r sh mr (-2) mi) := by
  show EV none 2 0 0 mX5_told 0 [some (pv_r 0), some (pv_i p1), some (pv_i p2), none] [] sh mi mr _
  refine ev_aload_n dX5_told_0 rfl ?_
  refine ev_iload_n dX5_told_1 rfl ?_
  refine ev_v1q dX5_told_2 cv_X5_53 (hB.1 0 _ rfl) (Nat.le_of_ble_eq_true rfl) (by decide) (t_X5_bookAt_u hB _ hu) ?_
  refine ev_astore_n dX5_told_5 (by decide) ?_
  refine ev_aload_n dX5_told_6 rfl ?_
  refine ev_ifnonnull_n (tgt := 13) dX5_told_7 rfl ?_
  refine ev_bipush (v := (-2)) dX5_told_10 rfl ?_
  exact ev_ireturn (ty := .int) dX5_told_12 rfl rfl ⟨rfl, rfl, rfl, rfl⟩
set_option maxRecDepth 100000 in
set_option maxHeartbeats 4000000 in
theorem t_X5_there_u {sh : SH} {mi : MI} {mr : MR} (hB : ba_c sh mr) (p1 : Int32) (hu : ¬ (0 ≤ p1 ∧ p1 ≤ (mi 0 5) - 1)) (p2 : Int32) : EV none 2 0 0 mX5_there 0 (en_l mX5_there [pv_r 0, pv_i p1, pv_i p2]) [] sh mi mr (ok_r sh mr (-2) mi) := by
  show EV none 2 0 0 mX5_there 0 [some (pv_r 0), some (pv_i p1), some (pv_i p2), none] [] sh mi mr _
  refine ev_aload_n dX5_there_0 rfl ?_
  refine ev_iload_n dX5_there_1 rfl ?_
  refine ev_v1q dX5_there_2 cv_X5_53 (hB.1 0 _ rfl) (Nat.le_of_ble_eq_true rfl) (by decide) (t_X5_bookAt_u hB _ hu) ?_
  refine ev_astore_n dX5_there_5 (by decide) ?_
  refine ev_aload_n dX5_there_6 rfl ?_
  refine ev_ifnull_n (tgt := 18) dX5_there_7 rfl ?_
  refine ev_bipush (v := (-2)) dX5_there_18 rfl ?_
  exact ev_ireturn (ty := .int) dX5_there_20 rfl rfl ⟨rfl, rfl, rfl, rfl⟩
set_option maxRecDepth 100000 in
set_option maxHeartbeats 4000000 in
theorem t_X5_gone_u {sh : SH} {mi : MI} {mr : MR} (hB : ba_c sh mr) (p1 : Int32) (hu : ¬ (0 ≤ p1 ∧ p1 ≤ (mi 0 5) - 1)) (p2 p3 : Int32) : EV none 2 0 0 mX5_gone 0 (en_l mX5_gone [pv_r 0, pv_i p1, pv_i p2, pv_i p3]) [] sh mi mr (ok_r sh mr (-2) mi) := by
  show EV none 2 0 0 mX5_gone 0 [some (pv_r 0), some (pv_i p1), some (pv_i p2), some (pv_i p3), none] [] sh mi mr _
  refine ev_aload_n dX5_gone_0 rfl ?_
  refine ev_iload_n dX5_gone_1 rfl ?_
  refine ev_v1q dX5_gone_2 cv_X5_53 (hB.1 0 _ rfl) (Nat.le_of_ble_eq_true rfl) (by decide) (t_X5_bookAt_u hB _ hu) ?_
  refine ev_astore dX5_gone_5 (by decide) ?_
  refine ev_aload dX5_gone_7 rfl ?_
  refine ev_ifnull_n (tgt := 19) dX5_gone_9 rfl ?_
  refine ev_bipush (v := (-2)) dX5_gone_19 rfl ?_
  exact ev_ireturn (ty := .int) dX5_gone_21 rfl rfl ⟨rfl, rfl, rfl, rfl⟩
set_option maxRecDepth 100000 in
set_option maxHeartbeats 4000000 in
theorem t_X5_hours_u {sh : SH} {mi : MI} {mr : MR} (hB : ba_c sh mr) (p1 : Int32) (hu : ¬ (0 ≤ p1 ∧ p1 ≤ (mi 0 5) - 1)) (p2 p3 : Int32) : EV none 2 0 0 mX5_hours 0 (en_l mX5_hours [pv_r 0, pv_i p1, pv_i p2, pv_i p3]) [] sh mi mr (ok_r sh mr (-2) mi) := by
  show EV none 2 0 0 mX5_hours 0 [some (pv_r 0), some (pv_i p1), some (pv_i p2), some (pv_i p3), none] [] sh mi mr _
  refine ev_aload_n dX5_hours_0 rfl ?_
  refine ev_iload_n dX5_hours_1 rfl ?_
  refine ev_v1q dX5_hours_2 cv_X5_53 (hB.1 0 _ rfl) (Nat.le_of_ble_eq_true rfl) (by decide) (t_X5_bookAt_u hB _ hu) ?_
  refine ev_astore dX5_hours_5 (by decide) ?_
  refine ev_aload dX5_hours_7 rfl ?_
  refine ev_ifnull_n (tgt := 19) dX5_hours_9 rfl ?_
  refine ev_bipush (v := (-2)) dX5_hours_19 rfl ?_
  exact ev_ireturn (ty := .int) dX5_hours_21 rfl rfl ⟨rfl, rfl, rfl, rfl⟩
set_option maxRecDepth 100000 in
set_option maxHeartbeats 4000000 in
theorem t_X5_promise_u {sh : SH} {mi : MI} {mr : MR} (hB : ba_c sh mr) (p1 : Int32) (hu : ¬ (0 ≤ p1 ∧ p1 ≤ (mi 0 5) - 1)) (p2 p3 p4 : Int32) : EV none 2 0 0 mX5_promise 0 (en_l mX5_promise [pv_r 0, pv_i p1, pv_i p2, pv_i p3, pv_i p4]) [] sh mi mr (ok_r sh mr (-2) mi) := by
  show EV none 2 0 0 mX5_promise 0 [some (pv_r 0), some (pv_i p1), some (pv_i p2), some (pv_i p3), some (pv_i p4), none] [] sh mi mr _
  refine ev_aload_n dX5_promise_0 rfl ?_
  refine ev_iload_n dX5_promise_1 rfl ?_
  refine ev_v1q dX5_promise_2 cv_X5_53 (hB.1 0 _ rfl) (Nat.le_of_ble_eq_true rfl) (by decide) (t_X5_bookAt_u hB _ hu) ?_
  refine ev_astore dX5_promise_5 (by decide) ?_
  refine ev_aload dX5_promise_7 rfl ?_
  refine ev_ifnonnull_n (tgt := 15) dX5_promise_9 rfl ?_
  refine ev_bipush (v := (-2)) dX5_promise_12 rfl ?_
  exact ev_ireturn (ty := .int) dX5_promise_14 rfl rfl ⟨rfl, rfl, rfl, rfl⟩
set_option maxRecDepth 100000 in
set_option maxHeartbeats 4000000 in
theorem t_X5_gather_k {sh : SH} {mi : MI} {mr : MR} (hB : ba_c sh mr) (nb : Nat) (hnb : mi 0 5 = nI nb) (hnb10 : nb ≤ 10) (b : Nat) (hb : b < nb) {q : Nat} (hq : mr 1 b = some q) (hk : bk_c sh mr q) (p2 : Int32) (g : Nat) (hg : mi q 5 = nI g) (hg6 : g ≤ 6) : EV none 2 0 0 mX5_gather 0 (en_l mX5_gather [pv_r 0, pv_i (nI b), pv_i p2]) [] sh mi mr (fun v_ sh_ mi_ mr_ => ((1 ≤ p2 ∧ p2 ≤ 16) ∧ ((mi q 6) = 0) ∧ ((mi q 5) < 6) ∧ (ok_r sh mr (((up_2 (up_2 (up_2 mi (q + 1) g p2) (q + 2) g ((1 <<< (p2 &&& 31)) - 1)) q 5 (((up_2 (up_2 mi (q + 1) g p2) (q + 2) g ((1 <<< (p2 &&& 31)) - 1)) q 5) + 1)) q 5) - 1) (up_2 (up_2 (up_2 mi (q + 1) g p2) (q + 2) g ((1 <<< (p2 &&& 31)) - 1)) q 5 (((up_2 (up_2 mi (q + 1) g p2) (q + 2) g ((1 <<< (p2 &&& 31)) - 1)) q 5) + 1))) v_ sh_ mi_ mr_) ∨ ((1 ≤ p2 ∧ p2 ≤ 16) ∧ ((mi q 6) = 0) ∧ (¬ (mi q 5) < 6) ∧ (ok_r sh mr (-6) mi) v_ sh_ mi_ mr_) ∨ ((1 ≤ p2 ∧ p2 ≤ 16) ∧ (¬ (mi q 6) = 0) ∧ (ok_r sh mr (-4) mi) v_ sh_ mi_ mr_) ∨ ((¬ (1 ≤ p2 ∧ p2 ≤ 16)) ∧ (ok_r sh mr (-3) mi) v_ sh_ mi_ mr_)) := by
  show EV none 2 0 0 mX5_gather 0 [some (pv_r 0), some (pv_i (nI b)), some (pv_i p2), none] [] sh mi mr _
  refine ev_aload_n dX5_gather_0 rfl ?_
  refine ev_iload_n dX5_gather_1 rfl ?_
  refine ev_v1q dX5_gather_2 cv_X5_53 (hB.1 0 _ rfl) (Nat.le_of_ble_eq_true rfl) (by decide) (t_X5_bookAt_k hB nb hnb hnb10 b hb hq hk) ?_
  refine ev_astore_n dX5_gather_5 (by decide) ?_
  refine ev_aload_n dX5_gather_6 rfl ?_
  refine ev_ifnonnull_s (tgt := 13) dX5_gather_7 rfl ?_
  refine ev_iload_n dX5_gather_13 rfl ?_
  refine ev_iconst (v := 1) dX5_gather_14 rfl ?_
  refine ev_bipush (v := 16) dX5_gather_15 rfl ?_
  refine ev_s3i dX5_gather_17 cs_X5_57 (Nat.le_of_ble_eq_true rfl) (by decide) (t_X5_within _ _ _) ?_
  refine ev_ifb_ne (tgt := 26) dX5_gather_20 rfl (fun h20 => ?_) (fun h20 => ?_)
  · refine ev_aload_n dX5_gather_26 rfl ?_
    refine ev_geti dX5_gather_27 fl_X5_61 rfl hk.1 ?_
    refine ev_if_eq (tgt := 36) dX5_gather_30 rfl (fun h30 => ?_) (fun h30 => ?_)
    · refine ev_aload_n dX5_gather_36 rfl ?_
      refine ev_iload_n dX5_gather_37 rfl ?_
      refine ev_callv (av := [pv_i p2]) dX5_gather_38 cv_X5_64 hk.1 rfl rfl (Nat.le_of_ble_eq_true rfl) (by decide) (Or.inl (fun v_ s_ m_ r_ h_ => by rcases h_ with ⟨_, _, e_, _, _⟩ | ⟨_, _, e_, _, _⟩ <;> rw [e_])) (Nat.zero_add _) (Nat.zero_add _) (t_X0_addGathering hk _ g hg hg6) ?_
      rintro v_ sh_ mi_ mr_ (⟨qh6, e1_, e2_, e3_, e4_⟩ | ⟨qh6, e1_, e2_, e3_, e4_⟩)
      · subst e1_
        have e2_ := e2_.symm
        subst e2_
        have e3_ := e3_.symm
        subst e3_
        have e4_ := e4_.symm
        subst e4_
        exact ev_ireturn (ty := .int) dX5_gather_41 rfl rfl (Or.inl ⟨h20, h30, qh6, rfl, rfl, rfl, rfl⟩)
      · subst e1_
        have e2_ := e2_.symm
        subst e2_
        have e3_ := e3_.symm
        subst e3_
        have e4_ := e4_.symm
        subst e4_
        exact ev_ireturn (ty := .int) dX5_gather_41 rfl rfl (Or.inr (Or.inl ⟨h20, h30, qh6, rfl, rfl, rfl, rfl⟩))
    · refine ev_bipush (v := (-4)) dX5_gather_33 rfl ?_
      exact ev_ireturn (ty := .int) dX5_gather_35 rfl rfl (Or.inr (Or.inr (Or.inl ⟨h20, h30, rfl, rfl, rfl, rfl⟩)))
  · refine ev_bipush (v := (-3)) dX5_gather_23 rfl ?_
    exact ev_ireturn (ty := .int) dX5_gather_25 rfl rfl (Or.inr (Or.inr (Or.inr ⟨h20, rfl, rfl, rfl, rfl⟩)))
set_option maxRecDepth 100000 in
set_option maxHeartbeats 4000000 in
theorem t_X5_look_g {sh : SH} {mi : MI} {mr : MR} (hB : ba_c sh mr) (nb : Nat) (hnb : mi 0 5 = nI nb) (hnb10 : nb ≤ 10) (b : Nat) (hb : b < nb) {q : Nat} (hq : mr 1 b = some q) (hk : bk_c sh mr q) (p2 p3 : Int32) (hv : ¬ (0 ≤ p2 ∧ p2 ≤ (mi q 5) - 1)) : EV none 2 0 0 mX5_look 0 (en_l mX5_look [pv_r 0, pv_i (nI b), pv_i p2, pv_i p3]) [] sh mi mr (ok_r sh mr (-2) mi) := by
  show EV none 2 0 0 mX5_look 0 [some (pv_r 0), some (pv_i (nI b)), some (pv_i p2), some (pv_i p3), none] [] sh mi mr _
  refine ev_aload_n dX5_look_0 rfl ?_
  refine ev_iload_n dX5_look_1 rfl ?_
  refine ev_v1q dX5_look_2 cv_X5_53 (hB.1 0 _ rfl) (Nat.le_of_ble_eq_true rfl) (by decide) (t_X5_bookAt_k hB nb hnb hnb10 b hb hq hk) ?_
  refine ev_astore dX5_look_5 (by decide) ?_
  refine ev_aload dX5_look_7 rfl ?_
  refine ev_ifnull_s (tgt := 21) dX5_look_9 rfl ?_
  refine ev_aload dX5_look_12 rfl ?_
  refine ev_iload_n dX5_look_14 rfl ?_
  refine ev_v1i dX5_look_15 cv_X5_68 hk.1 (Nat.le_of_ble_eq_true rfl) (by decide) (t_X0_hasGathering hk _) ?_
  refine ev_if_ne_f (tgt := 24) dX5_look_18 rfl (bi_f hv) ?_
  refine ev_bipush (v := (-2)) dX5_look_21 rfl ?_
  exact ev_ireturn (ty := .int) dX5_look_23 rfl rfl ⟨rfl, rfl, rfl, rfl⟩
set_option maxRecDepth 100000 in
set_option maxHeartbeats 4000000 in
theorem t_X5_look_k {sh : SH} {mi : MI} {mr : MR} (hB : ba_c sh mr) (nb : Nat) (hnb : mi 0 5 = nI nb) (hnb10 : nb ≤ 10) (b : Nat) (hb : b < nb) {q : Nat} (hq : mr 1 b = some q) (hk : bk_c sh mr q) (g : Nat) (hg : mi q 5 = nI g) (hg6 : g ≤ 6) (a : Nat) (ha : mi q 6 = nI a) (ha5 : a ≤ 5) (j : Nat) (hj : j < g) (p3 : Int32) : EV none 2 0 0 mX5_look 0 (en_l mX5_look [pv_r 0, pv_i (nI b), pv_i (nI j), pv_i p3]) [] sh mi mr (fun v_ sh_ mi_ mr_ => (((p3 &&& (((1 <<< ((mi (q + 1) j) &&& 31)) - 1) ^^^ (-1))) = 0) ∧ (¬ (mi q 6) = 5) ∧ (ok_r sh mr ((bc ((mi (q + 2) j) &&& (p3 ^^^ (-1)))) + (bc (p3 &&& ((mi (q + 2) j) ^^^ (-1))))) (up_2 (up_2 (up_2 (up_2 mi (q + 3) a ((mi (q + 3) a) + (bc ((mi (q + 2) j) &&& (p3 ^^^ (-1)))))) (q + 4) a (((up_2 mi (q + 3) a ((mi (q + 3) a) + (bc ((mi (q + 2) j) &&& (p3 ^^^ (-1)))))) (q + 4) a) + (bc (p3 &&& ((mi (q + 2) j) ^^^ (-1)))))) (q + 2) j p3) q 7 (((up_2 (up_2 (up_2 mi (q + 3) a ((mi (q + 3) a) + (bc ((mi (q + 2) j) &&& (p3 ^^^ (-1)))))) (q + 4) a (((up_2 mi (q + 3) a ((mi (q + 3) a) + (bc ((mi (q + 2) j) &&& (p3 ^^^ (-1)))))) (q + 4) a) + (bc (p3 &&& ((mi (q + 2) j) ^^^ (-1)))))) (q + 2) j p3) q 7) ||| (1 <<< ((nI j) &&& 31))))) v_ sh_ mi_ mr_) ∨ (((p3 &&& (((1 <<< ((mi (q + 1) j) &&& 31)) - 1) ^^^ (-1))) = 0) ∧ ((mi q 6) = 5) ∧ (ok_r sh mr (-4) mi) v_ sh_ mi_ mr_) ∨ ((¬ ((p3 &&& (((1 <<< ((mi (q + 1) j) &&& 31)) - 1) ^^^ (-1))) = 0)) ∧ (ok_r sh mr (-3) mi) v_ sh_ mi_ mr_)) := by
  show EV none 2 0 0 mX5_look 0 [some (pv_r 0), some (pv_i (nI b)), some (pv_i (nI j)), some (pv_i p3), none] [] sh mi mr _
  refine ev_aload_n dX5_look_0 rfl ?_
  refine ev_iload_n dX5_look_1 rfl ?_
  refine ev_v1q dX5_look_2 cv_X5_53 (hB.1 0 _ rfl) (Nat.le_of_ble_eq_true rfl) (by decide) (t_X5_bookAt_k hB nb hnb hnb10 b hb hq hk) ?_
  refine ev_astore dX5_look_5 (by decide) ?_
  refine ev_aload dX5_look_7 rfl ?_
  refine ev_ifnull_s (tgt := 21) dX5_look_9 rfl ?_
  refine ev_aload dX5_look_12 rfl ?_
  refine ev_iload_n dX5_look_14 rfl ?_
  refine ev_v1i dX5_look_15 cv_X5_68 hk.1 (Nat.le_of_ble_eq_true rfl) (by decide) (t_X0_hasGathering hk _) ?_
  refine ev_if_ne_t (tgt := 24) dX5_look_18 rfl (by rw [bi_1 (by rw [hg]; exact (i_cases (by omega)).mpr ⟨j, hj, rfl⟩)]; decide) ?_
  refine ev_aload dX5_look_24 rfl ?_
  refine ev_iload_n dX5_look_26 rfl ?_
  refine ev_iload_n dX5_look_27 rfl ?_
  refine ev_v2i dX5_look_28 cv_X5_72 hk.1 (Nat.le_of_ble_eq_true rfl) (by decide) (t_X0_hasLeaves hk j (by omega) _) ?_
  refine ev_ifb_ne (tgt := 37) dX5_look_31 rfl (fun h31 => ?_) (fun h31 => ?_)
  · refine ev_aload dX5_look_37 rfl ?_
    refine ev_geti dX5_look_39 fl_X5_61 rfl hk.1 ?_
    refine ev_iconst (v := 5) dX5_look_42 rfl ?_
    refine ev_icmp_ne (tgt := 49) dX5_look_43 rfl (fun h43 => ?_) (fun h43 => ?_)
    · refine ev_aload dX5_look_49 rfl ?_
      refine ev_iload_n dX5_look_51 rfl ?_
      refine ev_iload_n dX5_look_52 rfl ?_
      refine ev_v2i dX5_look_53 cv_X5_76 hk.1 (Nat.le_of_ble_eq_true rfl) (by decide) (t_X0_inspect hk j (by omega) _ a ha ha5 (by have := (not_congr (nl_eq ha (b := 5) rfl (by omega) (by decide))).mp h43; omega)) ?_
      exact ev_ireturn (ty := .int) dX5_look_56 rfl rfl (Or.inl ⟨h31, h43, rfl, rfl, rfl, rfl⟩)
    · refine ev_bipush (v := (-4)) dX5_look_46 rfl ?_
      exact ev_ireturn (ty := .int) dX5_look_48 rfl rfl (Or.inr (Or.inl ⟨h31, h43, rfl, rfl, rfl, rfl⟩))
  · refine ev_bipush (v := (-3)) dX5_look_34 rfl ?_
    exact ev_ireturn (ty := .int) dX5_look_36 rfl rfl (Or.inr (Or.inr ⟨h31, rfl, rfl, rfl, rfl⟩))
set_option maxRecDepth 100000 in
set_option maxHeartbeats 4000000 in
theorem t_X5_there_g {sh : SH} {mi : MI} {mr : MR} (hB : ba_c sh mr) (nb : Nat) (hnb : mi 0 5 = nI nb) (hnb10 : nb ≤ 10) (b : Nat) (hb : b < nb) {q : Nat} (hq : mr 1 b = some q) (hk : bk_c sh mr q) (p2 : Int32) (hv : ¬ (0 ≤ p2 ∧ p2 ≤ (mi q 5) - 1)) : EV none 2 0 0 mX5_there 0 (en_l mX5_there [pv_r 0, pv_i (nI b), pv_i p2]) [] sh mi mr (ok_r sh mr (-2) mi) := by
  show EV none 2 0 0 mX5_there 0 [some (pv_r 0), some (pv_i (nI b)), some (pv_i p2), none] [] sh mi mr _
  refine ev_aload_n dX5_there_0 rfl ?_
  refine ev_iload_n dX5_there_1 rfl ?_
  refine ev_v1q dX5_there_2 cv_X5_53 (hB.1 0 _ rfl) (Nat.le_of_ble_eq_true rfl) (by decide) (t_X5_bookAt_k hB nb hnb hnb10 b hb hq hk) ?_
  refine ev_astore_n dX5_there_5 (by decide) ?_
  refine ev_aload_n dX5_there_6 rfl ?_
  refine ev_ifnull_s (tgt := 18) dX5_there_7 rfl ?_
  refine ev_aload_n dX5_there_10 rfl ?_
  refine ev_iload_n dX5_there_11 rfl ?_
  refine ev_v1i dX5_there_12 cv_X5_68 hk.1 (Nat.le_of_ble_eq_true rfl) (by decide) (t_X0_hasGathering hk _) ?_
  refine ev_if_ne_f (tgt := 21) dX5_there_15 rfl (bi_f hv) ?_
  refine ev_bipush (v := (-2)) dX5_there_18 rfl ?_
  exact ev_ireturn (ty := .int) dX5_there_20 rfl rfl ⟨rfl, rfl, rfl, rfl⟩
set_option maxRecDepth 100000 in
set_option maxHeartbeats 4000000 in
theorem t_X5_there_k {sh : SH} {mi : MI} {mr : MR} (hB : ba_c sh mr) (nb : Nat) (hnb : mi 0 5 = nI nb) (hnb10 : nb ≤ 10) (b : Nat) (hb : b < nb) {q : Nat} (hq : mr 1 b = some q) (hk : bk_c sh mr q) (g : Nat) (hg : mi q 5 = nI g) (hg6 : g ≤ 6) (j : Nat) (hj : j < g) : EV none 2 0 0 mX5_there 0 (en_l mX5_there [pv_r 0, pv_i (nI b), pv_i (nI j)]) [] sh mi mr (ok_r sh mr (mi (q + 2) j) mi) := by
  show EV none 2 0 0 mX5_there 0 [some (pv_r 0), some (pv_i (nI b)), some (pv_i (nI j)), none] [] sh mi mr _
  refine ev_aload_n dX5_there_0 rfl ?_
  refine ev_iload_n dX5_there_1 rfl ?_
  refine ev_v1q dX5_there_2 cv_X5_53 (hB.1 0 _ rfl) (Nat.le_of_ble_eq_true rfl) (by decide) (t_X5_bookAt_k hB nb hnb hnb10 b hb hq hk) ?_
  refine ev_astore_n dX5_there_5 (by decide) ?_
  refine ev_aload_n dX5_there_6 rfl ?_
  refine ev_ifnull_s (tgt := 18) dX5_there_7 rfl ?_
  refine ev_aload_n dX5_there_10 rfl ?_
  refine ev_iload_n dX5_there_11 rfl ?_
  refine ev_v1i dX5_there_12 cv_X5_68 hk.1 (Nat.le_of_ble_eq_true rfl) (by decide) (t_X0_hasGathering hk _) ?_
  refine ev_if_ne_t (tgt := 21) dX5_there_15 rfl (by rw [bi_1 (by rw [hg]; exact (i_cases (by omega)).mpr ⟨j, hj, rfl⟩)]; decide) ?_
  refine ev_aload_n dX5_there_21 rfl ?_
  refine ev_getq dX5_there_22 fl_X5_101 rfl hk.1 hk.2.1.2.1 ?_
  refine ev_iload_n dX5_there_25 rfl ?_
  refine ev_iald dX5_there_26 hk.2.2.2.1 (j := j) rfl (by omega) (by decide) ?_
  exact ev_ireturn (ty := .int) dX5_there_27 rfl rfl ⟨rfl, rfl, rfl, rfl⟩
set_option maxRecDepth 100000 in
set_option maxHeartbeats 4000000 in
theorem t_X1_notePass_d {sh : SH} {mi : MI} {mr : MR} (hB : ba_c sh mr) (p1 p2 : Int32) (m : Nat) (hm : mi 22 1 = nI m) (hm50 : m < 50) : EV none 0 0 0 mX1_notePass 0 (en_l mX1_notePass [pv_r 22, pv_i p1, pv_i p2]) [] sh mi mr (ok_n sh mr (up_2 (up_2 (up_2 mi 27 m p1) 28 m p2) 22 1 (((up_2 (up_2 mi 27 m p1) 28 m p2) 22 1) + 1))) := by
  show EV none 0 0 0 mX1_notePass 0 [some (pv_r 22), some (pv_i p1), some (pv_i p2)] [] sh mi mr _
  refine ev_aload_n dX1_notePass_0 rfl ?_
  refine ev_geti dX1_notePass_1 fl_X1_15 rfl (hB.1 22 _ rfl) ?_
  refine ev_bipush (v := 50) dX1_notePass_4 rfl ?_
  refine ev_icmp_lt_t (tgt := 10) dX1_notePass_6 rfl (by rw [hm]; exact (nI_ltI (b := 50) (by omega) (by decide)).mpr hm50) ?_
  refine ev_aload_n dX1_notePass_10 rfl ?_
  refine ev_getq dX1_notePass_11 fl_X1_31 rfl (hB.1 22 _ rfl) (hB.2 22 6 _ rfl) ?_
  refine ev_aload_n dX1_notePass_14 rfl ?_
  refine ev_geti dX1_notePass_15 fl_X1_15 rfl (hB.1 22 _ rfl) ?_
  refine ev_iload_n dX1_notePass_18 rfl ?_
  refine ev_iast dX1_notePass_19 (hB.1 27 _ rfl) (j := m) (by simp [up_2, pk_mul, nI_add, n_5, n_6, n_12, n_144, hm]) (by omega) (by decide) ?_
  refine ev_aload_n dX1_notePass_20 rfl ?_
  refine ev_getq dX1_notePass_21 fl_X1_34 rfl (hB.1 22 _ rfl) (hB.2 22 7 _ rfl) ?_
  refine ev_aload_n dX1_notePass_24 rfl ?_
  refine ev_geti dX1_notePass_25 fl_X1_15 rfl (hB.1 22 _ rfl) ?_
  refine ev_iload_n dX1_notePass_28 rfl ?_
  refine ev_iast dX1_notePass_29 (hB.1 28 _ rfl) (j := m) (by simp [up_2, pk_mul, nI_add, n_5, n_6, n_12, n_144, hm]) (by omega) (by decide) ?_
  refine ev_aload_n dX1_notePass_30 rfl ?_
  refine ev_dup dX1_notePass_31 ?_
  refine ev_geti dX1_notePass_32 fl_X1_15 rfl (hB.1 22 _ rfl) ?_
  refine ev_iconst (v := 1) dX1_notePass_35 rfl ?_
  refine ev_iadd dX1_notePass_36 ?_
  refine ev_puti dX1_notePass_37 fl_X1_15 rfl rfl (hB.1 22 _ rfl) ?_
  exact ev_return dX1_notePass_40 rfl ⟨rfl, rfl, rfl, rfl⟩
set_option maxRecDepth 100000 in
set_option maxHeartbeats 4000000 in
theorem t_X5_pass_k {sh : SH} {mi : MI} {mr : MR} (hB : ba_c sh mr) (nb : Nat) (hnb : mi 0 5 = nI nb) (hnb10 : nb ≤ 10) (b : Nat) (hb : b < nb) {q : Nat} (hq : mr 1 b = some q) (hk : bk_c sh mr q) (m : Nat) (hm : mi 22 1 = nI m) (hm50 : m < 50) : EV none 2 0 0 mX5_pass 0 (en_l mX5_pass [pv_r 0, pv_i (nI b)]) [] sh mi mr (fun v_ sh_ mi_ mr_ => ((¬ mi q 6 = 5 ∧ ¬ mi q 5 ≤ 0 ∧ mi q 7 = (1 <<< (mi q 5 &&& 31)) - 1) ∧ (ok_r sh mr ((up_2 (up_2 (up_2 (up_2 (up_2 mi 27 m (mi q 6)) 28 m (mi 0 7)) 22 1 (((up_2 (up_2 mi 27 m (mi q 6)) 28 m (mi 0 7)) 22 1) + 1)) q 6 (((up_2 (up_2 (up_2 mi 27 m (mi q 6)) 28 m (mi 0 7)) 22 1 (((up_2 (up_2 mi 27 m (mi q 6)) 28 m (mi 0 7)) 22 1) + 1)) q 6) + 1)) q 7 0) q 6) (up_2 (up_2 (up_2 (up_2 (up_2 mi 27 m (mi q 6)) 28 m (mi 0 7)) 22 1 (((up_2 (up_2 mi 27 m (mi q 6)) 28 m (mi 0 7)) 22 1) + 1)) q 6 (((up_2 (up_2 (up_2 mi 27 m (mi q 6)) 28 m (mi 0 7)) 22 1 (((up_2 (up_2 mi 27 m (mi q 6)) 28 m (mi 0 7)) 22 1) + 1)) q 6) + 1)) q 7 0)) v_ sh_ mi_ mr_) ∨ ((¬ (¬ mi q 6 = 5 ∧ ¬ mi q 5 ≤ 0 ∧ mi q 7 = (1 <<< (mi q 5 &&& 31)) - 1)) ∧ (ok_r sh mr (-4) mi) v_ sh_ mi_ mr_)) := by
  show EV none 2 0 0 mX5_pass 0 [some (pv_r 0), some (pv_i (nI b)), none] [] sh mi mr _
  refine ev_aload_n dX5_pass_0 rfl ?_
  refine ev_iload_n dX5_pass_1 rfl ?_
  refine ev_v1q dX5_pass_2 cv_X5_53 (hB.1 0 _ rfl) (Nat.le_of_ble_eq_true rfl) (by decide) (t_X5_bookAt_k hB nb hnb hnb10 b hb hq hk) ?_
  refine ev_astore_n dX5_pass_5 (by decide) ?_
  refine ev_aload_n dX5_pass_6 rfl ?_
  refine ev_ifnonnull_s (tgt := 13) dX5_pass_7 rfl ?_
  refine ev_aload_n dX5_pass_13 rfl ?_
  refine ev_v0i dX5_pass_14 cv_X5_80 hk.1 (Nat.le_of_ble_eq_true rfl) (by decide) (t_X0_mayMoveOn hk) ?_
  refine ev_ifb_ne (tgt := 23) dX5_pass_17 rfl (fun h17 => ?_) (fun h17 => ?_)
  · refine ev_aload_n dX5_pass_23 rfl ?_
    refine ev_getq dX5_pass_24 fl_X5_38 rfl (hB.1 0 _ rfl) (hB.2 0 4 _ rfl) ?_
    refine ev_aload_n dX5_pass_27 rfl ?_
    refine ev_geti dX5_pass_28 fl_X5_61 rfl hk.1 ?_
    refine ev_aload_n dX5_pass_31 rfl ?_
    refine ev_geti dX5_pass_32 fl_X5_49 rfl (hB.1 0 _ rfl) ?_
    refine ev_v2n dX5_pass_35 cv_X5_84 (hB.1 22 _ rfl) (Nat.le_of_ble_eq_true rfl) (by decide) (t_X1_notePass_d hB _ _ m hm hm50) ?_
    refine ev_aload_n dX5_pass_38 rfl ?_
    refine ev_v0i dX5_pass_39 cv_X5_88 hk.1 (Nat.le_of_ble_eq_true rfl) (by decide) (t_X0_moveOn hk) ?_
    exact ev_ireturn (ty := .int) dX5_pass_42 rfl rfl (Or.inl ⟨h17, rfl, rfl, rfl, rfl⟩)
  · refine ev_bipush (v := (-4)) dX5_pass_20 rfl ?_
    exact ev_ireturn (ty := .int) dX5_pass_22 rfl rfl (Or.inr ⟨h17, rfl, rfl, rfl, rfl⟩)
set_option maxRecDepth 100000 in
set_option maxHeartbeats 4000000 in
theorem t_X5_told_k {sh : SH} {mi : MI} {mr : MR} (hB : ba_c sh mr) (nb : Nat) (hnb : mi 0 5 = nI nb) (hnb10 : nb ≤ 10) (b : Nat) (hb : b < nb) {q : Nat} (hq : mr 1 b = some q) (hk : bk_c sh mr q) (g : Nat) (hg : mi q 5 = nI g) (hg6 : g ≤ 6) (p2 : Int32) : EV none 2 0 0 mX5_told 0 (en_l mX5_told [pv_r 0, pv_i (nI b), pv_i p2]) [] sh mi mr (fun v_ sh_ mi_ mr_ => ((p2 = 0) ∧ (ok_r sh mr (mi q 6) mi) v_ sh_ mi_ mr_) ∨ ((¬ p2 = 0) ∧ (p2 = 1) ∧ (ok_r sh mr (mi q 5) mi) v_ sh_ mi_ mr_) ∨ ((¬ p2 = 0) ∧ (¬ p2 = 1) ∧ (p2 = 2) ∧ (ok_r sh mr (sm_c (fun k => bc (mi (q + 2) k)) g) mi) v_ sh_ mi_ mr_) ∨ ((¬ p2 = 0) ∧ (¬ p2 = 1) ∧ (¬ p2 = 2) ∧ (p2 = 3) ∧ (ok_r sh mr (sm_c (mi (q + 1)) g) mi) v_ sh_ mi_ mr_) ∨ ((¬ p2 = 0) ∧ (¬ p2 = 1) ∧ (¬ p2 = 2) ∧ (¬ p2 = 3) ∧ (ok_r sh mr (-3) mi) v_ sh_ mi_ mr_)) := by
  show EV none 2 0 0 mX5_told 0 [some (pv_r 0), some (pv_i (nI b)), some (pv_i p2), none] [] sh mi mr _
  refine ev_aload_n dX5_told_0 rfl ?_
  refine ev_iload_n dX5_told_1 rfl ?_
  refine ev_v1q dX5_told_2 cv_X5_53 (hB.1 0 _ rfl) (Nat.le_of_ble_eq_true rfl) (by decide) (t_X5_bookAt_k hB nb hnb hnb10 b hb hq hk) ?_
  refine ev_astore_n dX5_told_5 (by decide) ?_
  refine ev_aload_n dX5_told_6 rfl ?_
  refine ev_ifnonnull_s (tgt := 13) dX5_told_7 rfl ?_
  refine ev_iload_n dX5_told_13 rfl ?_
  by_cases h14_0 : p2 = 0
  · refine ev_tableIn (tgt := 44) dX5_told_14 (by rw [h14_0]; decide) (by rw [h14_0]; decide) (by rw [h14_0] <;> rfl) rfl ?_
    refine ev_aload_n dX5_told_44 rfl ?_
    refine ev_geti dX5_told_45 fl_X5_61 rfl hk.1 ?_
    exact ev_ireturn (ty := .int) dX5_told_48 rfl rfl (Or.inl ⟨h14_0, rfl, rfl, rfl, rfl⟩)
  by_cases h14_1 : p2 = 1
  · refine ev_tableIn (tgt := 49) dX5_told_14 (by rw [h14_1]; decide) (by rw [h14_1]; decide) (by rw [h14_1] <;> rfl) rfl ?_
    refine ev_aload_n dX5_told_49 rfl ?_
    refine ev_geti dX5_told_50 fl_X5_92 rfl hk.1 ?_
    exact ev_ireturn (ty := .int) dX5_told_53 rfl rfl (Or.inr (Or.inl ⟨h14_0, h14_1, rfl, rfl, rfl, rfl⟩))
  by_cases h14_2 : p2 = 2
  · refine ev_tableIn (tgt := 54) dX5_told_14 (by rw [h14_2]; decide) (by rw [h14_2]; decide) (by rw [h14_2] <;> rfl) rfl ?_
    refine ev_aload_n dX5_told_54 rfl ?_
    refine ev_v0i dX5_told_55 cv_X5_95 hk.1 (Nat.le_of_ble_eq_true rfl) (by decide) (t_X0_leavesBelieved hk g hg hg6) ?_
    exact ev_ireturn (ty := .int) dX5_told_58 rfl rfl (Or.inr (Or.inr (Or.inl ⟨h14_0, h14_1, h14_2, rfl, rfl, rfl, rfl⟩)))
  by_cases h14_3 : p2 = 3
  · refine ev_tableIn (tgt := 59) dX5_told_14 (by rw [h14_3]; decide) (by rw [h14_3]; decide) (by rw [h14_3] <;> rfl) rfl ?_
    refine ev_aload_n dX5_told_59 rfl ?_
    refine ev_v0i dX5_told_60 cv_X5_98 hk.1 (Nat.le_of_ble_eq_true rfl) (by decide) (t_X0_leavesInAll hk g hg hg6) ?_
    exact ev_ireturn (ty := .int) dX5_told_63 rfl rfl (Or.inr (Or.inr (Or.inr (Or.inl ⟨h14_0, h14_1, h14_2, h14_3, rfl, rfl, rfl, rfl⟩))))
  refine ev_tableOut (tgt := 64) dX5_told_14 (by have e0 := lv_neT (a := 0) h14_0 (by decide); have e1 := lv_neT (a := 1) h14_1 (by decide); have e2 := lv_neT (a := 2) h14_2 (by decide); have e3 := lv_neT (a := 3) h14_3 (by decide); omega) rfl ?_
  refine ev_bipush (v := (-3)) dX5_told_64 rfl ?_
  exact ev_ireturn (ty := .int) dX5_told_66 rfl rfl (Or.inr (Or.inr (Or.inr (Or.inr ⟨h14_0, h14_1, h14_2, h14_3, rfl, rfl, rfl, rfl⟩))))
set_option maxRecDepth 100000 in
set_option maxHeartbeats 4000000 in
theorem t_X5_gone_b {sh : SH} {mi : MI} {mr : MR} (hB : ba_c sh mr) (nb : Nat) (hnb : mi 0 5 = nI nb) (hnb10 : nb ≤ 10) (b : Nat) (hb : b < nb) {q : Nat} (hq : mr 1 b = some q) (hk : bk_c sh mr q) (p2 p3 : Int32) (hv : ¬ (0 ≤ p2 ∧ p2 ≤ 4)) : EV none 2 0 0 mX5_gone 0 (en_l mX5_gone [pv_r 0, pv_i (nI b), pv_i p2, pv_i p3]) [] sh mi mr (ok_r sh mr (-2) mi) := by
  show EV none 2 0 0 mX5_gone 0 [some (pv_r 0), some (pv_i (nI b)), some (pv_i p2), some (pv_i p3), none] [] sh mi mr _
  refine ev_aload_n dX5_gone_0 rfl ?_
  refine ev_iload_n dX5_gone_1 rfl ?_
  refine ev_v1q dX5_gone_2 cv_X5_53 (hB.1 0 _ rfl) (Nat.le_of_ble_eq_true rfl) (by decide) (t_X5_bookAt_k hB nb hnb hnb10 b hb hq hk) ?_
  refine ev_astore dX5_gone_5 (by decide) ?_
  refine ev_aload dX5_gone_7 rfl ?_
  refine ev_ifnull_s (tgt := 19) dX5_gone_9 rfl ?_
  refine ev_iload_n dX5_gone_12 rfl ?_
  refine ev_s1i dX5_gone_13 cs_X5_105 (Nat.le_of_ble_eq_true rfl) (by decide) (t_X5_isBench _) ?_
  refine ev_if_ne_f (tgt := 22) dX5_gone_16 rfl (bi_f hv) ?_
  refine ev_bipush (v := (-2)) dX5_gone_19 rfl ?_
  exact ev_ireturn (ty := .int) dX5_gone_21 rfl rfl ⟨rfl, rfl, rfl, rfl⟩
set_option maxRecDepth 100000 in
set_option maxHeartbeats 4000000 in
theorem t_X5_gone_k {sh : SH} {mi : MI} {mr : MR} (hB : ba_c sh mr) (nb : Nat) (hnb : mi 0 5 = nI nb) (hnb10 : nb ≤ 10) (b : Nat) (hb : b < nb) {q : Nat} (hq : mr 1 b = some q) (hk : bk_c sh mr q) (k : Nat) (hk5 : k < 5) (p3 : Int32) : EV none 2 0 0 mX5_gone 0 (en_l mX5_gone [pv_r 0, pv_i (nI b), pv_i (nI k), pv_i p3]) [] sh mi mr (fun v_ sh_ mi_ mr_ => ((p3 = 0) ∧ (ok_r sh mr (mi (q + 3) k) mi) v_ sh_ mi_ mr_) ∨ ((¬ p3 = 0) ∧ (p3 = 1) ∧ (ok_r sh mr (mi (q + 4) k) mi) v_ sh_ mi_ mr_) ∨ ((¬ p3 = 0) ∧ (¬ p3 = 1) ∧ (ok_r sh mr (-3) mi) v_ sh_ mi_ mr_)) := by
  show EV none 2 0 0 mX5_gone 0 [some (pv_r 0), some (pv_i (nI b)), some (pv_i (nI k)), some (pv_i p3), none] [] sh mi mr _
  refine ev_aload_n dX5_gone_0 rfl ?_
  refine ev_iload_n dX5_gone_1 rfl ?_
  refine ev_v1q dX5_gone_2 cv_X5_53 (hB.1 0 _ rfl) (Nat.le_of_ble_eq_true rfl) (by decide) (t_X5_bookAt_k hB nb hnb hnb10 b hb hq hk) ?_
  refine ev_astore dX5_gone_5 (by decide) ?_
  refine ev_aload dX5_gone_7 rfl ?_
  refine ev_ifnull_s (tgt := 19) dX5_gone_9 rfl ?_
  refine ev_iload_n dX5_gone_12 rfl ?_
  refine ev_s1i dX5_gone_13 cs_X5_105 (Nat.le_of_ble_eq_true rfl) (by decide) (t_X5_isBench _) ?_
  refine ev_if_ne_t (tgt := 22) dX5_gone_16 rfl (by rw [bi_1 ((i_in 4 (n := 4) rfl (by decide)).mpr ⟨k, by omega, rfl⟩)]; decide) ?_
  refine ev_iload_n dX5_gone_22 rfl ?_
  by_cases h23_0 : p3 = 0
  · refine ev_lookup (tgt := 48) dX5_gone_23 (by decide) (by rw [h23_0] <;> rfl) rfl ?_
    refine ev_aload dX5_gone_48 rfl ?_
    refine ev_getq dX5_gone_50 fl_X5_108 rfl hk.1 hk.2.1.2.2.1 ?_
    refine ev_iload_n dX5_gone_53 rfl ?_
    refine ev_iald dX5_gone_54 hk.2.2.2.2.1 (j := k) rfl (by omega) (by decide) ?_
    exact ev_ireturn (ty := .int) dX5_gone_55 rfl rfl (Or.inl ⟨h23_0, rfl, rfl, rfl, rfl⟩)
  by_cases h23_1 : p3 = 1
  · refine ev_lookup (tgt := 56) dX5_gone_23 (by decide) (by rw [h23_1] <;> rfl) rfl ?_
    refine ev_aload dX5_gone_56 rfl ?_
    refine ev_getq dX5_gone_58 fl_X5_111 rfl hk.1 hk.2.1.2.2.2.1 ?_
    refine ev_iload_n dX5_gone_61 rfl ?_
    refine ev_iald dX5_gone_62 hk.2.2.2.2.2.1 (j := k) rfl (by omega) (by decide) ?_
    exact ev_ireturn (ty := .int) dX5_gone_63 rfl rfl (Or.inr (Or.inl ⟨h23_0, h23_1, rfl, rfl, rfl, rfl⟩))
  refine ev_lookup (tgt := 64) dX5_gone_23 (by decide) (by rw [lv_osw h23_0 (by decide), lv_osw h23_1 (by decide)] <;> rfl) rfl ?_
  refine ev_bipush (v := (-3)) dX5_gone_64 rfl ?_
  exact ev_ireturn (ty := .int) dX5_gone_66 rfl rfl (Or.inr (Or.inr ⟨h23_0, h23_1, rfl, rfl, rfl, rfl⟩))
set_option maxRecDepth 100000 in
set_option maxHeartbeats 4000000 in
theorem t_X5_hours_b {sh : SH} {mi : MI} {mr : MR} (hB : ba_c sh mr) (nb : Nat) (hnb : mi 0 5 = nI nb) (hnb10 : nb ≤ 10) (b : Nat) (hb : b < nb) {q : Nat} (hq : mr 1 b = some q) (hk : bk_c sh mr q) (p2 p3 : Int32) (hv : ¬ (0 ≤ p2 ∧ p2 ≤ 4)) : EV none 2 0 0 mX5_hours 0 (en_l mX5_hours [pv_r 0, pv_i (nI b), pv_i p2, pv_i p3]) [] sh mi mr (ok_r sh mr (-2) mi) := by
  show EV none 2 0 0 mX5_hours 0 [some (pv_r 0), some (pv_i (nI b)), some (pv_i p2), some (pv_i p3), none] [] sh mi mr _
  refine ev_aload_n dX5_hours_0 rfl ?_
  refine ev_iload_n dX5_hours_1 rfl ?_
  refine ev_v1q dX5_hours_2 cv_X5_53 (hB.1 0 _ rfl) (Nat.le_of_ble_eq_true rfl) (by decide) (t_X5_bookAt_k hB nb hnb hnb10 b hb hq hk) ?_
  refine ev_astore dX5_hours_5 (by decide) ?_
  refine ev_aload dX5_hours_7 rfl ?_
  refine ev_ifnull_s (tgt := 19) dX5_hours_9 rfl ?_
  refine ev_iload_n dX5_hours_12 rfl ?_
  refine ev_s1i dX5_hours_13 cs_X5_105 (Nat.le_of_ble_eq_true rfl) (by decide) (t_X5_isBench _) ?_
  refine ev_if_ne_f (tgt := 22) dX5_hours_16 rfl (bi_f hv) ?_
  refine ev_bipush (v := (-2)) dX5_hours_19 rfl ?_
  exact ev_ireturn (ty := .int) dX5_hours_21 rfl rfl ⟨rfl, rfl, rfl, rfl⟩
set_option maxRecDepth 100000 in
set_option maxHeartbeats 4000000 in
theorem t_X5_hours_k {sh : SH} {mi : MI} {mr : MR} (hB : ba_c sh mr) (nb : Nat) (hnb : mi 0 5 = nI nb) (hnb10 : nb ≤ 10) (b : Nat) (hb : b < nb) {q : Nat} (hq : mr 1 b = some q) (hk : bk_c sh mr q) (k : Nat) (hk5 : k < 5) (p3 : Int32) : EV none 2 0 0 mX5_hours 0 (en_l mX5_hours [pv_r 0, pv_i (nI b), pv_i (nI k), pv_i p3]) [] sh mi mr (fun v_ sh_ mi_ mr_ => ((0 ≤ p3 ∧ p3 ≤ 50) ∧ (ok_r sh mr 1 (up_2 mi (q + 5) k p3)) v_ sh_ mi_ mr_) ∨ ((¬ (0 ≤ p3 ∧ p3 ≤ 50)) ∧ (ok_r sh mr (-3) mi) v_ sh_ mi_ mr_)) := by
  show EV none 2 0 0 mX5_hours 0 [some (pv_r 0), some (pv_i (nI b)), some (pv_i (nI k)), some (pv_i p3), none] [] sh mi mr _
  refine ev_aload_n dX5_hours_0 rfl ?_
  refine ev_iload_n dX5_hours_1 rfl ?_
  refine ev_v1q dX5_hours_2 cv_X5_53 (hB.1 0 _ rfl) (Nat.le_of_ble_eq_true rfl) (by decide) (t_X5_bookAt_k hB nb hnb hnb10 b hb hq hk) ?_
  refine ev_astore dX5_hours_5 (by decide) ?_
  refine ev_aload dX5_hours_7 rfl ?_
  refine ev_ifnull_s (tgt := 19) dX5_hours_9 rfl ?_
  refine ev_iload_n dX5_hours_12 rfl ?_
  refine ev_s1i dX5_hours_13 cs_X5_105 (Nat.le_of_ble_eq_true rfl) (by decide) (t_X5_isBench _) ?_
  refine ev_if_ne_t (tgt := 22) dX5_hours_16 rfl (by rw [bi_1 ((i_in 4 (n := 4) rfl (by decide)).mpr ⟨k, by omega, rfl⟩)]; decide) ?_
  refine ev_iload_n dX5_hours_22 rfl ?_
  refine ev_iconst (v := 0) dX5_hours_23 rfl ?_
  refine ev_bipush (v := 50) dX5_hours_24 rfl ?_
  refine ev_s3i dX5_hours_26 cs_X5_57 (Nat.le_of_ble_eq_true rfl) (by decide) (t_X5_within _ _ _) ?_
  refine ev_ifb_ne (tgt := 35) dX5_hours_29 rfl (fun h29 => ?_) (fun h29 => ?_)
  · refine ev_aload dX5_hours_35 rfl ?_
    refine ev_getq dX5_hours_37 fl_X5_114 rfl hk.1 hk.2.1.2.2.2.2 ?_
    refine ev_iload_n dX5_hours_40 rfl ?_
    refine ev_iload_n dX5_hours_41 rfl ?_
    refine ev_iast dX5_hours_42 hk.2.2.2.2.2.2 (j := k) rfl (by omega) (by decide) ?_
    refine ev_iconst (v := 1) dX5_hours_43 rfl ?_
    exact ev_ireturn (ty := .int) dX5_hours_44 rfl rfl (Or.inl ⟨h29, rfl, rfl, rfl, rfl⟩)
  · refine ev_bipush (v := (-3)) dX5_hours_32 rfl ?_
    exact ev_ireturn (ty := .int) dX5_hours_34 rfl rfl (Or.inr ⟨h29, rfl, rfl, rfl, rfl⟩)
set_option maxRecDepth 100000 in
set_option maxHeartbeats 4000000 in
theorem t_X5_promise_k {sh : SH} {mi : MI} {mr : MR} (hB : ba_c sh mr) (nb : Nat) (hnb : mi 0 5 = nI nb) (hnb10 : nb ≤ 10) (b : Nat) (hb : b < nb) {q : Nat} (hq : mr 1 b = some q) (hk : bk_c sh mr q) (p2 p3 p4 : Int32) : EV none 2 0 0 mX5_promise 0 (en_l mX5_promise [pv_r 0, pv_i (nI b), pv_i p2, pv_i p3, pv_i p4]) [] sh mi mr (fun v_ sh_ mi_ mr_ => ((¬ (0 ≤ p2 ∧ p2 ≤ 30)) ∧ (ok_r sh mr (-3) mi) v_ sh_ mi_ mr_) ∨ ((0 ≤ p2 ∧ p2 ≤ 30) ∧ (¬ (0 ≤ p3 ∧ p3 ≤ 2000)) ∧ (ok_r sh mr (-3) mi) v_ sh_ mi_ mr_) ∨ ((0 ≤ p2 ∧ p2 ≤ 30) ∧ (0 ≤ p3 ∧ p3 ≤ 2000) ∧ (0 ≤ p4 ∧ p4 ≤ 100) ∧ (ok_r sh mr 1 (up_2 (up_2 (up_2 mi q 8 p2) q 9 p3) q 10 p4)) v_ sh_ mi_ mr_) ∨ ((0 ≤ p2 ∧ p2 ≤ 30) ∧ (0 ≤ p3 ∧ p3 ≤ 2000) ∧ (¬ (0 ≤ p4 ∧ p4 ≤ 100)) ∧ (ok_r sh mr (-3) mi) v_ sh_ mi_ mr_)) := by
  show EV none 2 0 0 mX5_promise 0 [some (pv_r 0), some (pv_i (nI b)), some (pv_i p2), some (pv_i p3), some (pv_i p4), none] [] sh mi mr _
  refine ev_aload_n dX5_promise_0 rfl ?_
  refine ev_iload_n dX5_promise_1 rfl ?_
  refine ev_v1q dX5_promise_2 cv_X5_53 (hB.1 0 _ rfl) (Nat.le_of_ble_eq_true rfl) (by decide) (t_X5_bookAt_k hB nb hnb hnb10 b hb hq hk) ?_
  refine ev_astore dX5_promise_5 (by decide) ?_
  refine ev_aload dX5_promise_7 rfl ?_
  refine ev_ifnonnull_s (tgt := 15) dX5_promise_9 rfl ?_
  refine ev_iload_n dX5_promise_15 rfl ?_
  refine ev_iconst (v := 0) dX5_promise_16 rfl ?_
  refine ev_bipush (v := 30) dX5_promise_17 rfl ?_
  refine ev_s3i dX5_promise_19 cs_X5_57 (Nat.le_of_ble_eq_true rfl) (by decide) (t_X5_within _ _ _) ?_
  refine ev_ifb_eq (tgt := 47) dX5_promise_22 rfl (fun h22 => ?_) (fun h22 => ?_)
  · refine ev_bipush (v := (-3)) dX5_promise_47 rfl ?_
    exact ev_ireturn (ty := .int) dX5_promise_49 rfl rfl (Or.inl ⟨h22, rfl, rfl, rfl, rfl⟩)
  · refine ev_iload_n dX5_promise_25 rfl ?_
    refine ev_iconst (v := 0) dX5_promise_26 rfl ?_
    refine ev_sipush (v := 2000) dX5_promise_27 rfl ?_
    refine ev_s3i dX5_promise_30 cs_X5_57 (Nat.le_of_ble_eq_true rfl) (by decide) (t_X5_within _ _ _) ?_
    refine ev_ifb_eq (tgt := 47) dX5_promise_33 rfl (fun h33 => ?_) (fun h33 => ?_)
    · refine ev_bipush (v := (-3)) dX5_promise_47 rfl ?_
      exact ev_ireturn (ty := .int) dX5_promise_49 rfl rfl (Or.inr (Or.inl ⟨h22, h33, rfl, rfl, rfl, rfl⟩))
    · refine ev_iload dX5_promise_36 rfl ?_
      refine ev_iconst (v := 0) dX5_promise_38 rfl ?_
      refine ev_bipush (v := 100) dX5_promise_39 rfl ?_
      refine ev_s3i dX5_promise_41 cs_X5_57 (Nat.le_of_ble_eq_true rfl) (by decide) (t_X5_within _ _ _) ?_
      refine ev_ifb_ne (tgt := 50) dX5_promise_44 rfl (fun h44 => ?_) (fun h44 => ?_)
      · refine ev_aload dX5_promise_50 rfl ?_
        refine ev_iload_n dX5_promise_52 rfl ?_
        refine ev_puti dX5_promise_53 fl_X5_117 rfl rfl hk.1 ?_
        refine ev_aload dX5_promise_56 rfl ?_
        refine ev_iload_n dX5_promise_58 rfl ?_
        refine ev_puti dX5_promise_59 fl_X5_120 rfl rfl hk.1 ?_
        refine ev_aload dX5_promise_62 rfl ?_
        refine ev_iload dX5_promise_64 rfl ?_
        refine ev_puti dX5_promise_66 fl_X5_123 rfl rfl hk.1 ?_
        refine ev_iconst (v := 1) dX5_promise_69 rfl ?_
        exact ev_ireturn (ty := .int) dX5_promise_70 rfl rfl (Or.inr (Or.inr (Or.inl ⟨h22, h33, h44, rfl, rfl, rfl, rfl⟩)))
      · refine ev_bipush (v := (-3)) dX5_promise_47 rfl ?_
        exact ev_ireturn (ty := .int) dX5_promise_49 rfl rfl (Or.inr (Or.inr (Or.inr ⟨h22, h33, h44, rfl, rfl, rfl, rfl⟩)))
