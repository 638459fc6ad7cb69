set_option maxRecDepth 100000 in
set_option maxHeartbeats 4000000 in
theorem t_X5_pass_e {sh : SH} {mi : MI} {mr : MR} (hB : ba_c sh mr) (nb : Nat) (hnb : mi 0 5 = nI nb) (hnb10 : nb ≤ 10) (b : Nat) (hb : b < nb) {q : Nat} (hq : mr 1 b = some q) (hk : bk_c sh mr q) (h5 : mi q 6 = 5) : EV none 2 0 0 mX5_pass 0 (en_l mX5_pass [pv_r 0, pv_i (nI b)]) [] sh mi mr (ok_r sh mr (-4) mi) := by
  show EV none 2 0 0 mX5_pass 0 [some (pv_r 0), some (pv_i (nI b)), none] [] sh mi mr _
  refine ev_aload_n dX5_pass_0 rfl ?_
  refine ev_iload_n dX5_pass_1 rfl ?_
  refine ev_v1q dX5_pass_2 cv_X5_53 (hB.1 0 _ rfl) (Nat.le_of_ble_eq_true rfl) (by decide) (t_X5_bookAt_k hB nb hnb hnb10 b hb hq hk) ?_
  refine ev_astore_n dX5_pass_5 (by decide) ?_
  refine ev_aload_n dX5_pass_6 rfl ?_
  refine ev_ifnonnull_s (tgt := 13) dX5_pass_7 rfl ?_
  refine ev_aload_n dX5_pass_13 rfl ?_
  refine ev_v0i dX5_pass_14 cv_X5_80 hk.1 (Nat.le_of_ble_eq_true rfl) (by decide) (t_X0_mayMoveOn hk) ?_
  refine ev_if_ne_f (tgt := 23) dX5_pass_17 rfl (bi_f (fun e => e.1 h5)) ?_
  refine ev_bipush (v := (-4)) dX5_pass_20 rfl ?_
  exact ev_ireturn (ty := .int) dX5_pass_22 rfl rfl ⟨rfl, rfl, rfl, rfl⟩
set_option maxRecDepth 100000 in
set_option maxHeartbeats 4000000 in
theorem lp_X6_pass_e {sh : SH} {mi : MI} {mr : MR} (hB : ba_c sh mr) (nb : Nat) (hnb : mi 29 1 = nI nb) (hnb10 : nb ≤ 10) (b : Nat) (hb : b < nb) (g : Nat) (hg : mi 31 b = nI g) (hg6 : g ≤ 6) : ∀ i, i ≤ g → EV none 2 0 0 mX6_pass 38 [some (pv_r 29), some (pv_i (nI b)), some (pv_i 0), some (pv_i (nI i))] [] sh mi mr (ok_r sh mr (-4) mi) := by
  refine lp_i g (fun i hi ih => ?_)
  refine ev_iload_n dX6_pass_38 rfl ?_
  refine ev_aload_n dX6_pass_39 rfl ?_
  refine ev_getq dX6_pass_40 fl_X6_13 rfl (hB.1 29 _ rfl) (hB.2 29 3 _ rfl) ?_
  refine ev_iload_n dX6_pass_43 rfl ?_
  refine ev_iald dX6_pass_44 (hB.1 31 _ rfl) (j := b) rfl (by omega) (by decide) ?_
  refine ev_icmp_ge (tgt := 78) dX6_pass_45 rfl (fun h45 => ?_) (fun h45 => ?_)
  · have hin : i = g := by have := (nl_le hg rfl (by omega) (by omega)).mp h45; omega
    subst hin
    refine ev_iload_n dX6_pass_78 rfl ?_
    refine ev_if_ne_f (tgt := 85) dX6_pass_79 rfl (by decide) ?_
    refine ev_bipush (v := (-4)) dX6_pass_82 rfl ?_
    exact ev_ireturn (ty := .int) dX6_pass_84 rfl rfl ⟨rfl, rfl, rfl, rfl⟩
  · have hlt : i < g := by have := (not_congr (nl_le hg rfl (by omega) (by omega))).mp h45; omega
    refine ev_iload_n dX6_pass_48 rfl ?_
    refine ev_if_eq_t (tgt := 70) dX6_pass_49 rfl (by decide) ?_
    refine ev_iconst (v := 0) dX6_pass_70 rfl ?_
    refine ev_istore_n dX6_pass_71 (by decide) ?_
    refine ev_iincN dX6_pass_72 rfl (by decide) ?_
    refine ev_goto (tgt := 38) dX6_pass_75 rfl ?_
    exact ih hlt
set_option maxRecDepth 100000 in
set_option maxHeartbeats 4000000 in
theorem t_X6_pass_e {sh : SH} {mi : MI} {mr : MR} (hB : ba_c sh mr) (nb : Nat) (hnb : mi 29 1 = nI nb) (hnb10 : nb ≤ 10) (b : Nat) (hb : b < nb) (g : Nat) (hg : mi 31 b = nI g) (hg6 : g ≤ 6) (h5 : 5 ≤ mi 30 b) : EV none 2 0 0 mX6_pass 0 (en_l mX6_pass [pv_r 29, pv_i (nI b)]) [] sh mi mr (ok_r sh mr (-4) mi) := by
  show EV none 2 0 0 mX6_pass 0 [some (pv_r 29), some (pv_i (nI b)), none, none] [] sh mi mr _
  refine ev_aload_n dX6_pass_0 rfl ?_
  refine ev_iload_n dX6_pass_1 rfl ?_
  refine ev_v1i dX6_pass_2 cv_X6_133 (hB.1 29 _ rfl) (Nat.le_of_ble_eq_true rfl) (by decide) (t_X6_isBook hB _) ?_
  refine ev_if_ne_t (tgt := 11) dX6_pass_5 rfl (by rw [bi_1 (by rw [hnb]; exact (i_cases (by omega)).mpr ⟨b, hb, rfl⟩)]; decide) ?_
  refine ev_aload_n dX6_pass_11 rfl ?_
  refine ev_getq dX6_pass_12 fl_X6_7 rfl (hB.1 29 _ rfl) (hB.2 29 2 _ rfl) ?_
  refine ev_iload_n dX6_pass_15 rfl ?_
  refine ev_iald dX6_pass_16 (hB.1 30 _ rfl) (j := b) rfl (by omega) (by decide) ?_
  refine ev_iconst (v := 5) dX6_pass_17 rfl ?_
  refine ev_icmp_ge_t (tgt := 34) dX6_pass_18 rfl h5 ?_
  refine ev_iconst (v := 0) dX6_pass_34 rfl ?_
  refine ev_istore_n dX6_pass_35 (by decide) ?_
  refine ev_iconst (v := 0) dX6_pass_36 rfl ?_
  refine ev_istore_n dX6_pass_37 (by decide) ?_
  exact lp_X6_pass_e hB nb hnb hnb10 b hb g hg hg6 0 (Nat.zero_le g)
theorem an_m {x m : Int32} : x &&& (m ^^^ (-1)) = 0 ↔ x &&& m = x := by
  constructor
  · intro h
    apply Int32.toBitVec_inj.mp
    ext k hk
    have := congrArg (fun z : Int32 => z.toBitVec.getLsbD k) h
    simp at this ⊢
    intro q
    have q2 : x.toBitVec.getLsbD k = true := by simpa [BitVec.getLsbD_eq_getElem hk] using q
    have := this q2 hk
    simpa [BitVec.getLsbD_eq_getElem hk] using this
  · intro h
    rw [← h]
    apply Int32.toBitVec_inj.mp
    ext k hk
    simp
theorem al_n : ∀ lv, lv ≤ 16 → ((1 : Int32) <<< (nI lv &&& 31)) - 1 = nI (2 ^ lv - 1) ∧ (nI (2 ^ lv - 1)).toBitVec.toNat = 2 ^ lv - 1 ∧ 2 ^ lv - 1 < 65536 := by decide +kernel
theorem lk_5 {x : Int32} {lv : Nat} (h : lv ≤ 16) : x &&& ((((1 : Int32) <<< (nI lv &&& 31)) - 1) ^^^ (-1)) = 0 ↔ ∃ u, u < 2 ^ lv ∧ x = nI u := by
  obtain ⟨h1, h2, h3⟩ := al_n lv h
  have hp := Nat.two_pow_pos lv
  rw [h1, an_m, pk_and x lv h2]
  constructor
  · intro e
    exact ⟨_, Nat.mod_lt _ hp, e.symm⟩
  · rintro ⟨u, hu, rfl⟩
    rw [pk_tn (by omega), Nat.mod_eq_of_lt hu]
theorem lk_6 {x : Int32} {lv : Nat} (h : lv ≤ 16) : (0 ≤ x ∧ x ≤ ((1 : Int32) <<< (nI lv &&& 31)) - 1) ↔ ∃ u, u < 2 ^ lv ∧ x = nI u := by
  obtain ⟨h1, h2, h3⟩ := al_n lv h
  have hp := Nat.two_pow_pos lv
  rw [h1]
  constructor
  · intro e
    obtain ⟨u, hu, e2⟩ := (i_in (x := x) _ rfl (by omega)).mp e
    exact ⟨u, by omega, e2⟩
  · rintro ⟨u, hu, rfl⟩
    exact ⟨nI_pos' (by omega), nI_le (by omega) (by omega)⟩
theorem an_lt {a : Nat} (h : a < 65536) (y : Int32) : ∃ u, u < 65536 ∧ nI a &&& y = nI u := by
  refine ⟨a &&& y.toBitVec.toNat, Nat.lt_of_le_of_lt Nat.and_le_left h, ?_⟩
  apply Int32.toBitVec_inj.mp
  apply BitVec.eq_of_toNat_eq
  have h1 : a &&& y.toBitVec.toNat ≤ a := Nat.and_le_left
  rw [pk_tn (by omega)]
  show ((nI a).toBitVec &&& y.toBitVec).toNat = _
  rw [BitVec.toNat_and, pk_tn (by omega)]
theorem bc_an {a : Nat} (h : a < 65536) (y : Int32) : bc (nI a &&& y) = mn (nI a &&& y) 16 := by
  obtain ⟨u, hu, e⟩ := an_lt h y
  rw [e]
  exact bc_mn hu
set_option maxRecDepth 100000 in
theorem lm_6 : ∀ g, g ≤ 6 → ∀ lm, lm < 2 ^ g → (lm = 2 ^ g - 1 ↔ ∀ k, k < g → lm.testBit k = true) := by decide +kernel
theorem p2_16 : ∀ lv, lv ≤ 16 → 2 ^ lv ≤ 65536 := by decide
section OPB
variable {i : Nat} {sh : SH} {mi m : MI} {mr : MR} {nb : Nat} {kb at_ : Nat → Nat} {ns : Nat} {ks Wd Hd : Nat → Nat}
theorem iv_R2 {b : Nat} (hZ : iZ sh mr nb kb ns ks Wd Hd) (hB : iB nb kb at_ mi) (hb : b < nb) {at2 : Nat → Nat} (hat : ∀ x, x ≠ b → at2 x = at_ x) (hf : ∀ a c, ¬ wA a c → ¬ wR (kb b) b a c → m a c = mi a c) (hR : BR m (kb b) b (at2 b)) : iB nb kb at2 m := by
  have hkb := hZ.2.2.2.2.1 b hb
  have g : ∀ a c, ¬ wR (kb b) b a c → a < 63 → (a < 22 ∨ 28 < a) → a ≠ 41 → a ≠ 42 → ¬ (a = 0 ∧ c = 7) → ¬ (a = 29 ∧ (c = 0 ∨ c = 13 ∨ c = 42)) → m a c = mi a c := fun a c q q1 q2 q3 q4 q5 q6 => hf a c (by unfold wA; omega) q
  refine ⟨(g _ _ (by unfold wR; omega) (by omega) (by omega) (by omega) (by omega) (by omega) (by omega)).trans hB.1, (g _ _ (by unfold wR; omega) (by omega) (by omega) (by omega) (by omega) (by omega) (by omega)).trans hB.2.1, fun b2 hb2 => ?_, fun b2 h1 h2 => BZ_cg (fun a c q => g a c (by unfold wR; omega) (by omega) (by omega) (by omega) (by omega) (by omega) (by omega)) (hB.2.2.2 b2 h1 h2)⟩
  by_cases e : b2 = b
  · subst e
    exact hR
  · have hkb2 := hZ.2.2.2.2.1 b2 hb2
    rw [hat b2 e]
    refine BR_cg (fun a c q => hf a c ?_ ?_) (hB.2.2.1 b2 hb2)
    · unfold wR at q
      unfold wA
      omega
    · have hdis : kb b2 + 6 ≤ kb b ∨ kb b + 6 ≤ kb b2 := by
        rcases Nat.lt_or_gt_of_ne e with q | q
        · exact Or.inl (hZ.2.2.2.2.2.1 b2 b q hb)
        · exact Or.inr (hZ.2.2.2.2.2.1 b b2 q hb2)
      unfold wR at q ⊢
      omega
theorem wR_B {b a c : Nat} (hb : b < nb) (h : wR (kb b) b a c) : wB nb kb a c := by
  by_cases e : kb b ≤ a ∧ a ≤ kb b + 5
  · exact Or.inr (Or.inr (Or.inr ⟨b, hb, e⟩))
  · unfold wR at h
    exact Or.inr (Or.inr (Or.inl (by omega)))
theorem iv_R {b : Nat} (hZ : iZ sh mr nb kb ns ks Wd Hd) (hT : st_c sh mi mr sh.length) (hA : iA (sN at_ nb) mi) (hB : iB nb kb at_ mi) (hC : iC mi) (hD : iD i ns ks Wd Hd mi) (hE : iE mi) (hb : b < nb) (hf : ∀ a c, ¬ wR (kb b) b a c → m a c = mi a c) (hR : BR m (kb b) b (at_ b)) : Inv (i + 1) sh m mr := by
  have hkb := hZ.2.2.2.2.1 b hb
  exact iv_B hZ hT (A_cg (fun a c h => hf a c (by unfold wA at h; unfold wR; omega)) hA) hC hD hE (fun a c _ h => hf a c (fun w => h (wR_B hb w))) (iv_R2 hZ hB hb (fun _ _ => rfl) (fun a c _ h => hf a c h) hR)
theorem op_hours (hI : Inv i sh mi mr) (p1 p2 p3 : Int32) : OPi mX5_hours mX6_hours [pv_i p1, pv_i p2, pv_i p3] i sh mi mr := by
  have hI0 := hI
  obtain ⟨nb, kb, at_, ns, ks, Wd, Hd, hZ, hT, hA, hB, hC, hD, hE⟩ := hI
  have hnb := hZ.2.2.1
  by_cases hu : 0 ≤ p1 ∧ p1 ≤ (mi 0 5) - 1
  · rw [hB.1] at hu
    obtain ⟨b, hb, rfl⟩ := (i_cases (by omega)).mp hu
    have hkb := hZ.2.2.2.2.1 b hb
    by_cases hv : 0 ≤ p2 ∧ p2 ≤ 4
    · obtain ⟨k, -, hk, rfl⟩ := i_rg (lo := 0) (hi := 4) (by decide) (by decide) hv
      refine op_g (t_X5_hours_k hZ.1 nb hB.1 hnb b hb hkb.1 hkb.2.1 k (by omega) p3) (by decide) (by decide) (by decide) (fun v s2 m2 r2 h => ?_)
      rcases h with ⟨c1, e⟩ | ⟨c1, e⟩
      · refine op_l e hZ.1 (m_g (t_X6_hours_k hZ.1 nb ((up_ne (Or.inl (by omega))).trans hB.2.1) hnb b hb k (by omega) p3) (by decide) (fun v s3 m3 r3 h => ?_))
        rcases h with ⟨d1, e⟩ | ⟨d1, e⟩
        · obtain ⟨x, -, x2, rfl⟩ := i_rg (lo := 0) (hi := 50) (by decide) (by decide) c1
          have hne : ∀ a c, ¬ (a = kb b + 5 ∧ c = k) → ¬ (a = 37 ∧ c = 5 * b + k) → up_2 (up_2 mi (kb b + 5) k (nI x)) 37 (5 * b + k) (nI x) a c = mi a c := fun a c h1 h2 => by
            simp only [up_2]
            rw [if_neg h2, if_neg h1]
          obtain ⟨q1, q2, q3, ⟨g, q4, q5, q6, q7, q8⟩, q9, q10, q11⟩ := hB.2.2.1 b hb
          refine m_l e rfl (iv_R hZ hT hA hB hC hD hE hb (fun a c h => hne a c (by unfold wR at h; omega) (by unfold wR at h; omega)) ⟨q1, (hne _ _ (by omega) (by omega)).trans q2, (hne _ _ (by omega) (by omega)).trans q3, ⟨g, q4, (hne _ _ (by omega) (by omega)).trans q5, (hne _ _ (by omega) (by omega)).trans q6, BL_cg (fun j hj => ⟨hne _ _ (by omega) (by omega), hne _ _ (by omega) (by omega), hne _ _ (by omega) (by omega), hne _ _ (by omega) (by omega)⟩) q7, BM_cg (hne _ _ (by omega) (by omega)) (fun j hj => hne _ _ (by omega) (by omega)) q4 q8⟩, BG_cg (fun j hj => ⟨hne _ _ (by omega) (by omega), hne _ _ (by omega) (by omega), hne _ _ (by omega) (by omega), hne _ _ (by omega) (by omega)⟩) q9, fun j hj => ?_, BP_cg ⟨hne _ _ (by omega) (by omega), hne _ _ (by omega) (by omega), hne _ _ (by omega) (by omega), hne _ _ (by omega) (by omega), hne _ _ (by omega) (by omega), hne _ _ (by omega) (by omega)⟩ q11⟩)
          by_cases ej : j = k
          · subst ej
            exact ⟨x, x2, (up_ne (Or.inl (by omega))).trans up_at, up_at⟩
          · obtain ⟨h, h1, h2, h3⟩ := q10 j hj
            exact ⟨h, h1, (hne _ _ (by omega) (by omega)).trans h2, (hne _ _ (by omega) (by omega)).trans h3⟩
        · contradiction
      · refine op_l e hZ.1 (m_g (t_X6_hours_k hZ.1 nb hB.2.1 hnb b hb k (by omega) p3) (by decide) (fun v s3 m3 r3 h => ?_))
        rcases h with ⟨d1, e⟩ | ⟨d1, e⟩
        all_goals first | contradiction | exact m_l e rfl (iv_S hI0)
    · exact op_q hI0 hZ.1 (t_X5_hours_b hZ.1 nb hB.1 hnb b hb hkb.1 hkb.2.1 p2 p3 hv) (by decide) (t_X6_hours_b hZ.1 nb hB.2.1 hnb b hb p2 p3 hv) (by decide)
  · exact op_q hI0 hZ.1 (t_X5_hours_u hZ.1 p1 hu p2 p3) (by decide) (t_X6_hours_u hZ.1 p1 p2 p3 (by rw [hB.2.1, ← hB.1]; exact hu)) (by decide)
theorem op_promise (hI : Inv i sh mi mr) (p1 p2 p3 p4 : Int32) : OPi mX5_promise mX6_promise [pv_i p1, pv_i p2, pv_i p3, pv_i p4] i sh mi mr := by
  have hI0 := hI
  obtain ⟨nb, kb, at_, ns, ks, Wd, Hd, hZ, hT, hA, hB, hC, hD, hE⟩ := hI
  have hnb := hZ.2.2.1
  by_cases hu : 0 ≤ p1 ∧ p1 ≤ (mi 0 5) - 1
  · rw [hB.1] at hu
    obtain ⟨b, hb, rfl⟩ := (i_cases (by omega)).mp hu
    have hkb := hZ.2.2.2.2.1 b hb
    refine op_g (t_X5_promise_k hZ.1 nb hB.1 hnb b hb hkb.1 hkb.2.1 p2 p3 p4) (by decide) (by decide) (by decide) (fun v s2 m2 r2 h => ?_)
    rcases h with ⟨c1, e⟩ | ⟨c1, c2, e⟩ | ⟨c1, c2, c3, e⟩ | ⟨c1, c2, c3, e⟩
    · refine op_l e hZ.1 (m_g (t_X6_promise_k hZ.1 nb hB.2.1 hnb b hb p2 p3 p4) (by decide) (fun v s3 m3 r3 h => ?_))
      rcases h with ⟨d1, e⟩ | ⟨d1, d2, e⟩ | ⟨d1, d2, d3, e⟩ | ⟨d1, d2, d3, e⟩
      all_goals first | contradiction | exact m_l e rfl (iv_S hI0)
    · refine op_l e hZ.1 (m_g (t_X6_promise_k hZ.1 nb hB.2.1 hnb b hb p2 p3 p4) (by decide) (fun v s3 m3 r3 h => ?_))
      rcases h with ⟨d1, e⟩ | ⟨d1, d2, e⟩ | ⟨d1, d2, d3, e⟩ | ⟨d1, d2, d3, e⟩
      all_goals first | contradiction | exact m_l e rfl (iv_S hI0)
    · refine op_l e hZ.1 (m_g (t_X6_promise_k hZ.1 nb ((up_ne (Or.inl (by omega))).trans ((up_ne (Or.inl (by omega))).trans ((up_ne (Or.inl (by omega))).trans hB.2.1))) hnb b hb p2 p3 p4) (by decide) (fun v s3 m3 r3 h => ?_))
      rcases h with ⟨d1, e⟩ | ⟨d1, d2, e⟩ | ⟨d1, d2, d3, e⟩ | ⟨d1, d2, d3, e⟩
      · contradiction
      · contradiction
      · obtain ⟨x, -, x2, rfl⟩ := i_rg (lo := 0) (hi := 30) (by decide) (by decide) c1
        obtain ⟨y, -, y2, rfl⟩ := i_rg (lo := 0) (hi := 2000) (by decide) (by decide) c2
        obtain ⟨z, -, z2, rfl⟩ := i_rg (lo := 0) (hi := 100) (by decide) (by decide) c3
        have hne : ∀ a c, ¬ (a = kb b ∧ (c = 8 ∨ c = 9 ∨ c = 10)) → ¬ (38 ≤ a ∧ a ≤ 40 ∧ c = b) → up_2 (up_2 (up_2 (up_2 (up_2 (up_2 mi (kb b) 8 (nI x)) (kb b) 9 (nI y)) (kb b) 10 (nI z)) 38 b (nI x)) 39 b (nI y)) 40 b (nI z) a c = mi a c := fun a c h1 h2 => by
          simp only [up_2]
          repeat rw [if_neg (by omega)]
        obtain ⟨q1, q2, q3, ⟨g, q4, q5, q6, q7, q8⟩, q9, q10, q11⟩ := hB.2.2.1 b hb
        refine m_l e rfl (iv_R hZ hT hA hB hC hD hE hb (fun a c h => hne a c (by unfold wR at h; omega) (by unfold wR at h; omega)) ⟨q1, (hne _ _ (by omega) (by omega)).trans q2, (hne _ _ (by omega) (by omega)).trans q3, ⟨g, q4, (hne _ _ (by omega) (by omega)).trans q5, (hne _ _ (by omega) (by omega)).trans q6, BL_cg (fun j hj => ⟨hne _ _ (by omega) (by omega), hne _ _ (by omega) (by omega), hne _ _ (by omega) (by omega), hne _ _ (by omega) (by omega)⟩) q7, BM_cg (hne _ _ (by omega) (by omega)) (fun j hj => hne _ _ (by omega) (by omega)) q4 q8⟩, BG_cg (fun j hj => ⟨hne _ _ (by omega) (by omega), hne _ _ (by omega) (by omega), hne _ _ (by omega) (by omega), hne _ _ (by omega) (by omega)⟩) q9, BH_cg (fun j hj => ⟨hne _ _ (by omega) (by omega), hne _ _ (by omega) (by omega)⟩) q10, x, y, z, x2, y2, z2, ?_⟩)
        have e38 : kb b ≠ 38 ∧ kb b ≠ 39 ∧ kb b ≠ 40 := by omega
        simp [up_2, e38.1, e38.2.1, e38.2.2]
      · contradiction
    · refine op_l e hZ.1 (m_g (t_X6_promise_k hZ.1 nb hB.2.1 hnb b hb p2 p3 p4) (by decide) (fun v s3 m3 r3 h => ?_))
      rcases h with ⟨d1, e⟩ | ⟨d1, d2, e⟩ | ⟨d1, d2, d3, e⟩ | ⟨d1, d2, d3, e⟩
      all_goals first | contradiction | exact m_l e rfl (iv_S hI0)
  · exact op_q hI0 hZ.1 (t_X5_promise_u hZ.1 p1 hu p2 p3 p4) (by decide) (t_X6_promise_u hZ.1 p1 p2 p3 p4 (by rw [hB.2.1, ← hB.1]; exact hu)) (by decide)
theorem op_gone (hI : Inv i sh mi mr) (p1 p2 p3 : Int32) : OPi mX5_gone mX6_gone [pv_i p1, pv_i p2, pv_i p3] i sh mi mr := by
  have hI0 := hI
  obtain ⟨nb, kb, at_, ns, ks, Wd, Hd, hZ, hT, hA, hB, hC, hD, hE⟩ := hI
  have hnb := hZ.2.2.1
  by_cases hu : 0 ≤ p1 ∧ p1 ≤ (mi 0 5) - 1
  · rw [hB.1] at hu
    obtain ⟨b, hb, rfl⟩ := (i_cases (by omega)).mp hu
    have hkb := hZ.2.2.2.2.1 b hb
    by_cases hv : 0 ≤ p2 ∧ p2 ≤ 4
    · obtain ⟨k, -, hk, rfl⟩ := i_rg (lo := 0) (hi := 4) (by decide) (by decide) hv
      obtain ⟨q1, q2, q3, ⟨g, q4, q5, q6, q7, q8⟩, q9, q10, q11⟩ := hB.2.2.1 b hb
      have hg := q9 k (by omega)
      refine op_g (t_X5_gone_k hZ.1 nb hB.1 hnb b hb hkb.1 hkb.2.1 k (by omega) p3) (by decide) (by decide) (by decide) (fun v s2 m2 r2 h => ?_)
      rcases h with ⟨c1, e⟩ | ⟨c1, c2, e⟩ | ⟨c1, c2, e⟩
      all_goals
        refine op_l e hZ.1 (m_g (t_X6_gone_k hZ.1 nb hB.2.1 hnb b hb k (by omega) p3) (by decide) (fun v s3 m3 r3 h => ?_))
        rcases h with ⟨d1, d2, e⟩ | ⟨d1, d2, e⟩ | ⟨d1, e⟩
        all_goals first | contradiction | exact m_l e hg.1 (iv_S hI0) | exact m_l e hg.2 (iv_S hI0) | exact m_l e rfl (iv_S hI0)
    · exact op_q hI0 hZ.1 (t_X5_gone_b hZ.1 nb hB.1 hnb b hb hkb.1 hkb.2.1 p2 p3 hv) (by decide) (t_X6_gone_b hZ.1 nb hB.2.1 hnb b hb p2 p3 hv) (by decide)
  · exact op_q hI0 hZ.1 (t_X5_gone_u hZ.1 p1 hu p2 p3) (by decide) (t_X6_gone_u hZ.1 p1 p2 p3 (by rw [hB.2.1, ← hB.1]; exact hu)) (by decide)
theorem op_there (hI : Inv i sh mi mr) (p1 p2 : Int32) : OPi mX5_there mX6_there [pv_i p1, pv_i p2] i sh mi mr := by
  have hI0 := hI
  obtain ⟨nb, kb, at_, ns, ks, Wd, Hd, hZ, hT, hA, hB, hC, hD, hE⟩ := hI
  have hnb := hZ.2.2.1
  by_cases hu : 0 ≤ p1 ∧ p1 ≤ (mi 0 5) - 1
  · rw [hB.1] at hu
    obtain ⟨b, hb, rfl⟩ := (i_cases (by omega)).mp hu
    have hkb := hZ.2.2.2.2.1 b hb
    obtain ⟨q1, q2, q3, ⟨g, q4, q5, q6, q7, q8⟩, q9, q10, q11⟩ := hB.2.2.1 b hb
    by_cases hv : 0 ≤ p2 ∧ p2 ≤ (mi (kb b) 5) - 1
    · rw [q5] at hv
      obtain ⟨j, hj, rfl⟩ := (i_cases (by omega)).mp hv
      obtain ⟨lv, bv, l1, l2, l3, l4, l5, l6, l7⟩ := q7 j hj
      have h6 := t_X6_there_k hZ.1 nb hB.2.1 hnb b hb g q6 q4 j hj
      rw [l7, ← l6] at h6
      exact op_q hI0 hZ.1 (t_X5_there_k hZ.1 nb hB.1 hnb b hb hkb.1 hkb.2.1 g q5 q4 j hj) (by decide) h6 (by decide)
    · exact op_q hI0 hZ.1 (t_X5_there_g hZ.1 nb hB.1 hnb b hb hkb.1 hkb.2.1 p2 hv) (by decide) (t_X6_there_g hZ.1 nb hB.2.1 hnb b hb p2 (by rw [q6, ← q5]; exact hv)) (by decide)
  · exact op_q hI0 hZ.1 (t_X5_there_u hZ.1 p1 hu p2) (by decide) (t_X6_there_u hZ.1 p1 p2 (by rw [hB.2.1, ← hB.1]; exact hu)) (by decide)
theorem op_told (hI : Inv i sh mi mr) (p1 p2 : Int32) : OPi mX5_told mX6_told [pv_i p1, pv_i p2] i sh mi mr := by
  have hI0 := hI
  obtain ⟨nb, kb, at_, ns, ks, Wd, Hd, hZ, hT, hA, hB, hC, hD, hE⟩ := hI
  have hnb := hZ.2.2.1
  by_cases hu : 0 ≤ p1 ∧ p1 ≤ (mi 0 5) - 1
  · rw [hB.1] at hu
    obtain ⟨b, hb, rfl⟩ := (i_cases (by omega)).mp hu
    have hkb := hZ.2.2.2.2.1 b hb
    obtain ⟨q1, q2, q3, ⟨g, q4, q5, q6, q7, q8⟩, q9, q10, q11⟩ := hB.2.2.1 b hb
    refine op_g (t_X5_told_k hZ.1 nb hB.1 hnb b hb hkb.1 hkb.2.1 g q5 q4 p2) (by decide) (by decide) (by decide) (fun v s2 m2 r2 h => ?_)
    rcases h with ⟨c0, e⟩ | ⟨c0, c1, e⟩ | ⟨c0, c1, c2, e⟩ | ⟨c0, c1, c2, c3, e⟩ | ⟨c0, c1, c2, c3, e⟩
    · subst c0
      exact op_l e hZ.1 (m_g (t_X6_told_0 hZ.1 nb hB.2.1 hnb b hb) (by decide) (fun v s3 m3 r3 e => m_l e (q3.trans q2.symm) (iv_S hI0)))
    · subst c1
      exact op_l e hZ.1 (m_g (t_X6_told_1 hZ.1 nb hB.2.1 hnb b hb) (by decide) (fun v s3 m3 r3 e => m_l e (q6.trans q5.symm) (iv_S hI0)))
    · subst c2
      refine op_l e hZ.1 (m_g (t_X6_told_2 hZ.1 nb hB.2.1 hnb b hb g q6 q4) (by decide) (fun v s3 m3 r3 e => m_l e (sm_congr g (fun j hj => ?_)) (iv_S hI0)))
      obtain ⟨lv, bv, l1, l2, l3, l4, l5, l6, l7⟩ := q7 j hj
      rw [l7, l6]
      exact (bc_mn (Nat.lt_of_lt_of_le l5 (p2_16 lv l2))).symm
    · subst c3
      refine op_l e hZ.1 (m_g (t_X6_told_3 hZ.1 nb hB.2.1 hnb b hb g q6 q4) (by decide) (fun v s3 m3 r3 e => m_l e (sm_congr g (fun j hj => ?_)) (iv_S hI0)))
      obtain ⟨lv, bv, l1, l2, l3, l4, l5, l6, l7⟩ := q7 j hj
      rw [l4, l3]
    · have hno : ¬ (0 ≤ p2 ∧ p2 ≤ 3) := fun q => by
        obtain ⟨x, x1, x2, rfl⟩ := i_rg (lo := 0) (hi := 3) (by decide) (by decide) q
        rcases (show x = 0 ∨ x = 1 ∨ x = 2 ∨ x = 3 by omega) with rfl | rfl | rfl | rfl
        · exact c0 rfl
        · exact c1 rfl
        · exact c2 rfl
        · exact c3 rfl
      exact op_l e hZ.1 (m_g (t_X6_told_o hZ.1 nb hB.2.1 hnb b hb p2 hno) (by decide) (fun v s3 m3 r3 e => m_l e rfl (iv_S hI0)))
  · exact op_q hI0 hZ.1 (t_X5_told_u hZ.1 p1 hu p2) (by decide) (t_X6_told_u hZ.1 p1 p2 (by rw [hB.2.1, ← hB.1]; exact hu)) (by decide)
end OPB
