/-- a call on both sides: the class answers, then the model the same -/
def OPi (f5 f6 : MD) (av : List PV) (i : Nat) (sh : SH) (mi : MI) (mr : MR) : Prop := EV none 20 6 150 f5 0 (en_l f5 (pv_r 0 :: av)) [] sh mi mr (fun v sh2 mi2 mr2 => ∃ r, v = some (pv_i r) ∧ ba_c sh2 mr2 ∧ EV none 20 0 0 f6 0 (en_l f6 (pv_r 29 :: av)) [] sh2 mi2 mr2 (fun v2 sh3 mi3 mr3 => v2 = some (pv_i r) ∧ Inv (i + 1) sh3 mi3 mr3))
theorem op_g {f5 f6 : MD} {av : List PV} {i d5 mc ms : Nat} {sh : SH} {mi : MI} {mr : MR} {P5 : PO} (h5 : EV none d5 mc ms f5 0 (en_l f5 (pv_r 0 :: av)) [] sh mi mr P5) (hd : d5 ≤ 20) (hmc : mc ≤ 6) (hms : ms ≤ 150) (k : ∀ v sh2 mi2 mr2, P5 v sh2 mi2 mr2 → ∃ r, v = some (pv_i r) ∧ ba_c sh2 mr2 ∧ EV none 20 0 0 f6 0 (en_l f6 (pv_r 29 :: av)) [] sh2 mi2 mr2 (fun v2 sh3 mi3 mr3 => v2 = some (pv_i r) ∧ Inv (i + 1) sh3 mi3 mr3)) : OPi f5 f6 av i sh mi mr := ev_mo (ev_post k h5) hd hmc hms
theorem m_g {f6 : MD} {av : List PV} {i d6 : Nat} {r : Int32} {sh : SH} {mi : MI} {mr : MR} {P6 : PO} (h6 : EV none d6 0 0 f6 0 (en_l f6 (pv_r 29 :: av)) [] sh mi mr P6) (hd : d6 ≤ 20) (k : ∀ v sh2 mi2 mr2, P6 v sh2 mi2 mr2 → v = some (pv_i r) ∧ Inv (i + 1) sh2 mi2 mr2) : EV none 20 0 0 f6 0 (en_l f6 (pv_r 29 :: av)) [] sh mi mr (fun v2 sh3 mi3 mr3 => v2 = some (pv_i r) ∧ Inv (i + 1) sh3 mi3 mr3) := ev_mo (ev_post k h6) hd (Nat.le_refl 0) (Nat.le_refl 0)
theorem op_l {f6 : MD} {av : List PV} {i : Nat} {r : Int32} {sh s2 : SH} {m' m2 : MI} {mr r2 : MR} {v : Option PV} (e : ok_r sh mr r m' v s2 m2 r2) (hB : ba_c sh mr) (k : EV none 20 0 0 f6 0 (en_l f6 (pv_r 29 :: av)) [] sh m' mr (fun v2 sh3 mi3 mr3 => v2 = some (pv_i r) ∧ Inv (i + 1) sh3 mi3 mr3)) : ∃ r, v = some (pv_i r) ∧ ba_c s2 r2 ∧ EV none 20 0 0 f6 0 (en_l f6 (pv_r 29 :: av)) [] s2 m2 r2 (fun v2 sh3 mi3 mr3 => v2 = some (pv_i r) ∧ Inv (i + 1) sh3 mi3 mr3) := by
  obtain ⟨e1, e2, e3, e4⟩ := e
  rw [e2, e3, e4]
  exact ⟨r, e1, hB, k⟩
theorem m_l {i : Nat} {r r' : Int32} {sh s2 : SH} {m' m2 : MI} {mr r2 : MR} {v : Option PV} (e : ok_r sh mr r' m' v s2 m2 r2) (hr : r' = r) (k : Inv (i + 1) sh m' mr) : v = some (pv_i r) ∧ Inv (i + 1) s2 m2 r2 := by
  obtain ⟨e1, e2, e3, e4⟩ := e
  rw [e2, e3, e4, e1, hr]
  exact ⟨rfl, k⟩
theorem op_q {f5 f6 : MD} {av : List PV} {i d5 d6 : Nat} {r : Int32} {sh : SH} {mi : MI} {mr : MR} (hI : Inv i sh mi mr) (hB : ba_c sh mr) (h5 : EV none d5 0 0 f5 0 (en_l f5 (pv_r 0 :: av)) [] sh mi mr (ok_r sh mr r mi)) (hd5 : d5 ≤ 20) (h6 : EV none d6 0 0 f6 0 (en_l f6 (pv_r 29 :: av)) [] sh mi mr (ok_r sh mr r mi)) (hd6 : d6 ≤ 20) : OPi f5 f6 av i sh mi mr :=
  op_g h5 hd5 (by decide) (by decide) (fun _ _ _ _ e => op_l e hB (m_g h6 hd6 (fun _ _ _ _ e => m_l e rfl (iv_S hI))))
theorem i_rg {x : Int32} {lo hi : Nat} (hl : lo < 2 ^ 31) (hh : hi < 2 ^ 31) (h : nI lo ≤ x ∧ x ≤ nI hi) : ∃ k, lo ≤ k ∧ k ≤ hi ∧ x = nI k := by
  have h0 : (0 : Int32) ≤ x := Int32.le_trans (nI_pos' hl) h.1
  obtain ⟨k, hk, e⟩ := (i_in (x := x) (nI hi) rfl hh).mp ⟨h0, h.2⟩
  subst e
  exact ⟨k, (nI_leI hl (by omega)).mp h.1, hk, rfl⟩
section OPS
variable {i : Nat} {sh : SH} {mi : MI} {mr : MR}
theorem op_days (hI : Inv i sh mi mr) (p1 : Int32) : OPi mX5_days mX6_days [pv_i p1] i sh mi mr := by
  have hI0 := hI
  obtain ⟨nb, kb, at_, ns, ks, Wd, Hd, hZ, hT, hA, hB, hC, hD, hE⟩ := hI
  obtain ⟨D, n, a1, a2, a3, a4, a5, a6, a7, a8, a9, a10⟩ := hA
  have e0 : mi 29 0 = mi 0 7 := a3.trans a2.symm
  refine op_g (t_X5_days hZ.1 p1) (by decide) (by decide) (by decide) (fun v s2 m2 r2 h => ?_)
  rcases h with ⟨c1, e⟩ | ⟨c1, c2, e⟩ | ⟨c1, c2, e⟩
  · refine op_l e hZ.1 (m_g (t_X6_days hZ.1 p1) (by decide) (fun v s3 m3 r3 h => ?_))
    rcases h with ⟨d1, e⟩ | ⟨d1, d2, e⟩ | ⟨d1, d2, e⟩
    all_goals first | contradiction | exact m_l e rfl (iv_S hI0)
  · refine op_l e hZ.1 (m_g (t_X6_days hZ.1 p1) (by decide) (fun v s3 m3 r3 h => ?_))
    have e1 : up_2 mi 0 7 (mi 0 7 + p1) 29 0 = mi 0 7 := (up_ne (Or.inl (by decide))).trans e0
    rw [e1] at h
    rcases h with ⟨d1, e⟩ | ⟨d1, d2, e⟩ | ⟨d1, d2, e⟩
    · contradiction
    · refine m_l e (by rw [up_at, up_at]) (iv_A hZ hT hB hC hD hE (fun a c h => ?_) ?_)
      · unfold wA at h
        simp only [up_2]
        rw [if_neg (by omega), if_neg (by omega)]
      · obtain ⟨k, k1, k2, rfl⟩ := i_rg (lo := 1) (hi := 100) (by decide) (by decide) c1
        rw [a2, nI_add] at c2
        have c3 := (nI_leI (a := D + k) (b := 1000) (by omega) (by decide)).mp c2
        refine ⟨D + k, n, c3, ?_, ?_, a4, ?_, ?_, fun j hj => ?_, ?_, ?_, fun j hj => ?_⟩
        · simp [up_2, a2, nI_add]
        · simp [up_2, a2, nI_add]
        · simpa [up_2] using a5
        · simpa [up_2] using a6
        · simpa [up_2] using a7 j hj
        · simpa [up_2] using a8
        · simpa [up_2] using a9
        · simpa [up_2] using a10 j hj
    · contradiction
  · refine op_l e hZ.1 (m_g (t_X6_days hZ.1 p1) (by decide) (fun v s3 m3 r3 h => ?_))
    rw [e0] at h
    rcases h with ⟨d1, e⟩ | ⟨d1, d2, e⟩ | ⟨d1, d2, e⟩
    all_goals first | contradiction | exact m_l e rfl (iv_S hI0)
theorem op_rate (hI : Inv i sh mi mr) (p1 p2 p3 : Int32) : OPi mX5_rate mX6_rate [pv_i p1, pv_i p2, pv_i p3] i sh mi mr := by
  have hI0 := hI
  obtain ⟨nb, kb, at_, ns, ks, Wd, Hd, hZ, hT, hA, hB, hC, hD, hE⟩ := hI
  obtain ⟨D, n, a1, a2, a3, a4, a5, a6, a7, a8, a9, a10⟩ := hA
  refine op_g (t_X5_rate hZ.1 p1 p2 p3 n a5 a4) (by decide) (by decide) (by decide) (fun v s2 m2 r2 h => ?_)
  have hlt : (mi 22 0 < 30) ↔ n < 30 := nl_lt a5 (show (30 : Int32) = nI 30 from rfl) (by omega) (by decide)
  have heq : (mi 29 42 = 30) ↔ n = 30 := nl_eq a6 (show (30 : Int32) = nI 30 from rfl) (by omega) (by decide)
  rcases h with ⟨c1, c2, e⟩ | ⟨c1, c2, c3, c4, e⟩ | ⟨c1, c2, c3, c4, e⟩ | ⟨c1, c2, c3, e⟩ | ⟨c1, e⟩
  · refine op_l e hZ.1 (m_g (t_X6_rate hZ.1 p1 p2 p3 n a6 a4) (by decide) (fun v s3 m3 r3 h => ?_))
    rcases h with ⟨d1, d2, e⟩ | ⟨d1, d2, d3, d4, e⟩ | ⟨d1, d2, d3, d4, e⟩ | ⟨d1, d2, d3, e⟩ | ⟨d1, e⟩
    all_goals first | contradiction | exact m_l e rfl (iv_S hI0)
  · have hn := hlt.mp c4
    refine op_l e hZ.1 (m_g (t_X6_rate hZ.1 p1 p2 p3 n (by simpa [up_2] using a6) a4) (by decide) (fun v s3 m3 r3 h => ?_))
    rcases h with ⟨d1, d2, e⟩ | ⟨d1, d2, d3, d4, e⟩ | ⟨d1, d2, d3, d4, e⟩ | ⟨d1, d2, d3, e⟩ | ⟨d1, e⟩
    · contradiction
    · refine m_l e (by simp [up_2, a5, a6]) (iv_A hZ hT hB hC hD hE (fun a c h => ?_) ?_)
      · unfold wA at h
        simp only [up_2]
        repeat rw [if_neg (by omega)]
      · refine ⟨D, n + 1, a1, ?_, ?_, by omega, ?_, ?_, fun j hj => ?_, ?_, ?_, fun j hj => ?_⟩
        · simpa [up_2] using a2
        · simpa [up_2] using a3
        · simp [up_2, a5, nI_1]
        · simp [up_2, a6, nI_1]
        · by_cases ej : j = n
          · subst ej
            have c5 : -1 ≤ p2 := Int32.le_trans (by decide) c2.1
            simp [up_2, a2, a3, c5]
          · have := a7 j (by omega)
            simpa [up_2, ej] using this
        · simpa [up_2] using a8
        · simpa [up_2] using a9
        · simpa [up_2] using a10 j hj
    · exfalso
      have : n = 30 := heq.mp (by simpa [up_2] using d4)
      omega
    · contradiction
    · contradiction
  · have hn : ¬ n < 30 := fun q => c4 (hlt.mpr q)
    refine op_l e hZ.1 (m_g (t_X6_rate hZ.1 p1 p2 p3 n a6 a4) (by decide) (fun v s3 m3 r3 h => ?_))
    rcases h with ⟨d1, d2, e⟩ | ⟨d1, d2, d3, d4, e⟩ | ⟨d1, d2, d3, d4, e⟩ | ⟨d1, d2, d3, e⟩ | ⟨d1, e⟩
    · contradiction
    · exact absurd (heq.mpr (by omega)) d4
    all_goals first | contradiction | exact m_l e rfl (iv_S hI0)
  · refine op_l e hZ.1 (m_g (t_X6_rate hZ.1 p1 p2 p3 n a6 a4) (by decide) (fun v s3 m3 r3 h => ?_))
    rcases h with ⟨d1, d2, e⟩ | ⟨d1, d2, d3, d4, e⟩ | ⟨d1, d2, d3, d4, e⟩ | ⟨d1, d2, d3, e⟩ | ⟨d1, e⟩
    all_goals first | contradiction | exact m_l e rfl (iv_S hI0)
  · refine op_l e hZ.1 (m_g (t_X6_rate hZ.1 p1 p2 p3 n a6 a4) (by decide) (fun v s3 m3 r3 h => ?_))
    rcases h with ⟨d1, d2, e⟩ | ⟨d1, d2, d3, d4, e⟩ | ⟨d1, d2, d3, d4, e⟩ | ⟨d1, d2, d3, e⟩ | ⟨d1, e⟩
    all_goals first | contradiction | exact m_l e rfl (iv_S hI0)
theorem op_rateAt (hI : Inv i sh mi mr) (p1 p2 p3 : Int32) : OPi mX5_rateAt mX6_rateAt [pv_i p1, pv_i p2, pv_i p3] i sh mi mr := by
  have hI0 := hI
  obtain ⟨nb, kb, at_, ns, ks, Wd, Hd, hZ, hT, hA, hB, hC, hD, hE⟩ := hI
  obtain ⟨D, n, a1, a2, a3, a4, a5, a6, a7, a8, a9, a10⟩ := hA
  have e1 : ro (mi 63) (mi 64) (mi 66) p1 p2 p3 n = ro (mi 23) (mi 24) (mi 26) p1 p2 p3 n := ro_congr n (fun j hj => ⟨(a7 j hj).1, (a7 j hj).2.1, (a7 j hj).2.2.2.1⟩)
  have e2 : ro_p (mi 65) (ro (mi 63) (mi 64) (mi 66) p1 p2 p3 n) = ro_p (mi 25) (ro (mi 23) (mi 24) (mi 26) p1 p2 p3 n) := by
    rw [e1]
    cases h : ro (mi 23) (mi 24) (mi 26) p1 p2 p3 n with
    | none => rfl
    | some k => exact (a7 k (ro_lt h)).2.2.1
  refine op_g (t_X5_rateAt hZ.1 p1 p2 p3 n a5 a4 (fun j hj => (a7 j hj).2.2.2.2)) (by decide) (by decide) (by decide) (fun v s2 m2 r2 h => ?_)
  have h6 := t_X6_rateAt hZ.1 p1 p2 p3 n a6 a4 (fun j hj => by rw [(a7 j hj).2.1]; exact (a7 j hj).2.2.2.2)
  rw [e2] at h6
  rcases h with ⟨c1, c2, e⟩ | ⟨c1, c2, c3, e⟩ | ⟨c1, c2, c3, e⟩ | ⟨c1, e⟩
  all_goals
    refine op_l e hZ.1 (m_g h6 (by decide) (fun v s3 m3 r3 h => ?_))
    rcases h with ⟨d1, d2, e⟩ | ⟨d1, d2, d3, e⟩ | ⟨d1, d2, d3, e⟩ | ⟨d1, e⟩
    all_goals first | contradiction | exact m_l e rfl (iv_S hI0)
theorem op_wages (hI : Inv i sh mi mr) (p1 p2 p3 : Int32) : OPi mX5_wages mX6_wages [pv_i p1, pv_i p2, pv_i p3] i sh mi mr := by
  have hI0 := hI
  obtain ⟨nb, kb, at_, ns, ks, Wd, Hd, hZ, hT, hA, hB, hC, hD, hE⟩ := hI
  obtain ⟨D, n, a1, a2, a3, a4, a5, a6, a7, a8, a9, a10⟩ := hA
  have hm : sN at_ nb ≤ 50 := by
    have h1 : ∀ k, k ≤ nb → sN at_ k ≤ 5 * k := by
      intro k
      induction k with
      | zero => exact fun _ => Nat.le_refl _
      | succ k ih =>
        intro hk
        have := ih (by omega)
        have := (hB.2.2.1 k (by omega)).1
        show sN at_ k + at_ k ≤ _
        omega
    have := h1 nb (Nat.le_refl nb)
    have := hZ.2.2.1
    omega
  have e2 : wg (mi 41) (mi 42) (mi 63) (mi 64) (mi 66) (mi 65) n p1 p2 p3 (sN at_ nb) = wg (mi 27) (mi 28) (mi 23) (mi 24) (mi 26) (mi 25) n p1 p2 p3 (sN at_ nb) := wg_congr (fun j hj => ⟨(a7 j hj).1, (a7 j hj).2.1, (a7 j hj).2.2.2.1, (a7 j hj).2.2.1⟩) _ a10
  refine op_g (t_X5_wages hZ.1 p1 p2 p3 n a5 a4 (fun j hj => (a7 j hj).2.2.2.2) _ a8 hm) (by decide) (by decide) (by decide) (fun v s2 m2 r2 h => ?_)
  have h6 := t_X6_wages hZ.1 p1 p2 p3 n a6 a4 (fun j hj => by rw [(a7 j hj).2.1]; exact (a7 j hj).2.2.2.2) _ a9 hm
  rw [e2] at h6
  rcases h with ⟨c1, e⟩ | ⟨c1, c2, e⟩ | ⟨c1, c2, c3, e⟩ | ⟨c1, c2, c3, e⟩
  all_goals
    refine op_l e hZ.1 (m_g h6 (by decide) (fun v s3 m3 r3 h => ?_))
    rcases h with ⟨d1, e⟩ | ⟨d1, d2, e⟩ | ⟨d1, d2, d3, e⟩ | ⟨d1, d2, d3, e⟩
    all_goals first | contradiction | exact m_l e rfl (iv_S hI0)
end OPS
