section OPP
variable {i : Nat} {sh : SH} {mi : MI} {mr : MR}
theorem cl_z {x : Int32} (h : x = 0) : x = nI x.toNatClampNeg ∧ x.toNatClampNeg = 0 := by
  subst h
  decide
theorem cl_k {x : Int32} {k N : Nat} (h : x = nI k) (hk : k ≤ N) (hN : N < 2 ^ 31) : x = nI x.toNatClampNeg ∧ x.toNatClampNeg ≤ N := by
  have e : x.toNatClampNeg = k := by rw [h]; exact nI_clamp (by omega)
  rw [e]
  exact ⟨h, hk⟩
theorem op_plan (hI : Inv i sh mi mr) (p1 : Int32) : OPi mX5_plan mX6_plan [pv_i p1] i sh mi mr := by
  have hI0 := hI
  obtain ⟨nb, kb, at_, ns, ks, Wd, Hd, hZ, hT, hA, hB, hC, hD, hE⟩ := hI
  have hnb := hZ.2.2.1
  by_cases hu : ∃ u, u < 2 ^ nb ∧ p1 = nI u
  · obtain ⟨u, hu, rfl⟩ := hu
    by_cases hK : 1 ≤ (mb u nb).length ∧ (mb u nb).length ≤ 7
    · have hH : ∀ b, b < 10 → ((∀ k, k < 5 → mi 37 (5 * b + k) = nI (mi 37 (5 * b + k)).toNatClampNeg ∧ (mi 37 (5 * b + k)).toNatClampNeg ≤ 50) ∧ (mi 38 b = nI (mi 38 b).toNatClampNeg ∧ (mi 38 b).toNatClampNeg ≤ 30)) ∧ (mi 39 b = nI (mi 39 b).toNatClampNeg ∧ (mi 39 b).toNatClampNeg ≤ 2000) ∧ (mi 40 b = nI (mi 40 b).toNatClampNeg ∧ (mi 40 b).toNatClampNeg ≤ 100) := fun b hb => by
        by_cases e : b < nb
        · obtain ⟨-, -, -, -, -, h6, dr, pm, pc, d1, d2, d3, d4, d5, d6, d7, d8, d9⟩ := hB.2.2.1 b e
          exact ⟨⟨fun k hk => by obtain ⟨h, h1, h2, h3⟩ := h6 k hk; exact cl_k h3 h1 (by decide), cl_k d5 d1 (by decide)⟩, cl_k d7 d2 (by decide), cl_k d9 d3 (by decide)⟩
        · obtain ⟨-, -, d3, d4, d5, -, d7⟩ := hB.2.2.2 b (by omega) hb
          exact ⟨⟨fun k hk => by have := cl_z (d7 k hk).2.2; exact ⟨this.1, by omega⟩, by have := cl_z d3; exact ⟨this.1, by omega⟩⟩, by have := cl_z d4; exact ⟨this.1, by omega⟩, by have := cl_z d5; exact ⟨this.1, by omega⟩⟩
      have hbp : bp_c sh mi mr nb kb (fun b k => (mi 37 (5 * b + k)).toNatClampNeg) (fun b => (mi 38 b).toNatClampNeg) (fun b => (mi 39 b).toNatClampNeg) (fun b => (mi 40 b).toNatClampNeg) := fun b hb => by
        have hk := hZ.2.2.2.2.1 b hb
        obtain ⟨-, -, -, -, -, h6, dr, pm, pc, d1, d2, d3, d4, d5, d6, d7, d8, d9⟩ := hB.2.2.1 b hb
        have g := hH b (by omega)
        refine ⟨⟨hk.1, hk.2.1, hk.2.2.1⟩, fun k hk => ?_, ?_, ?_, ?_⟩
        · obtain ⟨h, h1, h2, h3⟩ := h6 k hk
          exact h2.trans (h3.symm.trans (g.1.1 k hk).1)
        · exact d4.trans (d5.symm.trans g.1.2.1)
        · exact d6.trans (d7.symm.trans g.2.1.1)
        · exact d8.trans (d9.symm.trans g.2.2.1)
      have hbd : bd_o 10 (fun b k => (mi 37 (5 * b + k)).toNatClampNeg) (fun b => (mi 38 b).toNatClampNeg) (fun b => (mi 39 b).toNatClampNeg) (fun b => (mi 40 b).toNatClampNeg) := fun b hb => ⟨fun k hk => ((hH b hb).1.1 k hk).2, (hH b hb).1.2.2, (hH b hb).2.1.2, (hH b hb).2.2.2⟩
      have h37 : ∀ b, b < 10 → (∀ k, k < 5 → mi 37 (5 * b + k) = nI ((fun b k => (mi 37 (5 * b + k)).toNatClampNeg) b k)) ∧ mi 38 b = nI ((fun b => (mi 38 b).toNatClampNeg) b) := fun b hb => ⟨fun k hk => ((hH b hb).1.1 k hk).1, (hH b hb).1.2.1⟩
      have h39 : ∀ b, b < 10 → mi 39 b = nI ((fun b => (mi 39 b).toNatClampNeg) b) ∧ mi 40 b = nI ((fun b => (mi 40 b).toNatClampNeg) b) := fun b hb => ⟨(hH b hb).2.1.1, (hH b hb).2.2.1⟩
      generalize (fun b k => (mi 37 (5 * b + k)).toNatClampNeg) = H at hbp hbd h37
      generalize (fun b => (mi 38 b).toNatClampNeg) = Dr at hbp hbd h37
      generalize (fun b => (mi 39 b).toNatClampNeg) = Pm at hbp hbd h39
      generalize (fun b => (mi 40 b).toNatClampNeg) = Pc at hbp hbd h39
      have h0 : ∀ k, k < 5 → mi 11 k = 0 := by
        obtain ⟨K, nu, Hs, Ds, l, hP, hS⟩ := hE
        exact hP.2.2.1
      refine op_g (t_X5_plan_k hZ.1 nb hB.1 hnb kb H Dr Pm Pc hbp hbd h0 u hu hK.1 hK.2) (by decide) (by decide) (by decide) (fun v s2 m2 r2 h => ?_)
      obtain ⟨ev, e1, e2, g, g11, g9, gj, gi⟩ := h
      rw [e1, e2]
      refine ⟨_, ev, hZ.1, m_g (t_X6_plan_k hZ.1 nb ((g _ _ (by omega)).trans hB.2.1) hnb H Dr Pm Pc hbd u hu hK.1 hK.2 (fun b hb => ⟨fun k hk => (g _ _ (by omega)).trans ((h37 b hb).1 k hk), (g _ _ (by omega)).trans (h37 b hb).2⟩) (fun b hb => ⟨(g _ _ (by omega)).trans (h39 b hb).1, (g _ _ (by omega)).trans (h39 b hb).2⟩)) (by decide) (fun v s3 m3 r3 h => ?_)⟩
      obtain ⟨ev, f1, f2, f, f45, f46, f16, fi⟩ := h
      rw [f1, f2]
      have hbd2 : bd_o (mb u nb).length (fun j => H ((mb u nb).getD j 0)) (fun j => Dr ((mb u nb).getD j 0)) (fun j => Pm ((mb u nb).getD j 0)) (fun j => Pc ((mb u nb).getD j 0)) := fun j hj => hbd _ (by have := (mb_at hj).1; omega)
      obtain ⟨-, hod, hlen, -⟩ := be_ok hbd2 hK.2
      refine ⟨ev, iv_E hZ hT hA hB hC hD (fun a c h => ?_) ⟨(mb u nb).length, fun j => (mb u nb).getD j 0, H, Dr, _, ⟨(f _ _ (by omega) (by omega)).trans g9, hK.2, fun k hk => (f _ _ (by omega) (by omega)).trans (g11 k hk), hlen, hod, fun j hj => ?_, fun j hj => ⟨(f _ _ (by omega) (by omega)).trans (gi j hj).1, (f _ _ (by omega) (by omega)).trans (gi j hj).2⟩⟩, ⟨f16, hK.2, hlen, hod, fun j hj => by have := (mb_at hj).1; show (mb u nb).getD j 0 < 10; omega, fun x y hx hy e => nd_inj (mb_nd u nb) hx hy e, fun b hb => ⟨(hbd b hb).1, (hbd b hb).2.1, by simp, by simp⟩, fun b hb => ⟨fun k hk => ?_, ?_⟩, fi⟩⟩⟩
      · unfold wE at h
        rw [f a c (by omega) (by omega), g a c (by omega)]
      · obtain ⟨c1, c2, c3⟩ := gj j hj
        have hm := (mb_at hj).1
        exact ⟨(f _ _ (by omega) (by omega)).trans c1, by show (mb u nb).getD j 0 < 10; omega, fun k hk => (f _ _ (by omega) (by omega)).trans (c2 k hk), (hbd2 j hj).1, (f _ _ (by omega) (by omega)).trans c3, (hbd2 j hj).2.1⟩
      · rw [f45 _ (by omega), g _ _ (by omega)]
        exact (h37 b hb).1 k hk
      · rw [f46 _ (by omega), g _ _ (by omega)]
        exact (h37 b hb).2
    · exact op_q hI0 hZ.1 (t_X5_plan_o hZ.1 nb hB.1 hnb u hu hK) (by decide) (t_X6_plan_o hZ.1 nb hB.2.1 hnb u hu hK) (by decide)
  · exact op_q hI0 hZ.1 (t_X5_plan_u hZ.1 nb hB.1 hnb p1 hu) (by decide) (t_X6_plan_u hZ.1 nb hB.2.1 hnb p1 hu) (by decide)
end OPP
