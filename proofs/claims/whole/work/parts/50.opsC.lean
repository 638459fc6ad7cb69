section OPC
variable {i : Nat} {sh : SH} {mi : MI} {mr : MR}
theorem op_width (hI : Inv i sh mi mr) (p1 p2 : Int32) : OPi mX5_width mX6_width [pv_i p1, pv_i p2] i sh mi mr := by
  have hI0 := hI
  obtain ⟨nb, kb, at_, ns, ks, Wd, Hd, hZ, hT, hA, hB, hC, hD, hE⟩ := hI
  by_cases hu : 0 ≤ p1 ∧ p1 ≤ 26
  · obtain ⟨k, hk, rfl⟩ := (i_in (x := p1) 26 rfl (by decide : 26 < 2 ^ 31)).mp hu
    obtain ⟨n, tx, w, L, a1, a2, a3, a4, a5, a6, a7, a8, a9, a10, a11⟩ := hC
    have hw := a5 k hk
    refine op_g (t_X5_width_k hZ.1 k hk p2) (by decide) (by decide) (by decide) (fun v s2 m2 r2 h => ?_)
    have hfin : ∀ x, x ≤ 20 → Inv (i + 1) sh (up_2 (up_2 mi 13 k (nI x)) 50 k (nI x)) mr := by
      intro x hx
      refine iv_C hZ hT hA hB hD hE (fun a c h => ?_) ⟨n, tx, fun j => if j = k then x else w j, L, a1, by simpa [up_2] using a2, by simpa [up_2] using a3, fun j hj => by simpa [up_2] using a4 j hj, fun j hj => ?_, fun j h1 h2 => by simpa [up_2] using a6 j h1 h2, by simpa [up_2] using a7, a8, by simpa [up_2] using a9, by simpa [up_2] using a10, fun j hj => by simpa [up_2] using a11 j hj⟩
      · unfold wC at h
        simp only [up_2]
        rw [if_neg (by omega), if_neg (by omega)]
      · by_cases e : j = k
        · subst e
          simp [up_2, hx]
        · simpa [up_2, e] using a5 j hj
    rcases h with ⟨c1, c2, e⟩ | ⟨c1, c2, e⟩ | ⟨c1, c2, e⟩ | ⟨c1, c2, e⟩
    · refine op_l e hZ.1 (m_g (t_X6_width_k hZ.1 k hk p2) (by decide) (fun v s3 m3 r3 h => ?_))
      obtain ⟨x, x1, x2, rfl⟩ := i_rg (lo := 1) (hi := 20) (by decide) (by decide) c2
      rcases h with ⟨d1, d2, e⟩ | ⟨d1, d2, e⟩ | ⟨d1, d2, e⟩ | ⟨d1, d2, e⟩
      all_goals first | contradiction | exact m_l e (by rw [up_ne (Or.inl (by decide)), hw.2.1, hw.2.2]) (hfin x x2)
    · refine op_l e hZ.1 (m_g (t_X6_width_k hZ.1 k hk p2) (by decide) (fun v s3 m3 r3 h => ?_))
      rcases h with ⟨d1, d2, e⟩ | ⟨d1, d2, e⟩ | ⟨d1, d2, e⟩ | ⟨d1, d2, e⟩
      all_goals first | contradiction | exact m_l e rfl (iv_S hI0)
    · refine op_l e hZ.1 (m_g (t_X6_width_k hZ.1 k hk p2) (by decide) (fun v s3 m3 r3 h => ?_))
      obtain ⟨x, x1, x2, rfl⟩ := i_rg (lo := 0) (hi := 20) (by decide) (by decide) c2
      rcases h with ⟨d1, d2, e⟩ | ⟨d1, d2, e⟩ | ⟨d1, d2, e⟩ | ⟨d1, d2, e⟩
      all_goals first | contradiction | exact m_l e (by rw [up_ne (Or.inl (by decide)), hw.2.1, hw.2.2]) (hfin x x2)
    · refine op_l e hZ.1 (m_g (t_X6_width_k hZ.1 k hk p2) (by decide) (fun v s3 m3 r3 h => ?_))
      rcases h with ⟨d1, d2, e⟩ | ⟨d1, d2, e⟩ | ⟨d1, d2, e⟩ | ⟨d1, d2, e⟩
      all_goals first | contradiction | exact m_l e rfl (iv_S hI0)
  · exact op_q hI0 hZ.1 (t_X5_width_u hZ.1 p1 p2 hu) (by decide) (t_X6_width_u hZ.1 p1 p2 hu) (by decide)
theorem op_sign (hI : Inv i sh mi mr) (p1 : Int32) : OPi mX5_sign mX6_sign [pv_i p1] i sh mi mr := by
  have hI0 := hI
  obtain ⟨nb, kb, at_, ns, ks, Wd, Hd, hZ, hT, hA, hB, hC, hD, hE⟩ := hI
  obtain ⟨n, tx, w, L, a1, a2, a3, a4, a5, a6, a7, a8, a9, a10, a11⟩ := hC
  have hlt : (mi 12 3 < 40) ↔ n < 40 := nl_lt a2 (show (40 : Int32) = nI 40 from rfl) (by omega) (by decide)
  have heq : (mi 29 25 = 40) ↔ n = 40 := nl_eq a3 (show (40 : Int32) = nI 40 from rfl) (by omega) (by decide)
  refine op_g (t_X5_sign hZ.1 p1 n a2 a1) (by decide) (by decide) (by decide) (fun v s2 m2 r2 h => ?_)
  rcases h with ⟨c1, c2, e⟩ | ⟨c1, c2, e⟩ | ⟨c1, e⟩
  · have hn := hlt.mp c2
    refine op_l e hZ.1 (m_g (t_X6_sign hZ.1 p1 n (by simpa [up_2] using a3) a1) (by decide) (fun v s3 m3 r3 h => ?_))
    rcases h with ⟨d1, d2, e⟩ | ⟨d1, d2, e⟩ | ⟨d1, e⟩
    · obtain ⟨x, x1, x2, rfl⟩ := i_rg (lo := 0) (hi := 26) (by decide) (by decide) c1
      refine m_l e (by simp [up_2, a2, a3]) (iv_C hZ hT hA hB hD hE (fun a c h => ?_) ⟨n + 1, fun j => if j = n then x else tx j, w, L, by omega, by simp [up_2, a2, nI_1], by simp [up_2, a3, nI_1], fun j hj => ?_, fun j hj => by simpa [up_2] using a5 j hj, fun j h1 h2 => by simpa [up_2] using a6 j h1 h2, by simpa [up_2] using a7, a8, by simpa [up_2] using a9, by simpa [up_2] using a10, fun j hj => by simpa [up_2] using a11 j hj⟩)
      · unfold wC at h
        simp only [up_2]
        repeat rw [if_neg (by omega)]
      · by_cases e : j = n
        · subst e
          simp [up_2, x2]
        · have := a4 j (by omega)
          simpa [up_2, e] using this
    · exfalso
      have : n = 40 := heq.mp (by simpa [up_2] using d2)
      omega
    · contradiction
  · have hn : ¬ n < 40 := fun q => c2 (hlt.mpr q)
    refine op_l e hZ.1 (m_g (t_X6_sign hZ.1 p1 n a3 a1) (by decide) (fun v s3 m3 r3 h => ?_))
    rcases h with ⟨d1, d2, e⟩ | ⟨d1, d2, e⟩ | ⟨d1, e⟩
    · exact absurd (heq.mpr (by omega)) d2
    all_goals first | contradiction | exact m_l e rfl (iv_S hI0)
  · refine op_l e hZ.1 (m_g (t_X6_sign hZ.1 p1 n a3 a1) (by decide) (fun v s3 m3 r3 h => ?_))
    rcases h with ⟨d1, d2, e⟩ | ⟨d1, d2, e⟩ | ⟨d1, e⟩
    all_goals first | contradiction | exact m_l e rfl (iv_S hI0)
theorem op_wipe (hI : Inv i sh mi mr) : OPi mX5_wipe mX6_wipe [] i sh mi mr := by
  obtain ⟨nb, kb, at_, ns, ks, Wd, Hd, hZ, hT, hA, hB, hC, hD, hE⟩ := hI
  obtain ⟨n, tx, w, L, a1, a2, a3, a4, a5, a6, a7, a8, a9, a10, a11⟩ := hC
  refine op_g (t_X5_wipe hZ.1) (by decide) (by decide) (by decide) (fun v s2 m2 r2 e => ?_)
  refine op_l e hZ.1 (m_g (t_X6_wipe hZ.1) (by decide) (fun v s3 m3 r3 e => ?_))
  refine m_l e (by simp [up_2, a2, a3]) (iv_C hZ hT hA hB hD hE (fun a c h => ?_) ⟨0, tx, w, L, by omega, by simp [up_2]; rfl, by simp [up_2]; rfl, fun j hj => absurd hj (Nat.not_lt_zero j), fun j hj => by simpa [up_2] using a5 j hj, fun j h1 h2 => by simpa [up_2] using a6 j h1 h2, by simpa [up_2] using a7, a8, by simpa [up_2] using a9, by simpa [up_2] using a10, fun j hj => by simpa [up_2] using a11 j hj⟩)
  unfold wC at h
  simp only [up_2]
  repeat rw [if_neg (by omega)]
theorem op_line (hI : Inv i sh mi mr) (p1 : Int32) : OPi mX5_line mX6_line [pv_i p1] i sh mi mr := by
  have hI0 := hI
  obtain ⟨nb, kb, at_, ns, ks, Wd, Hd, hZ, hT, hA, hB, hC, hD, hE⟩ := hI
  obtain ⟨n, tx, w, L, a1, a2, a3, a4, a5, a6, a7, a8, a9, a10, a11⟩ := hC
  by_cases hu : 0 ≤ p1 ∧ p1 ≤ (mi 12 4) - 1
  · rw [a9] at hu
    obtain ⟨k, hk, rfl⟩ := (i_cases (by omega)).mp hu
    have h6 := t_X6_line_k hZ.1 L a10 a8 k hk
    rw [a11 k hk] at h6
    exact op_q hI0 hZ.1 (t_X5_line_k hZ.1 L a9 a8 k hk) (by decide) h6 (by decide)
  · exact op_q hI0 hZ.1 (t_X5_line_u hZ.1 p1 hu) (by decide) (t_X6_line_u hZ.1 p1 (by rw [a10, ← a9]; exact hu)) (by decide)
theorem op_sharpen (hI : Inv i sh mi mr) (p1 : Int32) : OPi mX5_sharpen mX6_sharpen [pv_i p1] i sh mi mr := by
  have hI0 := hI
  obtain ⟨nb, kb, at_, ns, ks, Wd, Hd, hZ, hT, hA, hB, hC, hD, hE⟩ := hI
  obtain ⟨n, tx, w, L, a1, a2, a3, a4, a5, a6, a7, a8, a9, a10, a11⟩ := hC
  by_cases hu : 1 ≤ p1 ∧ p1 ≤ 26
  · obtain ⟨k, k1, k2, rfl⟩ := i_rg (lo := 1) (hi := 26) (by decide) (by decide) hu
    refine op_g (t_X5_sharpen_k hZ.1 k k1 k2) (by decide) (by decide) (by decide) (fun v s2 m2 r2 e => ?_)
    refine op_l e hZ.1 (m_g (t_X6_sharpen_k hZ.1 k k1 k2) (by decide) (fun v s3 m3 r3 e => ?_))
    refine m_l e (by simp [up_2, a6 k k1 k2]) (iv_C hZ hT hA hB hD hE (fun a c h => ?_) ⟨n, tx, w, L, a1, by simpa [up_2] using a2, by simpa [up_2] using a3, fun j hj => by simpa [up_2] using a4 j hj, fun j hj => by simpa [up_2] using a5 j hj, fun j h1 h2 => ?_, by simpa [up_2] using a7, a8, by simpa [up_2] using a9, by simpa [up_2] using a10, fun j hj => by simpa [up_2] using a11 j hj⟩)
    · unfold wC at h
      simp only [up_2]
      repeat rw [if_neg (by omega)]
    · by_cases e : j = k
      · subst e
        simp [up_2]
      · simpa [up_2, e] using a6 j h1 h2
  · exact op_q hI0 hZ.1 (t_X5_sharpen_u hZ.1 p1 hu) (by decide) (t_X6_sharpen_u hZ.1 p1 hu) (by decide)
theorem op_last (hI : Inv i sh mi mr) (p1 : Int32) : OPi mX5_last mX6_last [pv_i p1] i sh mi mr := by
  have hI0 := hI
  obtain ⟨nb, kb, at_, ns, ks, Wd, Hd, hZ, hT, hA, hB, hC, hD, hE⟩ := hI
  obtain ⟨n, tx, w, L, a1, a2, a3, a4, a5, a6, a7, a8, a9, a10, a11⟩ := hC
  refine op_g (t_X5_last hZ.1 p1) (by decide) (by decide) (by decide) (fun v s2 m2 r2 h => ?_)
  rcases h with ⟨c1, e⟩ | ⟨c1, e⟩
  · refine op_l e hZ.1 (m_g (t_X6_last hZ.1 p1) (by decide) (fun v s3 m3 r3 h => ?_))
    rcases h with ⟨d1, e⟩ | ⟨d1, e⟩
    · refine m_l e (by simp [up_2, a7]) (iv_C hZ hT hA hB hD hE (fun a c h => ?_) ⟨n, tx, w, L, a1, by simpa [up_2] using a2, by simpa [up_2] using a3, fun j hj => by simpa [up_2] using a4 j hj, fun j hj => by simpa [up_2] using a5 j hj, fun j h1 h2 => by simpa [up_2] using a6 j h1 h2, by simp [up_2], a8, by simpa [up_2] using a9, by simpa [up_2] using a10, fun j hj => by simpa [up_2] using a11 j hj⟩)
      unfold wC at h
      simp only [up_2]
      repeat rw [if_neg (by omega)]
    · contradiction
  · refine op_l e hZ.1 (m_g (t_X6_last hZ.1 p1) (by decide) (fun v s3 m3 r3 h => ?_))
    rcases h with ⟨d1, e⟩ | ⟨d1, e⟩
    all_goals first | contradiction | exact m_l e rfl (iv_S hI0)
theorem op_stamp (hI : Inv i sh mi mr) : OPi mX5_stamp mX6_stamp [] i sh mi mr := by
  obtain ⟨nb, kb, at_, ns, ks, Wd, Hd, hZ, hT, hA, hB, hC, hD, hE⟩ := hI
  have hC0 := hC
  obtain ⟨n, tx, w, L, a1, a2, a3, a4, a5, a6, a7, a8, a9, a10, a11⟩ := hC
  refine op_g (t_X5_stamp hZ.1 n a2 a1 tx (fun j hj => ⟨(a4 j hj).2.1, (a4 j hj).1⟩)) (by decide) (by decide) (by decide) (fun v s2 m2 r2 h => ?_)
  obtain ⟨e1, e2, h⟩ := h
  rw [e1, e2]
  have hm : ∀ m2 : MI, (∀ a c, a ≠ 17 → a ≠ 14 → m2 a c = mi a c) → m2 29 25 = nI n ∧ (∀ j, j < n → m2 51 j = nI (tx j) ∧ tx j ≤ 26) ∧ (∀ k, 1 ≤ k → k ≤ 26 → m2 55 k = mi 14 k) ∧ m2 29 33 = mi 12 5 := fun m2 g => ⟨(g _ _ (by decide) (by decide)).trans a3, fun j hj => ⟨(g _ _ (by decide) (by decide)).trans (a4 j hj).2.2, (a4 j hj).1⟩, fun k h1 h2 => (g _ _ (by decide) (by decide)).trans (a6 k h1 h2), (g _ _ (by decide) (by decide)).trans a7⟩
  have same : ∀ m2 : MI, ag_1 17 mi m2 → Inv (i + 1) sh m2 mr := fun m2 g => iv_C hZ hT hA hB hD hE (fun a c h => g a c (by unfold wC at h; omega)) ⟨n, tx, w, L, a1, (g _ _ (by decide)).trans a2, (g _ _ (by decide)).trans a3, fun j hj => by rw [g 16 j (by decide), g 51 j (by decide)]; exact a4 j hj, fun j hj => by rw [g 13 j (by decide), g 50 j (by decide)]; exact a5 j hj, fun j h1 h2 => by rw [g 55 j (by decide), g 14 j (by decide)]; exact a6 j h1 h2, by rw [g 29 33 (by decide), g 12 5 (by decide)]; exact a7, a8, (g _ _ (by decide)).trans a9, (g _ _ (by decide)).trans a10, fun j hj => by rw [g 54 j (by decide), g 15 j (by decide)]; exact a11 j hj⟩
  rcases h with ⟨c1, ev, g⟩ | ⟨c1, ⟨k, k1, k2, k3⟩, ev, g⟩ | ⟨c1, c2, ev, g, gk⟩
  · obtain ⟨b1, b2, b3, b4⟩ := hm m2 (fun a c h _ => g a c h)
    refine ⟨_, ev, hZ.1, m_g (t_X6_stamp hZ.1 n b1 a1 tx b2) (by decide) (fun v s3 m3 r3 h => ?_)⟩
    obtain ⟨f1, f2, h⟩ := h
    rw [f1, f2]
    rcases h with ⟨d1, ev, f⟩ | ⟨d1, ⟨k, k1, k2, k3⟩, ev, f⟩ | ⟨d1, d2, ev, f, fk⟩
    · rw [f]; exact ⟨ev, same m2 g⟩
    · contradiction
    · contradiction
  · obtain ⟨b1, b2, b3, b4⟩ := hm m2 (fun a c h _ => g a c h)
    refine ⟨_, ev, hZ.1, m_g (t_X6_stamp hZ.1 n b1 a1 tx b2) (by decide) (fun v s3 m3 r3 h => ?_)⟩
    obtain ⟨f1, f2, h⟩ := h
    rw [f1, f2]
    rcases h with ⟨d1, ev, f⟩ | ⟨d1, _, ev, f⟩ | ⟨d1, d2, ev, f, fk⟩
    · contradiction
    · rw [f]; exact ⟨ev, same m2 g⟩
    · exact absurd (by rw [b3 k k1 k2, b4]; exact k3) (d2 k k1 k2)
  · obtain ⟨b1, b2, b3, b4⟩ := hm m2 g
    refine ⟨_, ev, hZ.1, m_g (t_X6_stamp hZ.1 n b1 a1 tx b2) (by decide) (fun v s3 m3 r3 h => ?_)⟩
    obtain ⟨f1, f2, h⟩ := h
    rw [f1, f2]
    rcases h with ⟨d1, ev, f⟩ | ⟨d1, ⟨k, k1, k2, k3⟩, ev, f⟩ | ⟨d1, d2, ev, f, fk⟩
    · contradiction
    · exact absurd (by rw [← b3 k k1 k2, ← b4]; exact k3) (c2 k k1 k2)
    · have ff : ∀ a c, a ≠ 17 → a ≠ 14 → a ≠ 55 → m3 a c = mi a c := fun a c h1 h2 h3 => (f a c h3).trans (g a c h1 h2)
      refine ⟨ev, iv_C hZ hT hA hB hD hE (fun a c h => ff a c (by unfold wC at h; omega) (by unfold wC at h; omega) (by unfold wC at h; omega)) ⟨n, tx, w, L, a1, (ff _ _ (by decide) (by decide) (by decide)).trans a2, (ff _ _ (by decide) (by decide) (by decide)).trans a3, fun j hj => by rw [ff 16 j (by decide) (by decide) (by decide), ff 51 j (by decide) (by decide) (by decide)]; exact a4 j hj, fun j hj => by rw [ff 13 j (by decide) (by decide) (by decide), ff 50 j (by decide) (by decide) (by decide)]; exact a5 j hj, fun j h1 h2 => by rw [fk j h1 h2, f 14 j (by decide), gk j h1 h2, b3 j h1 h2], by rw [ff 29 33 (by decide) (by decide) (by decide), ff 12 5 (by decide) (by decide) (by decide)]; exact a7, a8, (ff _ _ (by decide) (by decide) (by decide)).trans a9, (ff _ _ (by decide) (by decide) (by decide)).trans a10, fun j hj => by rw [ff 54 j (by decide) (by decide) (by decide), ff 15 j (by decide) (by decide) (by decide)]; exact a11 j hj⟩⟩
end OPC
