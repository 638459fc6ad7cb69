section OPE
variable {i : Nat} {sh : SH} {mi : MI} {mr : MR}
theorem C_sc {m : MI} (h : ∀ a c, a ≠ 17 → a ≠ 18 → a ≠ 19 → a ≠ 20 → a ≠ 52 → a ≠ 53 → ¬ (a = 12 ∧ c = 11) → ¬ (a = 29 ∧ c = 27) → m a c = mi a c) : iC mi → iC m := by
  rintro ⟨n, tx, w, L, a1, a2, a3, a4, a5, a6, a7, a8, a9, a10, a11⟩
  have g : ∀ a c, ((a = 12 ∧ c ≠ 11) ∨ (13 ≤ a ∧ a ≤ 16) ∨ (a = 29 ∧ c ≠ 27) ∨ a = 50 ∨ a = 51 ∨ a = 54 ∨ a = 55) → m a c = mi a c := fun a c q => h a c (by omega) (by omega) (by omega) (by omega) (by omega) (by omega) (by omega) (by omega)
  refine ⟨n, tx, w, L, a1, (g _ _ (by omega)).trans a2, (g _ _ (by omega)).trans a3, fun i hi => ?_, fun k hk => ?_, fun k h1 h2 => ?_, ?_, a8, (g _ _ (by omega)).trans a9, (g _ _ (by omega)).trans a10, fun i hi => ?_⟩
  · rw [g 16 i (by omega), g 51 i (by omega)]; exact a4 i hi
  · rw [g 13 k (by omega), g 50 k (by omega)]; exact a5 k hk
  · rw [g 55 k (by omega), g 14 k (by omega)]; exact a6 k h1 h2
  · rw [g 29 33 (by omega), g 12 5 (by omega)]; exact a7
  · rw [g 54 i (by omega), g 15 i (by omega)]; exact a11 i hi
theorem PL_12 {mi m : MI} {K : Nat} {nu : Nat → Nat} {nd : Nat → Nat → Nat} {dr : Nat → Nat} {l : List Nat} (hag : ∀ a c, a < 12 → m a c = mi a c) (h : PL_c mi K nu nd dr l) : PL_c m K nu nd dr l :=
  ⟨(hag 2 9 (by omega)).trans h.1, h.2.1, fun k hk => (hag 11 k (by omega)).trans (h.2.2.1 k hk), h.2.2.2.1, h.2.2.2.2.1, fun j hj => ⟨(hag 4 j (by omega)).trans (h.2.2.2.2.2.1 j hj).1, (h.2.2.2.2.2.1 j hj).2.1, fun k hk => (hag 5 _ (by omega)).trans ((h.2.2.2.2.2.1 j hj).2.2.1 k hk), (h.2.2.2.2.2.1 j hj).2.2.2.1, (hag 6 j (by omega)).trans (h.2.2.2.2.2.1 j hj).2.2.2.2.1, (h.2.2.2.2.2.1 j hj).2.2.2.2.2⟩, fun i hi => ⟨(hag 10 i (by omega)).trans (h.2.2.2.2.2.2 i hi).1, (hag 3 i (by omega)).trans (h.2.2.2.2.2.2 i hi).2⟩⟩
theorem op_broken (hI : Inv i sh mi mr) (p1 p2 : Int32) : OPi mX5_broken mX6_broken [pv_i p1, pv_i p2] i sh mi mr := by
  have hI0 := hI
  obtain ⟨nb, kb, at_, ns, ks, Wd, Hd, hZ, hT, hA, hB, hC, hD, hE⟩ := hI
  by_cases hv : (1 ≤ p1 ∧ p1 ≤ 400) ∧ 1 ≤ p2 ∧ p2 ≤ 6
  · obtain ⟨W, W1, W2, rfl⟩ := i_rg (lo := 1) (hi := 400) (by decide) (by decide) hv.1
    obtain ⟨K, K1, K2, rfl⟩ := i_rg (lo := 1) (hi := 6) (by decide) (by decide) hv.2
    have hC0 := hC
    obtain ⟨n, tx, w, L, a1, a2, a3, a4, a5, a6, a7, a8, a9, a10, a11⟩ := hC
    refine op_g (t_X5_broken_k hZ.1 n a2 a1 tx (fun j hj => ⟨(a4 j hj).2.1, (a4 j hj).1⟩) w (fun k hk => (a5 k hk).2.1) (fun k hk => (a5 k hk).1) W K W2 K2 W1 K1) (by decide) (by decide) (by decide) (fun v s2 m2 r2 h => ?_)
    obtain ⟨e1, e2, h⟩ := h
    rw [e1, e2]
    have h6 : (∀ a c, 21 ≤ a → m2 a c = mi a c) → EV none 2 0 0 mX6_broken 0 (en_l mX6_broken [pv_r 29, pv_i (nI W), pv_i (nI K)]) [] sh m2 mr _ := fun g => t_X6_broken_k hZ.1 n ((g _ _ (by decide)).trans a3) a1 tx (fun j hj => ⟨(g _ _ (by decide)).trans (a4 j hj).2.2, (a4 j hj).1⟩) w (fun k hk => (g _ _ (by decide)).trans (a5 k hk).2.2) (fun k hk => (a5 k hk).1) W K W2 K2 W1 K1
    rcases h with ⟨c1, ev, g⟩ | ⟨c1, ev, g, g4, g5⟩
    · refine ⟨_, ev, hZ.1, m_g (h6 (fun a c h => g.1 a c (by omega) (by omega))) (by decide) (fun v s3 m3 r3 h => ?_)⟩
      obtain ⟨f1, f2, h⟩ := h
      rw [f1, f2]
      rcases h with ⟨d1, ev, f⟩ | ⟨d1, ev, f, f4, f5⟩
      · have ff : ∀ a c, a ≠ 18 → a ≠ 52 → ¬ (a = 12 ∧ c = 11) → ¬ (a = 29 ∧ c = 27) → m3 a c = mi a c := fun a c h1 h2 h3 h4 => (f.1 a c h2 h4).trans (g.1 a c h1 h3)
        exact ⟨ev, iv_C hZ hT hA hB hD hE (fun a c h => ff a c (by unfold wC at h; omega) (by unfold wC at h; omega) (by unfold wC at h; omega) (by unfold wC at h; omega)) (C_sc (fun a c _ h2 _ _ h5 _ h7 h8 => ff a c h2 h5 h7 h8) hC0)⟩
      · exact absurd c1 d1
    · refine ⟨_, ev, hZ.1, m_g (h6 (fun a c h => g a c (by omega) (by omega) (by omega) (by omega) (by omega))) (by decide) (fun v s3 m3 r3 h => ?_)⟩
      obtain ⟨f1, f2, h⟩ := h
      rw [f1, f2]
      rcases h with ⟨d1, ev, f⟩ | ⟨d1, ev, f, f4, f5⟩
      · exact absurd d1 c1
      · have ff : ∀ a c, a ≠ 15 → a ≠ 18 → a ≠ 19 → a ≠ 20 → ¬ (a = 12 ∧ (c = 4 ∨ c = 11)) → a ≠ 52 → a ≠ 53 → a ≠ 54 → ¬ (a = 29 ∧ (c = 30 ∨ c = 27)) → m3 a c = mi a c := fun a c h1 h2 h3 h4 h5 h6 h7 h8 h9 => (f a c h6 h7 h8 h9).trans (g a c h1 h2 h3 h4 h5)
        have fg : ∀ a c, ((a = 12 ∧ (c = 3 ∨ c = 5)) ∨ (13 ≤ a ∧ a ≤ 14) ∨ a = 16 ∨ (a = 29 ∧ (c = 25 ∨ c = 33)) ∨ a = 50 ∨ a = 51 ∨ a = 55) → m3 a c = mi a c := fun a c q => ff a c (by omega) (by omega) (by omega) (by omega) (by omega) (by omega) (by omega) (by omega) (by omega)
        refine ⟨ev, iv_C hZ hT hA hB hD hE (fun a c h => ?_) ⟨n, tx, w, bl_w (wc tx n) W (w 0) (wx tx w n) K, a1, (fg _ _ (by omega)).trans a2, (fg _ _ (by omega)).trans a3, fun j hj => ?_, fun k hk => ?_, fun k h1 h2 => ?_, ?_, Nat.le_trans (bl_le K) K2, ?_, f4, fun j hj => ?_⟩⟩
        · unfold wC at h
          exact ff a c (by omega) (by omega) (by omega) (by omega) (by omega) (by omega) (by omega) (by omega) (by omega)
        · rw [fg 16 j (by omega), fg 51 j (by omega)]; exact a4 j hj
        · rw [fg 13 k (by omega), fg 50 k (by omega)]; exact a5 k hk
        · rw [fg 55 k (by omega), fg 14 k (by omega)]; exact a6 k h1 h2
        · rw [fg 29 33 (by omega), fg 12 5 (by omega)]; exact a7
        · rw [f 12 4 (by omega) (by omega) (by omega) (by omega)]; exact g4
        · rw [f5 j hj, f 15 j (by omega) (by omega) (by omega) (by omega), g5 j hj]
  · exact op_q hI0 hZ.1 (t_X5_broken_o hZ.1 p1 p2 hv) (by decide) (t_X6_broken_o hZ.1 p1 p2 hv) (by decide)
theorem op_count (hI : Inv i sh mi mr) (p1 : Int32) : OPi mX5_count mX6_count [pv_i p1] i sh mi mr := by
  have hI0 := hI
  obtain ⟨nb, kb, at_, ns, ks, Wd, Hd, hZ, hT, hA, hB, hC, hD, hE⟩ := hI
  have hC0 := hC
  have hA0 := hA
  obtain ⟨n, tx, w, L, a1, a2, a3, a4, a5, a6, a7, a8, a9, a10, a11⟩ := hC
  obtain ⟨D, n1, z1, z2, z3, z4, z5, z6, z7, z8, z9, z10⟩ := hA
  have hD0 := hD
  obtain ⟨tn, S, y1, y2, y3, y4, y5, y6, y7, y8⟩ := hD
  refine op_g (t_X5_count hZ.1 p1 n a2 a1 tx (fun j hj => ⟨(a4 j hj).2.1, (a4 j hj).1⟩) w (fun k hk => (a5 k hk).2.1)) (by decide) (by decide) (by decide) (fun v s2 m2 r2 h => ?_)
  obtain ⟨e1, e2, h⟩ := h
  rw [e1, e2]
  have h6 : (∀ a c, 21 ≤ a → m2 a c = mi a c) → EV none 1 0 0 mX6_count 0 (en_l mX6_count [pv_r 29, pv_i p1]) [] sh m2 mr _ := fun g => t_X6_count hZ.1 p1 n ((g _ _ (by decide)).trans a3) a1 tx (fun j hj => ⟨(g _ _ (by decide)).trans (a4 j hj).2.2, (a4 j hj).1⟩) w (fun k hk => (g _ _ (by decide)).trans (a5 k hk).2.2)
  have fin : ∀ m3 : MI, (∀ a c, a ≠ 18 → ¬ (a = 12 ∧ c = 11) → m2 a c = mi a c) → iw 29 52 27 tx w m2 m3 n → Inv (i + 1) sh m3 mr := fun m3 g f => by
    have ff : ∀ a c, a ≠ 18 → a ≠ 52 → ¬ (a = 12 ∧ c = 11) → ¬ (a = 29 ∧ c = 27) → m3 a c = mi a c := fun a c h1 h2 h3 h4 => (f.1 a c h2 h4).trans (g a c h1 h3)
    exact iv_C hZ hT hA0 hB hD0 hE (fun a c h => ff a c (by unfold wC at h; omega) (by unfold wC at h; omega) (by unfold wC at h; omega) (by unfold wC at h; omega)) (C_sc (fun a c _ h2 _ _ h5 _ h7 h8 => ff a c h2 h5 h7 h8) hC0)
  rcases h with ⟨c1, ev, g⟩ | ⟨c1, ev, g⟩ | ⟨c1, ev, g⟩ | ⟨c1, ev, g⟩ | ⟨c1, ev, g⟩ | ⟨c1, ev, g⟩ | ⟨c1, ev, g⟩ | ⟨⟨c0, c1, c2, c3, c4, c5, c6⟩, ev, g⟩
  case inr.inr.inr.inr.inr.inl =>
    subst c1
    refine ⟨_, ev, hZ.1, m_g (h6 (fun a c h => g.1 a c (by omega) (by omega))) (by decide) (fun v s3 m3 r3 h => ?_)⟩
    obtain ⟨f1, f2, f3, h⟩ := h
    rw [f1, f2]
    refine ⟨?_, fin m3 g.1 f3⟩
    rcases h with ⟨d1, ev⟩ | ⟨d1, ev⟩ | ⟨d1, ev⟩ | ⟨d1, ev⟩ | ⟨d1, ev⟩ | ⟨d1, ev⟩ | ⟨d1, ev⟩ | ⟨⟨d0, d1, d2, d3, d4, d5, d6⟩, ev⟩
    all_goals first | exact absurd d1 (by decide) | exact absurd rfl d5 | exact ev
  case inr.inr.inr.inr.inr.inr.inr =>
    rw [g] at h6 fin ⊢
    refine ⟨_, ev, hZ.1, m_g (h6 (fun a c h => rfl)) (by decide) (fun v s3 m3 r3 h => ?_)⟩
    obtain ⟨f1, f2, f3, h⟩ := h
    rw [f1, f2]
    refine ⟨?_, fin m3 (fun _ _ _ _ => rfl) f3⟩
    rcases h with ⟨d1, ev⟩ | ⟨d1, ev⟩ | ⟨d1, ev⟩ | ⟨d1, ev⟩ | ⟨d1, ev⟩ | ⟨d1, ev⟩ | ⟨d1, ev⟩ | ⟨-, ev⟩
    all_goals first | exact absurd d1 c0 | exact absurd d1 c1 | exact absurd d1 c2 | exact absurd d1 c3 | exact absurd d1 c4 | exact absurd d1 c5 | exact absurd d1 c6 | exact ev
  all_goals
    subst c1
    rw [g] at h6 fin ⊢
    refine ⟨_, ev, hZ.1, m_g (h6 (fun a c h => rfl)) (by decide) (fun v s3 m3 r3 h => ?_)⟩
    obtain ⟨f1, f2, f3, h⟩ := h
    rw [f1, f2]
    refine ⟨?_, fin m3 (fun _ _ _ _ => rfl) f3⟩
    rcases h with ⟨d1, ev⟩ | ⟨d1, ev⟩ | ⟨d1, ev⟩ | ⟨d1, ev⟩ | ⟨d1, ev⟩ | ⟨d1, ev⟩ | ⟨d1, ev⟩ | ⟨⟨d0, d1, d2, d3, d4, d5, d6⟩, ev⟩
    all_goals first | exact absurd d1 (by decide) | exact absurd rfl d0 | exact absurd rfl d1 | exact absurd rfl d2 | exact absurd rfl d3 | exact absurd rfl d4 | exact absurd rfl d6 | (rw [hB.1, ← hB.2.1]; exact ev) | (rw [y1, ← y2]; exact ev) | (rw [z8, ← z9]; exact ev) | (rw [z2, ← z3]; exact ev) | (rw [a2, ← a3]; exact ev) | (rw [z5, ← z6]; exact ev)
theorem op_planned (hI : Inv i sh mi mr) (p1 p2 : Int32) : OPi mX5_planned mX6_planned [pv_i p1, pv_i p2] i sh mi mr := by
  have hI0 := hI
  obtain ⟨nb, kb, at_, ns, ks, Wd, Hd, hZ, hT, hA, hB, hC, hD, hE⟩ := hI
  obtain ⟨K, nu, Hs, Ds, l, hP, hS⟩ := hE
  by_cases hu : 0 ≤ p1 ∧ p1 ≤ (mi 2 9) - 1
  · rw [hP.1] at hu
    obtain ⟨k, hk, rfl⟩ := (i_cases (by have := hP.2.1; omega)).mp hu
    have h3 := (hP.2.2.2.2.2.2 k hk).2
    have h43 := hS.2.2.2.2.2.2.2.2 k hk
    refine op_g (t_X5_planned_k hZ.1 hP k hk p2) (by decide) (by decide) (by decide) (fun v s2 m2 r2 h => ?_)
    rcases h with ⟨c1, e⟩ | ⟨c1, c2, e⟩ | ⟨c1, c2, e⟩
    · refine op_l e hZ.1 (m_g (t_X6_planned_k hZ.1 K hS.1 hS.2.1 k hk p2) (by decide) (fun v s3 m3 r3 h => ?_))
      subst c1
      rcases h with ⟨d1, d2, e⟩ | ⟨d1, d2, e⟩ | ⟨d1, e⟩
      · contradiction
      · exact m_l e h43.1 (iv_S hI0)
      · exact absurd (by decide) d1
    · refine op_l e hZ.1 (m_g (t_X6_planned_k hZ.1 K hS.1 hS.2.1 k hk p2) (by decide) (fun v s3 m3 r3 h => ?_))
      subst c2
      rcases h with ⟨d1, d2, e⟩ | ⟨d1, d2, e⟩ | ⟨d1, e⟩
      · exact m_l e (h43.2.trans h3.symm) (iv_S hI0)
      · contradiction
      · exact absurd (by decide) d1
    · refine op_l e hZ.1 (m_g (t_X6_planned_k hZ.1 K hS.1 hS.2.1 k hk p2) (by decide) (fun v s3 m3 r3 h => ?_))
      have hno : ¬ (0 ≤ p2 ∧ p2 ≤ 1) := fun q => by
        obtain ⟨x, x1, x2, rfl⟩ := i_rg (lo := 0) (hi := 1) (by decide) (by decide) q
        rcases (show x = 0 ∨ x = 1 by omega) with rfl | rfl
        · exact c1 rfl
        · exact c2 rfl
      rcases h with ⟨d1, d2, e⟩ | ⟨d1, d2, e⟩ | ⟨d1, e⟩
      · contradiction
      · contradiction
      · exact m_l e rfl (iv_S hI0)
  · exact op_q hI0 hZ.1 (t_X5_planned_u hZ.1 p1 p2 hu) (by decide) (t_X6_planned_u hZ.1 p1 p2 (by rw [hS.1, ← hP.1]; exact hu)) (by decide)
theorem op_delays (hI : Inv i sh mi mr) (p1 : Int32) : OPi mX5_delays mX6_delays [pv_i p1] i sh mi mr := by
  have hI0 := hI
  obtain ⟨nb, kb, at_, ns, ks, Wd, Hd, hZ, hT, hA, hB, hC, hD, hE⟩ := hI
  obtain ⟨K, nu, Hs, Ds, l, hP, hS⟩ := hE
  have hnb := hZ.2.2.1
  by_cases hu : 0 ≤ p1 ∧ p1 ≤ (mi 0 5) - 1
  · rw [hB.1] at hu
    obtain ⟨b, hb, rfl⟩ := (i_cases (by omega)).mp hu
    have hkb := hZ.2.2.2.2.1 b hb
    by_cases hf : ∃ f, f < K ∧ nu (l.getD f 0) = b
    · obtain ⟨f, hf, hf2⟩ := hf
      refine op_g (t_X5_delays_k hZ.1 nb hB.1 hnb b hb hkb.1 hkb.2.1 hP f hf hf2 (fun j hj e => by have := MS_if hS (i := j) (f := f) (by omega) hf (by rw [e, hf2]); omega)) (by decide) (by decide) (by decide) (fun v s2 m2 r2 h => ?_)
      obtain ⟨ev, e1, e2, g⟩ := h
      rw [e1, e2]
      have hS2 : MS_c m2 K nu Hs Ds l := ⟨(g _ _ (by omega)).trans hS.1, hS.2.1, hS.2.2.1, hS.2.2.2.1, hS.2.2.2.2.1, hS.2.2.2.2.2.1, hS.2.2.2.2.2.2.1, fun b hb => ⟨fun k hk => (g _ _ (by omega)).trans ((hS.2.2.2.2.2.2.2.1 b hb).1 k hk), (g _ _ (by omega)).trans (hS.2.2.2.2.2.2.2.1 b hb).2⟩, fun j hj => ⟨(g _ _ (by omega)).trans (hS.2.2.2.2.2.2.2.2 j hj).1, (g _ _ (by omega)).trans (hS.2.2.2.2.2.2.2.2 j hj).2⟩⟩
      refine ⟨_, ev, hZ.1, m_g (t_X6_delays_k hZ.1 nb ((g _ _ (by omega)).trans hB.2.1) hnb b hb K nu Hs Ds l hS2 f hf hf2) (by decide) (fun v s3 m3 r3 h => ?_)⟩
      obtain ⟨ev, f1, f2, f⟩ := h
      rw [f1, f2]
      have ff : ∀ a c, ¬ (a = 11 ∧ 5 ≤ c) → a ≠ 47 → a ≠ 48 → a ≠ 49 → m3 a c = mi a c := fun a c h1 h2 h3 h4 => (f a c h2 h3 h4).trans (g a c h1)
      refine ⟨ev, iv_E hZ hT hA hB hC hD (fun a c h => ff a c (by unfold wE at h; omega) (by unfold wE at h; omega) (by unfold wE at h; omega) (by unfold wE at h; omega)) ⟨K, nu, Hs, Ds, l, PL_12 (fun a c h => f a c (by omega) (by omega) (by omega)) (PL_ag g hP), ?_⟩⟩
      exact ⟨(f _ _ (by decide) (by decide) (by decide)).trans hS2.1, hS2.2.1, hS2.2.2.1, hS2.2.2.2.1, hS2.2.2.2.2.1, hS2.2.2.2.2.2.1, hS2.2.2.2.2.2.2.1, fun b hb => ⟨fun k hk => (f _ _ (by decide) (by decide) (by decide)).trans ((hS2.2.2.2.2.2.2.2.1 b hb).1 k hk), (f _ _ (by decide) (by decide) (by decide)).trans (hS2.2.2.2.2.2.2.2.1 b hb).2⟩, fun j hj => ⟨(f _ _ (by decide) (by decide) (by decide)).trans (hS2.2.2.2.2.2.2.2.2 j hj).1, (f _ _ (by decide) (by decide) (by decide)).trans (hS2.2.2.2.2.2.2.2.2 j hj).2⟩⟩
    · have hf3 : ∀ j, j < K → nu (l.getD j 0) ≠ b := fun j hj e => hf ⟨j, hj, e⟩
      exact op_q hI0 hZ.1 (t_X5_delays_n hZ.1 nb hB.1 hnb b hb hkb.1 hkb.2.1 hP hf3) (by decide) (t_X6_delays_n hZ.1 nb hB.2.1 hnb b hb K nu Hs Ds l hS hf3) (by decide)
  · exact op_q hI0 hZ.1 (t_X5_delays_u hZ.1 p1 hu) (by decide) (t_X6_delays_u hZ.1 p1 (by rw [hB.2.1, ← hB.1]; exact hu)) (by decide)
end OPE
