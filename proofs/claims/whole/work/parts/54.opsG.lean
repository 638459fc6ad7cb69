section OPG
variable {i : Nat} {sh : SH} {mi : MI} {mr : MR}
theorem op_gather (hI : Inv i sh mi mr) (p1 p2 : Int32) : OPi mX5_gather mX6_gather [pv_i p1, pv_i p2] i sh mi mr := by
  have hI0 := hI
  obtain ⟨nb, kb, at_, ns, ks, Wd, Hd, hZ, hT, hA, hB, hC, hD, hE⟩ := hI
  have hnb := hZ.2.2.1
  by_cases hu : 0 ≤ p1 ∧ p1 ≤ (mi 0 5) - 1
  · rw [hB.1] at hu
    obtain ⟨b, hb, rfl⟩ := (i_cases (by omega)).mp hu
    have hkb := hZ.2.2.2.2.1 b hb
    obtain ⟨q1, q2, q3, ⟨g, q4, q5, q6, q7, q8⟩, q9, q10, q11⟩ := hB.2.2.1 b hb
    have e30 : mi 30 b = mi (kb b) 6 := q3.trans q2.symm
    have hlt : (mi (kb b) 5 < 6) ↔ g < 6 := nl_lt q5 (show (6 : Int32) = nI 6 from rfl) (by omega) (by decide)
    have heq : (mi 31 b = 6) ↔ g = 6 := nl_eq q6 (show (6 : Int32) = nI 6 from rfl) (by omega) (by decide)
    refine op_g (t_X5_gather_k hZ.1 nb hB.1 hnb b hb hkb.1 hkb.2.1 p2 g q5 q4) (by decide) (by decide) (by decide) (fun v s2 m2 r2 h => ?_)
    rcases h with ⟨c1, c2, c3, e⟩ | ⟨c1, c2, c3, e⟩ | ⟨c1, c2, e⟩ | ⟨c1, e⟩
    · have hg := hlt.mp c3
      obtain ⟨ev, e1, e3, e2⟩ := e
      rw [e1, e2]
      obtain ⟨lv, l1, l2, rfl⟩ := i_rg (lo := 1) (hi := 16) (by decide) (by decide) c1
      rw [(al_n lv l2).1] at e3
      have hne : ∀ a c, ¬ (a = kb b + 1 ∧ c = g) → ¬ (a = kb b + 2 ∧ c = g) → ¬ (a = kb b ∧ c = 5) → m2 a c = mi a c := fun a c h1 h2 h3 => by
        rw [e3]
        simp only [up_2]
        rw [if_neg h3, if_neg h2, if_neg h1]
      have f1 : m2 (kb b + 1) g = nI lv := by rw [e3, up_ne (Or.inl (by omega)), up_ne (Or.inl (by omega)), up_at]
      have f2 : m2 (kb b + 2) g = nI (2 ^ lv - 1) := by rw [e3, up_ne (Or.inl (by omega)), up_at]
      have f5 : m2 (kb b) 5 = nI (g + 1) := by rw [e3, up_at, up_ne (Or.inl (by omega)), up_ne (Or.inl (by omega)), q5, nI_1]
      have er : (up_2 (up_2 (up_2 mi (kb b + 1) g (nI lv)) (kb b + 2) g ((1 <<< (nI lv &&& 31)) - 1)) (kb b) 5 ((up_2 (up_2 mi (kb b + 1) g (nI lv)) (kb b + 2) g ((1 <<< (nI lv &&& 31)) - 1)) (kb b) 5 + 1)) (kb b) 5 - 1 = nI g := by
        rw [up_at, up_ne (Or.inl (by omega)), up_ne (Or.inl (by omega)), q5, nI_1, nI_pred]
      rw [er] at ev
      have g31 : m2 31 b = nI g := (hne _ _ (by omega) (by omega) (by omega)).trans q6
      refine ⟨_, ev, hZ.1, m_g (t_X6_gather_k hZ.1 nb ((hne _ _ (by omega) (by omega) (by omega)).trans hB.2.1) hnb b hb (nI lv) g g31 q4) (by decide) (fun v s3 m3 r3 h => ?_)⟩
      rw [g31, show m2 30 b = mi (kb b) 6 from (hne _ _ (by omega) (by omega) (by omega)).trans e30] at h
      rcases h with ⟨d1, d2, d3, e⟩ | ⟨d1, d2, d3, e⟩ | ⟨d1, d2, e⟩ | ⟨d1, e⟩
      · obtain ⟨ev, e1, e3, e2⟩ := e
        rw [e1, e2]
        rw [(al_n lv l2).1] at e3
        have hnf : ∀ a c, ¬ (a = 32 ∧ c = 6 * b + g) → ¬ (a = 33 ∧ c = 6 * b + g) → ¬ (a = 31 ∧ c = b) → m3 a c = m2 a c := fun a c h1 h2 h3 => by
          rw [e3]
          simp only [up_2]
          rw [if_neg h3, if_neg h2, if_neg h1]
        have k1 : m3 32 (6 * b + g) = nI lv := by rw [e3, up_ne (Or.inl (by omega)), up_ne (Or.inl (by omega)), up_at]
        have k2 : m3 33 (6 * b + g) = nI (2 ^ lv - 1) := by rw [e3, up_ne (Or.inl (by omega)), up_at]
        have k5 : m3 31 b = nI (g + 1) := by rw [e3, up_at, up_ne (Or.inl (by omega)), up_ne (Or.inl (by omega)), g31, nI_1]
        have hpp := Nat.two_pow_pos lv
        have ff : ∀ a c, ¬ (a = kb b + 1 ∧ c = g) → ¬ (a = kb b + 2 ∧ c = g) → ¬ (a = kb b ∧ c = 5) → ¬ (a = 32 ∧ c = 6 * b + g) → ¬ (a = 33 ∧ c = 6 * b + g) → ¬ (a = 31 ∧ c = b) → m3 a c = mi a c := fun a c h1 h2 h3 h4 h5 h6 => (hnf a c h4 h5 h6).trans (hne a c h1 h2 h3)
        refine ⟨?_, iv_R hZ hT hA hB hC hD hE hb (fun a c h => ?_) ⟨q1, ?_, ?_, ⟨g + 1, by omega, ?_, k5, fun j hj => ?_, ?_⟩, BG_cg (fun j hj => ⟨ff _ _ (by omega) (by omega) (by omega) (by omega) (by omega) (by omega), ff _ _ (by omega) (by omega) (by omega) (by omega) (by omega) (by omega), ff _ _ (by omega) (by omega) (by omega) (by omega) (by omega) (by omega), ff _ _ (by omega) (by omega) (by omega) (by omega) (by omega) (by omega)⟩) q9, BH_cg (fun j hj => ⟨ff _ _ (by omega) (by omega) (by omega) (by omega) (by omega) (by omega), ff _ _ (by omega) (by omega) (by omega) (by omega) (by omega) (by omega)⟩) q10, BP_cg ⟨ff _ _ (by omega) (by omega) (by omega) (by omega) (by omega) (by omega), ff _ _ (by omega) (by omega) (by omega) (by omega) (by omega) (by omega), ff _ _ (by omega) (by omega) (by omega) (by omega) (by omega) (by omega), ff _ _ (by omega) (by omega) (by omega) (by omega) (by omega) (by omega), ff _ _ (by omega) (by omega) (by omega) (by omega) (by omega) (by omega), ff _ _ (by omega) (by omega) (by omega) (by omega) (by omega) (by omega)⟩ q11⟩⟩
        · rw [ev, up_at, up_ne (Or.inl (by omega)), up_ne (Or.inl (by omega)), g31, nI_1, nI_pred]
        · unfold wR at h
          exact ff a c (by omega) (by omega) (by omega) (by omega) (by omega) (by omega)
        · exact (ff _ _ (by omega) (by omega) (by omega) (by omega) (by omega) (by omega)).trans q2
        · exact (ff _ _ (by omega) (by omega) (by omega) (by omega) (by omega) (by omega)).trans q3
        · exact (hnf _ _ (by omega) (by omega) (by omega)).trans f5
        · by_cases ej : j = g
          · subst ej
            exact ⟨lv, 2 ^ lv - 1, l1, l2, (hnf _ _ (by omega) (by omega) (by omega)).trans f1, k1, by omega, (hnf _ _ (by omega) (by omega) (by omega)).trans f2, k2⟩
          · obtain ⟨x, y, x1, x2, x3, x4, x5, x6, x7⟩ := q7 j (by omega)
            exact ⟨x, y, x1, x2, (ff _ _ (by omega) (by omega) (by omega) (by omega) (by omega) (by omega)).trans x3, (ff _ _ (by omega) (by omega) (by omega) (by omega) (by omega) (by omega)).trans x4, x5, (ff _ _ (by omega) (by omega) (by omega) (by omega) (by omega) (by omega)).trans x6, (ff _ _ (by omega) (by omega) (by omega) (by omega) (by omega) (by omega)).trans x7⟩
        · obtain ⟨lm, y1, y2, y3, y4⟩ := q8
          refine ⟨lm, by rw [Nat.pow_succ]; omega, (ff _ _ (by omega) (by omega) (by omega) (by omega) (by omega) (by omega)).trans y2, fun j hj => ?_, fun j h1 h2 => (ff _ _ (by omega) (by omega) (by omega) (by omega) (by omega) (by omega)).trans (y4 j (by omega) h2)⟩
          rw [ff _ _ (by omega) (by omega) (by omega) (by omega) (by omega) (by omega)]
          by_cases ej : j = g
          · subst ej
            rw [y4 j (Nat.le_refl j) (by omega), Nat.testBit_lt_two_pow y1]
            rfl
          · exact y3 j (by omega)
      · exfalso
        have := (nI_eq (a := g) (b := 6) (by omega) (by decide)).mp d3
        omega
      · contradiction
      · contradiction
    · have hg : ¬ g < 6 := fun q => c3 (hlt.mpr q)
      refine op_l e hZ.1 (m_g (t_X6_gather_k hZ.1 nb hB.2.1 hnb b hb p2 g q6 q4) (by decide) (fun v s3 m3 r3 h => ?_))
      rw [e30] at h
      rcases h with ⟨d1, d2, d3, e⟩ | ⟨d1, d2, d3, e⟩ | ⟨d1, d2, e⟩ | ⟨d1, e⟩
      · exact absurd (heq.mpr (by omega)) d3
      all_goals first | contradiction | exact m_l e rfl (iv_S hI0)
    · refine op_l e hZ.1 (m_g (t_X6_gather_k hZ.1 nb hB.2.1 hnb b hb p2 g q6 q4) (by decide) (fun v s3 m3 r3 h => ?_))
      rw [e30] at h
      rcases h with ⟨d1, d2, d3, e⟩ | ⟨d1, d2, d3, e⟩ | ⟨d1, d2, e⟩ | ⟨d1, e⟩
      all_goals first | contradiction | exact m_l e rfl (iv_S hI0)
    · refine op_l e hZ.1 (m_g (t_X6_gather_k hZ.1 nb hB.2.1 hnb b hb p2 g q6 q4) (by decide) (fun v s3 m3 r3 h => ?_))
      rcases h with ⟨d1, d2, d3, e⟩ | ⟨d1, d2, d3, e⟩ | ⟨d1, d2, e⟩ | ⟨d1, e⟩
      all_goals first | contradiction | exact m_l e rfl (iv_S hI0)
  · exact op_q hI0 hZ.1 (t_X5_gather_u hZ.1 p1 hu p2) (by decide) (t_X6_gather_u hZ.1 p1 p2 (by rw [hB.2.1, ← hB.1]; exact hu)) (by decide)
theorem op_look (hI : Inv i sh mi mr) (p1 p2 p3 : Int32) : OPi mX5_look mX6_look [pv_i p1, pv_i p2, pv_i p3] i sh mi mr := by
  have hI0 := hI
  obtain ⟨nb, kb, at_, ns, ks, Wd, Hd, hZ, hT, hA, hB, hC, hD, hE⟩ := hI
  have hnb := hZ.2.2.1
  by_cases hu : 0 ≤ p1 ∧ p1 ≤ (mi 0 5) - 1
  · rw [hB.1] at hu
    obtain ⟨b, hb, rfl⟩ := (i_cases (by omega)).mp hu
    have hkb := hZ.2.2.2.2.1 b hb
    obtain ⟨q1, q2, q3, ⟨g, q4, q5, q6, q7, q8⟩, q9, q10, q11⟩ := hB.2.2.1 b hb
    have e30 : mi 30 b = mi (kb b) 6 := q3.trans q2.symm
    by_cases hv : 0 ≤ p2 ∧ p2 ≤ (mi (kb b) 5) - 1
    · rw [q5] at hv
      obtain ⟨j, hj, rfl⟩ := (i_cases (by omega)).mp hv
      obtain ⟨lv, bv, l1, l2, l3, l4, l5, l6, l7⟩ := q7 j hj
      have h5 := t_X5_look_k hZ.1 nb hB.1 hnb b hb hkb.1 hkb.2.1 g q5 q4 (at_ b) q2 q1 j hj p3
      rw [l3] at h5
      refine op_g h5 (by decide) (by decide) (by decide) (fun v s2 m2 r2 h => ?_)
      rcases h with ⟨c1, c2, e⟩ | ⟨c1, c2, e⟩ | ⟨c1, e⟩
      · obtain ⟨u, hu, rfl⟩ := (lk_5 l2).mp c1
        have hp16 := p2_16 lv l2
        have ha5 : at_ b < 5 := by
          have := (not_congr (nl_eq q2 (show (5 : Int32) = nI 5 from rfl) (by omega) (by decide))).mp c2
          omega
        obtain ⟨ev, e1, e3, e2⟩ := e
        rw [e1, e2]
        rw [l6] at ev e3
        obtain ⟨lm, y1, y2, y3, y4⟩ := q8
        have hne : ∀ a c, ¬ (a = kb b + 3 ∧ c = at_ b) → ¬ (a = kb b + 4 ∧ c = at_ b) → ¬ (a = kb b + 2 ∧ c = j) → ¬ (a = kb b ∧ c = 7) → m2 a c = mi a c := fun a c h1 h2 h3 h4 => by
          rw [e3]
          simp only [up_2]
          rw [if_neg h4, if_neg h3, if_neg h2, if_neg h1]
        have f3 : m2 (kb b + 3) (at_ b) = mi (kb b + 3) (at_ b) + bc (nI bv &&& (nI u ^^^ (-1))) := by rw [e3, up_ne (Or.inl (by omega)), up_ne (Or.inl (by omega)), up_ne (Or.inl (by omega)), up_at]
        have f4 : m2 (kb b + 4) (at_ b) = mi (kb b + 4) (at_ b) + bc (nI u &&& (nI bv ^^^ (-1))) := by rw [e3, up_ne (Or.inl (by omega)), up_ne (Or.inl (by omega)), up_at, up_ne (Or.inl (by omega))]
        have f2 : m2 (kb b + 2) j = nI u := by rw [e3, up_ne (Or.inl (by omega)), up_at]
        have f7 : m2 (kb b) 7 = nI (lm ||| 2 ^ j) := by
          rw [e3, up_at, up_ne (Or.inl (by omega)), up_ne (Or.inl (by omega)), up_ne (Or.inl (by omega)), y2, or_10 j (by omega) lm (Nat.lt_of_lt_of_le y1 (p2_10 g (by omega)))]
        have t1 : bc (nI bv &&& (nI u ^^^ (-1))) = mn (nI bv &&& (nI u ^^^ (-1))) 16 := bc_an (by omega) _
        have t2 : bc (nI u &&& (nI bv ^^^ (-1))) = mn (nI u &&& (nI bv ^^^ (-1))) 16 := bc_an (by omega) _
        have g31 : m2 31 b = nI g := (hne _ _ (by omega) (by omega) (by omega) (by omega)).trans q6
        have g30 : m2 30 b = nI (at_ b) := (hne _ _ (by omega) (by omega) (by omega) (by omega)).trans q3
        have g32 : m2 32 (6 * b + j) = nI lv := (hne _ _ (by omega) (by omega) (by omega) (by omega)).trans l4
        have g33 : m2 33 (6 * b + j) = nI bv := (hne _ _ (by omega) (by omega) (by omega) (by omega)).trans l7
        have h6 := t_X6_look_k hZ.1 (mi := m2) nb ((hne _ _ (by omega) (by omega) (by omega) (by omega)).trans hB.2.1) hnb b hb g g31 q4 (at_ b) g30 q1 j hj (nI u)
        rw [g32, g33] at h6
        refine ⟨_, ev, hZ.1, m_g h6 (by decide) (fun v s3 m3 r3 h => ?_)⟩
        rcases h with ⟨d1, d2, e⟩ | ⟨d1, d2, e⟩ | ⟨d1, e⟩
        · obtain ⟨ev, e1, e3, e2⟩ := e
          rw [e1, e2]
          have hnf : ∀ a c, ¬ (a = 35 ∧ c = 5 * b + at_ b) → ¬ (a = 36 ∧ c = 5 * b + at_ b) → ¬ (a = 33 ∧ c = 6 * b + j) → ¬ (a = 34 ∧ c = 6 * b + j) → m3 a c = m2 a c := fun a c h1 h2 h3 h4 => by
            rw [e3]
            simp only [up_2]
            rw [if_neg h4, if_neg h3, if_neg h2, if_neg h1]
          have k35 : m3 35 (5 * b + at_ b) = m2 35 (5 * b + at_ b) + mn (nI bv &&& (nI u ^^^ (-1))) 16 := by rw [e3, up_ne (Or.inl (by omega)), up_ne (Or.inl (by omega)), up_ne (Or.inl (by omega)), up_at]
          have k36 : m3 36 (5 * b + at_ b) = m2 36 (5 * b + at_ b) + mn (nI u &&& (nI bv ^^^ (-1))) 16 := by rw [e3, up_ne (Or.inl (by omega)), up_ne (Or.inl (by omega)), up_at, up_ne (Or.inl (by omega))]
          have k33 : m3 33 (6 * b + j) = nI u := by rw [e3, up_ne (Or.inl (by omega)), up_at]
          have k34 : m3 34 (6 * b + j) = 1 := by rw [e3, up_at]
          have ff : ∀ a c, ¬ (a = kb b + 3 ∧ c = at_ b) → ¬ (a = kb b + 4 ∧ c = at_ b) → ¬ (a = kb b + 2 ∧ c = j) → ¬ (a = kb b ∧ c = 7) → ¬ (a = 35 ∧ c = 5 * b + at_ b) → ¬ (a = 36 ∧ c = 5 * b + at_ b) → ¬ (a = 33 ∧ c = 6 * b + j) → ¬ (a = 34 ∧ c = 6 * b + j) → m3 a c = mi a c := fun a c h1 h2 h3 h4 h5 h6 h7 h8 => (hnf a c h5 h6 h7 h8).trans (hne a c h1 h2 h3 h4)
          have fg : ∀ a c, ¬ ((a = kb b + 3 ∧ c = at_ b) ∨ (a = kb b + 4 ∧ c = at_ b) ∨ (a = kb b + 2 ∧ c = j) ∨ (a = kb b ∧ c = 7) ∨ (a = 35 ∧ c = 5 * b + at_ b) ∨ (a = 36 ∧ c = 5 * b + at_ b) ∨ (a = 33 ∧ c = 6 * b + j) ∨ (a = 34 ∧ c = 6 * b + j)) → m3 a c = mi a c := fun a c h => ff a c (by omega) (by omega) (by omega) (by omega) (by omega) (by omega) (by omega) (by omega)
          refine ⟨?_, iv_R hZ hT hA hB hC hD hE hb (fun a c h => fg a c (by unfold wR at h; omega)) ⟨q1, (fg _ _ (by omega)).trans q2, (fg _ _ (by omega)).trans q3, ⟨g, q4, (fg _ _ (by omega)).trans q5, (fg _ _ (by omega)).trans q6, fun j2 hj2 => ?_, lm ||| 2 ^ j, Nat.or_lt_two_pow y1 (Nat.pow_lt_pow_right (by decide) hj), (hnf _ _ (by omega) (by omega) (by omega) (by omega)).trans f7, fun j2 hj2 => ?_, fun j2 h1 h2 => (fg _ _ (by omega)).trans (y4 j2 h1 h2)⟩, fun k hk => ?_, BH_cg (fun k hk => ⟨fg _ _ (by omega), fg _ _ (by omega)⟩) q10, BP_cg ⟨fg _ _ (by omega), fg _ _ (by omega), fg _ _ (by omega), fg _ _ (by omega), fg _ _ (by omega), fg _ _ (by omega)⟩ q11⟩⟩
          · rw [ev, t1, t2]
          · by_cases ej : j2 = j
            · subst ej
              exact ⟨lv, u, l1, l2, (fg _ _ (by omega)).trans l3, (fg _ _ (by omega)).trans l4, hu, (hnf _ _ (by omega) (by omega) (by omega) (by omega)).trans f2, k33⟩
            · obtain ⟨x, y, x1, x2, x3, x4, x5, x6, x7⟩ := q7 j2 hj2
              exact ⟨x, y, x1, x2, (fg _ _ (by omega)).trans x3, (fg _ _ (by omega)).trans x4, x5, (fg _ _ (by omega)).trans x6, (fg _ _ (by omega)).trans x7⟩
          · by_cases ej : j2 = j
            · subst ej
              rw [k34, if_pos (bit_or.mpr (Or.inr rfl))]
            · rw [fg _ _ (by omega), y3 j2 hj2]
              by_cases et : lm.testBit j2 = true
              · rw [if_pos et, if_pos (bit_or.mpr (Or.inl et))]
              · rw [if_neg et, if_neg (fun q => (bit_or.mp q).elim et ej)]
          · by_cases ek : k = at_ b
            · subst ek
              refine ⟨?_, ?_⟩
              · rw [k35, hnf (kb b + 3) _ (by omega) (by omega) (by omega) (by omega), f3, hne 35 _ (by omega) (by omega) (by omega) (by omega), t1, (q9 _ hk).1]
              · rw [k36, hnf (kb b + 4) _ (by omega) (by omega) (by omega) (by omega), f4, hne 36 _ (by omega) (by omega) (by omega) (by omega), t2, (q9 _ hk).2]
            · rw [fg 35 _ (by omega), fg 36 _ (by omega), fg (kb b + 3) _ (by omega), fg (kb b + 4) _ (by omega)]
              exact q9 k hk
        · exfalso
          have := (nl_eq g30 (show (5 : Int32) = nI 5 from rfl) (by omega) (by decide)).mp d2
          omega
        · exact absurd ((lk_6 l2).mpr ⟨u, hu, rfl⟩) d1
      · have h6 := t_X6_look_k hZ.1 nb hB.2.1 hnb b hb g q6 q4 (at_ b) q3 q1 j hj p3
        rw [l4, e30] at h6
        refine op_l e hZ.1 (m_g h6 (by decide) (fun v s3 m3 r3 h => ?_))
        rcases h with ⟨d1, d2, e⟩ | ⟨d1, d2, e⟩ | ⟨d1, e⟩
        · contradiction
        · exact m_l e rfl (iv_S hI0)
        · exact absurd ((lk_6 l2).mpr ((lk_5 l2).mp c1)) d1
      · have h6 := t_X6_look_k hZ.1 nb hB.2.1 hnb b hb g q6 q4 (at_ b) q3 q1 j hj p3
        rw [l4, e30] at h6
        refine op_l e hZ.1 (m_g h6 (by decide) (fun v s3 m3 r3 h => ?_))
        rcases h with ⟨d1, d2, e⟩ | ⟨d1, d2, e⟩ | ⟨d1, e⟩
        · exact absurd ((lk_5 l2).mpr ((lk_6 l2).mp d1)) c1
        · exact absurd ((lk_5 l2).mpr ((lk_6 l2).mp d1)) c1
        · exact m_l e rfl (iv_S hI0)
    · exact op_q hI0 hZ.1 (t_X5_look_g hZ.1 nb hB.1 hnb b hb hkb.1 hkb.2.1 p2 p3 hv) (by decide) (t_X6_look_g hZ.1 nb hB.2.1 hnb b hb p2 p3 (by rw [q6, ← q5]; exact hv)) (by decide)
  · exact op_q hI0 hZ.1 (t_X5_look_u hZ.1 p1 hu p2 p3) (by decide) (t_X6_look_u hZ.1 p1 p2 p3 (by rw [hB.2.1, ← hB.1]; exact hu)) (by decide)
theorem sN_le {f : Nat → Nat} {b : Nat} : ∀ k, (∀ x, x < k → f x ≤ 5) → sN f k + (if b < k then 5 - f b else 0) ≤ 5 * k
  | 0, _ => by simp [sN]
  | k + 1, h => by
    have ih := sN_le (f := f) (b := b) k (fun x hx => h x (by omega))
    have := h k (by omega)
    simp only [sN]
    by_cases e : b = k
    · subst e
      rw [if_neg (by omega)] at ih
      rw [if_pos (by omega)]
      omega
    · by_cases e2 : b < k
      · rw [if_pos e2] at ih
        rw [if_pos (by omega)]
        omega
      · rw [if_neg e2] at ih
        rw [if_neg (by omega)]
        omega
theorem sN_up {f : Nat → Nat} {b : Nat} : ∀ k, sN (fun x => if x = b then f b + 1 else f x) k = sN f k + (if b < k then 1 else 0)
  | 0 => by simp [sN]
  | k + 1 => by
    have ih := sN_up (f := f) (b := b) k
    simp only [sN]
    rw [ih]
    by_cases e : k = b
    · subst e
      simp
      omega
    · rw [if_neg e]
      by_cases e2 : b < k
      · rw [if_pos e2, if_pos (by omega)]
        omega
      · rw [if_neg e2, if_neg (by omega)]
        omega
theorem op_pass (hI : Inv i sh mi mr) (p1 : Int32) : OPi mX5_pass mX6_pass [pv_i p1] i sh mi mr := by
  have hI0 := hI
  obtain ⟨nb, kb, at_, ns, ks, Wd, Hd, hZ, hT, hA, hB, hC, hD, hE⟩ := hI
  have hnb := hZ.2.2.1
  by_cases hu : 0 ≤ p1 ∧ p1 ≤ (mi 0 5) - 1
  · rw [hB.1] at hu
    obtain ⟨b, hb, rfl⟩ := (i_cases (by omega)).mp hu
    have hkb := hZ.2.2.2.2.1 b hb
    obtain ⟨q1, q2, q3, ⟨g, q4, q5, q6, q7, lm, y1, y2, y3, y4⟩, q9, q10, q11⟩ := hB.2.2.1 b hb
    by_cases h5 : at_ b = 5
    · have e5 : mi (kb b) 6 = 5 := by rw [q2, h5]; rfl
      exact op_q hI0 hZ.1 (t_X5_pass_e hZ.1 nb hB.1 hnb b hb hkb.1 hkb.2.1 e5) (by decide) (t_X6_pass_e hZ.1 nb hB.2.1 hnb b hb g q6 q4 (by rw [q3, h5]; decide)) (by decide)
    · have hA0 := hA
      obtain ⟨D, n, a1, a2, a3, a4, a5, a6, a7, a8, a9, a10⟩ := hA
      have hm50 : sN at_ nb < 50 := by
        have := sN_le (f := at_) (b := b) nb (fun x hx => (hB.2.2.1 x hx).1)
        rw [if_pos hb] at this
        omega
      have hc5 : (¬ mi (kb b) 6 = 5 ∧ ¬ mi (kb b) 5 ≤ 0 ∧ mi (kb b) 7 = (1 <<< (mi (kb b) 5 &&& 31)) - 1) ↔ (1 ≤ g ∧ lm = 2 ^ g - 1) := by
        have hp := p2_16 g (by omega)
        have hp2 := Nat.two_pow_pos g
        rw [q5, y2, (al_n g (by omega)).1]
        have e1 : ¬ mi (kb b) 6 = 5 := fun q => h5 ((nl_eq q2 (show (5 : Int32) = nI 5 from rfl) (by omega) (by decide)).mp q)
        have e2 : (¬ nI g ≤ 0) ↔ 1 ≤ g := (not_congr (nI_leI (b := 0) (by omega) (by decide))).trans (by omega)
        have e3 : nI lm = nI (2 ^ g - 1) ↔ lm = 2 ^ g - 1 := nI_eq (by omega) (by omega)
        rw [e2, e3]
        exact ⟨fun q => q.2, fun q => ⟨e1, q⟩⟩
      refine op_g (t_X5_pass_k hZ.1 nb hB.1 hnb b hb hkb.1 hkb.2.1 _ a8 hm50) (by decide) (by decide) (by decide) (fun v s2 m2 r2 h => ?_)
      have hc6 : ∀ m2 : MI, m2 30 b = nI (at_ b) → m2 31 b = nI g → (∀ k, k < g → m2 34 (6 * b + k) = (if lm.testBit k = true then 1 else 0)) → (((¬ 5 ≤ m2 30 b ∧ ¬ m2 31 b ≤ 0) ∧ ∀ k, k < g → ¬ m2 34 (6 * b + k) = 0) ↔ (1 ≤ g ∧ lm = 2 ^ g - 1)) := fun m2 z1 z2 z3 => by
        rw [z1, z2]
        have e1 : ¬ (5 : Int32) ≤ nI (at_ b) := fun q => by
          have := (nI_leI (a := 5) (by decide) (by omega)).mp q
          omega
        have e2 : (¬ nI g ≤ 0) ↔ 1 ≤ g := (not_congr (nI_leI (b := 0) (by omega) (by decide))).trans (by omega)
        rw [e2, lm_6 g q4 lm y1]
        constructor
        · rintro ⟨⟨-, w1⟩, w2⟩
          refine ⟨w1, fun k hk => Classical.byContradiction (fun q => w2 k hk ?_)⟩
          rw [z3 k hk, if_neg q]
        · rintro ⟨w1, w2⟩
          refine ⟨⟨e1, w1⟩, fun k hk => ?_⟩
          rw [z3 k hk, if_pos (w2 k hk)]
          decide
      rcases h with ⟨c1, e⟩ | ⟨c1, e⟩
      · rw [hc5] at c1
        obtain ⟨ev, e1, e3, e2⟩ := e
        rw [e1, e2]
        have hne : ∀ a c, ¬ (a = 27 ∧ c = sN at_ nb) → ¬ (a = 28 ∧ c = sN at_ nb) → ¬ (a = 22 ∧ c = 1) → ¬ (a = kb b ∧ (c = 6 ∨ c = 7)) → m2 a c = mi a c := fun a c h1 h2 h3 h4 => by
          rw [e3]
          simp only [up_2]
          repeat rw [if_neg (by omega)]
        have f27 : m2 27 (sN at_ nb) = nI (at_ b) := by rw [e3, up_ne (Or.inl (by omega)), up_ne (Or.inl (by omega)), up_ne (Or.inl (by omega)), up_ne (Or.inl (by omega)), up_at, q2]
        have f28 : m2 28 (sN at_ nb) = nI D := by rw [e3, up_ne (Or.inl (by omega)), up_ne (Or.inl (by omega)), up_ne (Or.inl (by omega)), up_at, a2]
        have f22 : m2 22 1 = nI (sN at_ nb + 1) := by rw [e3, up_ne (Or.inl (by omega)), up_ne (Or.inl (by omega)), up_at, up_ne (Or.inl (by omega)), up_ne (Or.inl (by omega)), a8, nI_1]
        have f6 : m2 (kb b) 6 = nI (at_ b + 1) := by rw [e3, up_ne (Or.inr (by decide)), up_at, up_ne (Or.inl (by omega)), up_ne (Or.inl (by omega)), up_ne (Or.inl (by omega)), q2, nI_1]
        have f7 : m2 (kb b) 7 = 0 := by rw [e3, up_at]
        rw [← e3, f6] at ev
        have g30 : m2 30 b = nI (at_ b) := (hne _ _ (by omega) (by omega) (by omega) (by omega)).trans q3
        have g31 : m2 31 b = nI g := (hne _ _ (by omega) (by omega) (by omega) (by omega)).trans q6
        have g13 : m2 29 13 = nI (sN at_ nb) := (hne _ _ (by omega) (by omega) (by omega) (by omega)).trans a9
        have g0 : m2 29 0 = nI D := (hne _ _ (by omega) (by omega) (by omega) (by omega)).trans a3
        have hc := hc6 m2 g30 g31 (fun k hk => (hne _ _ (by omega) (by omega) (by omega) (by omega)).trans (y3 k hk))
        refine ⟨_, ev, hZ.1, m_g (t_X6_pass_k hZ.1 nb ((hne _ _ (by omega) (by omega) (by omega) (by omega)).trans hB.2.1) hnb b hb g g31 q4 _ g13 hm50) (by decide) (fun v s3 m3 r3 h => ?_)⟩
        rcases h with ⟨d1, e⟩ | ⟨d1, e⟩
        · exact absurd (hc.mpr c1) d1
        · obtain ⟨ev, e1, e3, e2⟩ := e
          rw [e1, e2]
          have hnf : ∀ a c, ¬ (a = 41 ∧ c = sN at_ nb) → ¬ (a = 42 ∧ c = sN at_ nb) → ¬ (a = 29 ∧ c = 13) → ¬ (a = 30 ∧ c = b) → ¬ (a = 34 ∧ 6 * b ≤ c ∧ c < 6 * b + 6) → m3 a c = m2 a c := fun a c h1 h2 h3 h4 h5 => by
            rw [e3]
            simp only [up_2, fl_r]
            repeat rw [if_neg (by omega)]
          have k41 : m3 41 (sN at_ nb) = nI (at_ b) := by rw [e3, fl_ne (by omega), up_ne (Or.inl (by omega)), up_ne (Or.inl (by omega)), up_ne (Or.inl (by omega)), up_at, g30]
          have k42 : m3 42 (sN at_ nb) = nI D := by rw [e3, fl_ne (by omega), up_ne (Or.inl (by omega)), up_ne (Or.inl (by omega)), up_at, up_ne (Or.inl (by omega)), g0]
          have k13 : m3 29 13 = nI (sN at_ nb + 1) := by rw [e3, fl_ne (by omega), up_ne (Or.inl (by omega)), up_at, up_ne (Or.inl (by omega)), up_ne (Or.inl (by omega)), g13, nI_1]
          have k30 : m3 30 b = nI (at_ b + 1) := by rw [e3, fl_ne (by omega), up_at, up_ne (Or.inl (by omega)), up_ne (Or.inl (by omega)), up_ne (Or.inl (by omega)), g30, nI_1]
          have k34 : ∀ j, j < 6 → m3 34 (6 * b + j) = 0 := fun j hj => by
            rw [e3]
            simp only [fl_r]
            rw [if_pos ⟨trivial, by omega, by omega⟩]
          rw [← e3, k30] at ev
          have fg : ∀ a c, ¬ ((a = 27 ∧ c = sN at_ nb) ∨ (a = 28 ∧ c = sN at_ nb) ∨ (a = 22 ∧ c = 1) ∨ (a = kb b ∧ (c = 6 ∨ c = 7)) ∨ (a = 41 ∧ c = sN at_ nb) ∨ (a = 42 ∧ c = sN at_ nb) ∨ (a = 29 ∧ c = 13) ∨ (a = 30 ∧ c = b) ∨ (a = 34 ∧ 6 * b ≤ c ∧ c < 6 * b + 6)) → m3 a c = mi a c := fun a c h => (hnf a c (by omega) (by omega) (by omega) (by omega) (by omega)).trans (hne a c (by omega) (by omega) (by omega) (by omega))
          have hs : sN (fun x => if x = b then at_ b + 1 else at_ x) nb = sN at_ nb + 1 := by rw [sN_up, if_pos hb]
          refine ⟨ev, iv_B (at2 := fun x => if x = b then at_ b + 1 else at_ x) hZ hT ?_ hC hD hE (fun a c h1 h2 => ?_) (iv_R2 hZ hB hb (fun x hx => if_neg hx) (fun a c h1 h2 => ?_) ?_)⟩
          · rw [hs]
            refine ⟨D, n, a1, (fg _ _ (by omega)).trans a2, (fg _ _ (by omega)).trans a3, a4, (fg _ _ (by omega)).trans a5, (fg _ _ (by omega)).trans a6, fun j hj => ?_, (hnf _ _ (by omega) (by omega) (by omega) (by omega) (by omega)).trans f22, k13, fun j hj => ?_⟩
            · rw [fg 63 _ (by omega), fg 64 _ (by omega), fg 65 _ (by omega), fg 66 _ (by omega), fg 23 _ (by omega), fg 24 _ (by omega), fg 25 _ (by omega), fg 26 _ (by omega)]
              exact a7 j hj
            · by_cases ej : j = sN at_ nb
              · subst ej
                rw [k41, k42, hnf 27 _ (by omega) (by omega) (by omega) (by omega) (by omega), hnf 28 _ (by omega) (by omega) (by omega) (by omega) (by omega), f27, f28]
                exact ⟨rfl, rfl⟩
              · rw [fg 41 _ (by omega), fg 42 _ (by omega), fg 27 _ (by omega), fg 28 _ (by omega)]
                exact a10 j (by omega)
          · have h3 : ¬ wR (kb b) b a c := fun w => h2 (wR_B hb w)
            unfold wA at h1
            unfold wR at h3
            exact fg a c (by omega)
          · unfold wA at h1
            unfold wR at h2
            exact fg a c (by omega)
          · simp only [if_true]
            exact ⟨by omega, (hnf _ _ (by omega) (by omega) (by omega) (by omega) (by omega)).trans f6, k30, ⟨g, q4, (fg _ _ (by omega)).trans q5, (fg _ _ (by omega)).trans q6, BL_cg (fun j hj => ⟨fg _ _ (by omega), fg _ _ (by omega), fg _ _ (by omega), fg _ _ (by omega)⟩) q7, 0, Nat.two_pow_pos g, (hnf _ _ (by omega) (by omega) (by omega) (by omega) (by omega)).trans f7, fun j hj => by rw [k34 j (by omega)]; simp, fun j h1 h2 => k34 j h2⟩, BG_cg (fun k hk => ⟨fg _ _ (by omega), fg _ _ (by omega), fg _ _ (by omega), fg _ _ (by omega)⟩) q9, BH_cg (fun k hk => ⟨fg _ _ (by omega), fg _ _ (by omega)⟩) q10, BP_cg ⟨fg _ _ (by omega), fg _ _ (by omega), fg _ _ (by omega), fg _ _ (by omega), fg _ _ (by omega), fg _ _ (by omega)⟩ q11⟩
      · rw [hc5] at c1
        refine op_l e hZ.1 (m_g (t_X6_pass_k hZ.1 nb hB.2.1 hnb b hb g q6 q4 _ a9 hm50) (by decide) (fun v s3 m3 r3 h => ?_))
        rcases h with ⟨d1, e⟩ | ⟨d1, e⟩
        · exact m_l e rfl (iv_S hI0)
        · exact absurd ((hc6 mi q3 q6 y3).mp d1) c1
  · exact op_q hI0 hZ.1 (t_X5_pass_u hZ.1 p1 hu) (by decide) (t_X6_pass_u hZ.1 p1 (by rw [hB.2.1, ← hB.1]; exact hu)) (by decide)
end OPG
