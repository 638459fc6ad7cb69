section OPK
variable {i : Nat} {sh : SH} {mi : MI} {mr : MR}
theorem iD_set {m : MI} {nb ns s : Nat} {kb ks Wd Hd : Nat → Nat} {tn : Nat → Int32} {S : Nat → (Nat → Nat → Int32) × Nat} {g : Nat → Nat → Int32} {C : Nat} (hZ : iZ sh mr nb kb ns ks Wd Hd) (y1 : mi 0 6 = nI ns) (y2 : mi 29 34 = nI ns) (y3 : ∀ s, s < ns → mi (ks s) 0 = tn s) (y4 : ms_c mi ns ks Wd Hd S) (y5 : mm_c mi ns Wd Hd tn S) (y6 : ∀ s, s < ns → (S s).2 ≤ 8 * i ∧ gi_g (Wd s) (Hd s) (S s).2 (S s).1) (y7 : ∀ c, 144 * ns ≤ c → c < 864 → mi 59 c = 0) (y8 : ∀ s, ns ≤ s → s < 6 → mi 60 s = 0) (hs : s < ns) (hf : ∀ a c, a ≠ ks s + 1 → ¬ (a = ks s ∧ c = 4) → a ≠ 59 → ¬ (a = 60 ∧ c = s) → m a c = mi a c) (h1 : ∀ x y, x < Wd s → y < Hd s → m (ks s + 1) (y * Wd s + x) = g x y) (h2 : m (ks s) 4 = nI C) (h3 : ∀ x y, x < Wd s → y < Hd s → m 59 (144 * s + 12 * y + x) = g x y) (h4 : ∀ c, (∀ x y, x < Wd s → y < Hd s → c ≠ 144 * s + 12 * y + x) → m 59 c = mi 59 c) (h5 : m 60 s = nI C) (h6 : C ≤ 8 * (i + 1)) (h7 : gi_g (Wd s) (Hd s) C g) : iD (i + 1) ns ks Wd Hd m := by
  have hks := (hZ.2.2.2.2.2.2.1.2.1 s hs)
  refine ⟨tn, fun t => if t = s then (g, C) else S t, (hf _ _ (by omega) (by omega) (by omega) (by omega)).trans y1, (hf _ _ (by omega) (by omega) (by omega) (by omega)).trans y2, fun t ht => ?_, fun t ht => ?_, fun t ht => ?_, fun t ht => ?_, fun c c1 c2 => ?_, fun t t1 t2 => (hf _ _ (by omega) (by omega) (by omega) (by omega)).trans (y8 t t1 t2)⟩
  · have hkt := (hZ.2.2.2.2.2.2.1.2.1 t ht)
    by_cases e : t = s
    · subst e
      exact (hf _ _ (by omega) (by omega) (by omega) (by omega)).trans (y3 t ht)
    · have hd : ks t + 2 ≤ ks s ∨ ks s + 2 ≤ ks t := by
        rcases Nat.lt_or_gt_of_ne e with q | q
        · exact Or.inl (hZ.2.2.2.2.2.2.1.2.2 t s q hs)
        · exact Or.inr (hZ.2.2.2.2.2.2.1.2.2 s t q ht)
      exact (hf _ _ (by omega) (by omega) (by omega) (by omega)).trans (y3 t ht)
  · have hkt := (hZ.2.2.2.2.2.2.1.2.1 t ht)
    by_cases e : t = s
    · subst e
      simp only [if_true]
      obtain ⟨c1, c2, c3, c4⟩ := y4 t ht
      exact ⟨(hf _ _ (by omega) (by omega) (by omega) (by omega)).trans c1, (hf _ _ (by omega) (by omega) (by omega) (by omega)).trans c2, h2, h1⟩
    · have hd : ks t + 2 ≤ ks s ∨ ks s + 2 ≤ ks t := by
        rcases Nat.lt_or_gt_of_ne e with q | q
        · exact Or.inl (hZ.2.2.2.2.2.2.1.2.2 t s q hs)
        · exact Or.inr (hZ.2.2.2.2.2.2.1.2.2 s t q ht)
      obtain ⟨c1, c2, c3, c4⟩ := y4 t ht
      simp only [if_neg e]
      exact ⟨(hf _ _ (by omega) (by omega) (by omega) (by omega)).trans c1, (hf _ _ (by omega) (by omega) (by omega) (by omega)).trans c2, (hf _ _ (by omega) (by omega) (by omega) (by omega)).trans c3, fun x y hx hy => (hf _ _ (by omega) (by omega) (by omega) (by omega)).trans (c4 x y hx hy)⟩
  · have hkt := (hZ.2.2.2.2.2.2.1.2.1 t ht)
    obtain ⟨c1, c2, c3, c4, c5⟩ := y5 t ht
    by_cases e : t = s
    · subst e
      simp only [if_true]
      exact ⟨(hf _ _ (by omega) (by omega) (by omega) (by omega)).trans c1, (hf _ _ (by omega) (by omega) (by omega) (by omega)).trans c2, (hf _ _ (by omega) (by omega) (by omega) (by omega)).trans c3, h5, h3⟩
    · simp only [if_neg e]
      exact ⟨(hf _ _ (by omega) (by omega) (by omega) (by omega)).trans c1, (hf _ _ (by omega) (by omega) (by omega) (by omega)).trans c2, (hf _ _ (by omega) (by omega) (by omega) (by omega)).trans c3, (hf _ _ (by omega) (by omega) (by omega) (by omega)).trans c4, fun x y hx hy => (h4 _ (fun a b ha hb => by omega)).trans (c5 x y hx hy)⟩
  · by_cases e : t = s
    · subst e
      simp only [if_true]
      exact ⟨h6, h7⟩
    · simp only [if_neg e]
      exact ⟨by have := (y6 t ht).1; omega, (y6 t ht).2⟩
  · exact (h4 _ (fun a b ha hb => by omega)).trans (y7 c c1 c2)
theorem fD_1 {m : MI} {ns s : Nat} {ks : Nat → Nat} (hs : s < ns) (hf : ∀ a c, a ≠ ks s + 1 → ¬ (a = ks s ∧ c = 4) → a ≠ 59 → ¬ (a = 60 ∧ c = s) → m a c = mi a c) : ∀ a c, ¬ wD ns ks a c → m a c = mi a c := fun a c h => hf a c (fun e => h (Or.inr (Or.inr (Or.inr ⟨s, hs, Or.inr e⟩)))) (fun e => h (Or.inr (Or.inr (Or.inr ⟨s, hs, Or.inl e.1⟩)))) (fun e => h (Or.inr (Or.inr (Or.inl (by omega))))) (fun e => h (Or.inr (Or.inr (Or.inl (by omega)))))
theorem op_spot (hI : Inv i sh mi mr) (p1 p2 p3 : Int32) : OPi mX5_spot mX6_spot [pv_i p1, pv_i p2, pv_i p3] i sh mi mr := by
  have hI0 := hI
  obtain ⟨nb, kb, at_, ns, ks, Wd, Hd, hZ, hT, hA, hB, hC, hD, hE⟩ := hI
  have hns := hZ.2.2.2.1
  obtain ⟨tn, S, y1, y2, y3, y4, y5, y6, y7, y8⟩ := hD
  by_cases hu : 0 ≤ p1 ∧ p1 ≤ (mi 0 6) - 1
  · rw [y1] at hu
    obtain ⟨s, hs, rfl⟩ := (i_cases (by omega)).mp hu
    have hk := hZ.2.2.2.2.2.2.1.1 s hs
    have hw := hZ.2.2.2.2.2.2.1.2.1 s hs
    obtain ⟨c1, c2, c3, c4⟩ := y4 s hs
    obtain ⟨d1, d2, d3, d4, d5⟩ := y5 s hs
    by_cases hv : (0 ≤ p2 ∧ p2 ≤ (mi (ks s) 1) - 1) ∧ 0 ≤ p3 ∧ p3 ≤ (mi (ks s) 2) - 1
    · rw [c1, c2] at hv
      obtain ⟨x, hx, rfl⟩ := (i_cases (by omega)).mp hv.1
      obtain ⟨y, hy, rfl⟩ := (i_cases (by omega)).mp hv.2
      have h6 := t_X6_spot_k hZ.1 ns y2 hns s hs (Wd s) (Hd s) d1 d2 hw.1 hw.2.1 x y hx hy
      rw [d5 x y hx hy, ← c4 x y hx hy] at h6
      exact op_q hI0 hZ.1 (t_X5_spot_k hZ.1 ns y1 hns s hs hk.1 hk.2 c1 c2 hw.1 hw.2.1 x y hx hy) (by decide) h6 (by decide)
    · exact op_q hI0 hZ.1 (t_X5_spot_o hZ.1 ns y1 hns s hs hk.1 hk.2 p2 p3 hv) (by decide) (t_X6_spot_o hZ.1 ns y2 hns s hs p2 p3 (by rw [d1, d2, ← c1, ← c2]; exact hv)) (by decide)
  · exact op_q hI0 hZ.1 (t_X5_spot_u hZ.1 p1 hu p2 p3) (by decide) (t_X6_spot_u hZ.1 p1 (by rw [y2, ← y1]; exact hu) p2 p3) (by decide)
theorem op_flaw (hI : Inv i sh mi mr) (p1 p2 p3 : Int32) : OPi mX5_flaw mX6_flaw [pv_i p1, pv_i p2, pv_i p3] i sh mi mr := by
  have hI0 := hI
  obtain ⟨nb, kb, at_, ns, ks, Wd, Hd, hZ, hT, hA, hB, hC, hD, hE⟩ := hI
  have hns := hZ.2.2.2.1
  obtain ⟨tn, S, y1, y2, y3, y4, y5, y6, y7, y8⟩ := hD
  by_cases hu : 0 ≤ p1 ∧ p1 ≤ (mi 0 6) - 1
  · rw [y1] at hu
    obtain ⟨s, hs, rfl⟩ := (i_cases (by omega)).mp hu
    have hk := hZ.2.2.2.2.2.2.1.1 s hs
    have hw := hZ.2.2.2.2.2.2.1.2.1 s hs
    obtain ⟨c1, c2, c3, c4⟩ := y4 s hs
    obtain ⟨d1, d2, d3, d4, d5⟩ := y5 s hs
    by_cases hv : (0 ≤ p2 ∧ p2 ≤ (mi (ks s) 1) - 1) ∧ 0 ≤ p3 ∧ p3 ≤ (mi (ks s) 2) - 1
    · rw [c1, c2] at hv
      obtain ⟨x, hx, rfl⟩ := (i_cases (by omega)).mp hv.1
      obtain ⟨y, hy, rfl⟩ := (i_cases (by omega)).mp hv.2
      refine op_g (t_X5_flaw_k hZ.1 ns y1 hns s hs hk.1 hk.2 c1 c2 hw.1 hw.2.1 (S s).1 c4 x y hx hy) (by decide) (by decide) (by decide) (fun v s2 m2 r2 h => ?_)
      obtain ⟨e1, e2, h⟩ := h
      rw [e1, e2]
      rw [c4 x y hx hy] at h
      rcases h with ⟨k1, ev, k3⟩ | ⟨k1, ev, k3⟩
      · rw [k3]
        have h6 := t_X6_flaw_k hZ.1 ns y2 hns s hs (Wd s) (Hd s) d1 d2 hw.1 hw.2.1 x y hx hy
        rw [d5 x y hx hy] at h6
        refine ⟨_, ev, hZ.1, m_g h6 (by decide) (fun v s3 m3 r3 h => ?_)⟩
        rcases h with ⟨l1, e⟩ | ⟨l1, e⟩
        · contradiction
        · exact m_l e rfl (iv_S hI0)
      · have h6 := t_X6_flaw_k hZ.1 (mi := m2) ns ((k3.1 _ _ (by omega)).trans y2) hns s hs (Wd s) (Hd s) ((k3.1 _ _ (by omega)).trans d1) ((k3.1 _ _ (by omega)).trans d2) hw.1 hw.2.1 x y hx hy
        rw [show m2 59 (144 * s + 12 * y + x) = (S s).1 x y from (k3.1 _ _ (by omega)).trans (d5 x y hx hy)] at h6
        refine ⟨_, ev, hZ.1, m_g h6 (by decide) (fun v s3 m3 r3 h => ?_)⟩
        rcases h with ⟨l1, e⟩ | ⟨l1, e⟩
        · have hne : ∀ a c, a ≠ ks s + 1 → ¬ (a = 59 ∧ c = 144 * s + 12 * y + x) → up_2 m2 59 (144 * s + 12 * y + x) 1 a c = mi a c := fun a c q1 q2 => (up_ne (by omega)).trans (k3.1 a c q1)
          have hff : ∀ a c, a ≠ ks s + 1 → ¬ (a = ks s ∧ c = 4) → a ≠ 59 → ¬ (a = 60 ∧ c = s) → up_2 m2 59 (144 * s + 12 * y + x) 1 a c = mi a c := fun a c q1 _ q3 _ => hne a c q1 (by omega)
          refine m_l e rfl (iv_D hZ hT hA hB hC hE (fD_1 hs hff) (iD_set (g := fi_g (S s).1 x y 1 1 1) (C := (S s).2) hZ y1 y2 y3 y4 y5 y6 y7 y8 hs hff (fun a b ha hb => (up_ne (Or.inl (by omega))).trans (k3.2.1 a b ha hb)) ((hne _ _ (by omega) (by omega)).trans c3) (fun a b ha hb => ?_) (fun c hc => ?_) ((hne _ _ (by omega) (by omega)).trans d4) (by have := (y6 s hs).1; omega) (fun a b ha hb => ?_)))
          · by_cases eq : a = x ∧ b = y
            · rw [eq.1, eq.2, up_at]
              simp [fi_g]
            · rw [hne _ _ (by omega) (by omega), d5 a b ha hb]
              simp only [fi_g]
              rw [if_neg (by omega)]
          · exact hne _ _ (by omega) (fun q => hc x y hx hy q.2)
          · simp only [fi_g]
            split
            · exact ⟨1, by omega, rfl⟩
            · exact (y6 s hs).2 a b ha hb
        · contradiction
    · exact op_q hI0 hZ.1 (t_X5_flaw_o hZ.1 ns y1 hns s hs hk.1 hk.2 p2 p3 hv) (by decide) (t_X6_flaw_o hZ.1 ns y2 hns s hs p2 p3 (by rw [d1, d2, ← c1, ← c2]; exact hv)) (by decide)
  · exact op_q hI0 hZ.1 (t_X5_flaw_u hZ.1 p1 hu p2 p3) (by decide) (t_X6_flaw_u hZ.1 p1 (by rw [y2, ← y1]; exact hu) p2 p3) (by decide)
theorem no_cu {W H w h x y : Nat} {g : Nat → Nat → Int32} {t : Bool} (h1 : no_g W H g w h) (h2 : cu_g W H g w h x y t) : False := by
  obtain ⟨a1, a2, a3, a4, a5⟩ := h2
  have := h1 x y a1 a2
  cases t with
  | false => exact this.1 (a4 rfl)
  | true => exact this.2 (a5 rfl).2
theorem op_cut (hI : Inv i sh mi mr) (p1 p2 p3 : Int32) : OPi mX5_cut mX6_cut [pv_i p1, pv_i p2, pv_i p3] i sh mi mr := by
  have hI0 := hI
  obtain ⟨nb, kb, at_, ns, ks, Wd, Hd, hZ, hT, hA, hB, hC, hD, hE⟩ := hI
  have hns := hZ.2.2.2.1
  obtain ⟨tn, S, y1, y2, y3, y4, y5, y6, y7, y8⟩ := hD
  by_cases hu : 0 ≤ p1 ∧ p1 ≤ (mi 0 6) - 1
  · rw [y1] at hu
    obtain ⟨s, hs, rfl⟩ := (i_cases (by omega)).mp hu
    have hk := hZ.2.2.2.2.2.2.1.1 s hs
    have hw := hZ.2.2.2.2.2.2.1.2.1 s hs
    obtain ⟨c1, c2, c3, c4⟩ := y4 s hs
    obtain ⟨d1, d2, d3, d4, d5⟩ := y5 s hs
    by_cases hv : (1 ≤ p2 ∧ p2 ≤ 12) ∧ 1 ≤ p3 ∧ p3 ≤ 12
    · obtain ⟨w, w1, w2, rfl⟩ := i_rg (lo := 1) (hi := 12) (by decide) (by decide) hv.1
      obtain ⟨h, h1, h2, rfl⟩ := i_rg (lo := 1) (hi := 12) (by decide) (by decide) hv.2
      refine op_g (t_X5_cut_k hZ.1 ns y1 hns s hs hk.1 hk.2 c1 c2 hw.1 hw.2.1 (S s).1 c4 w h w2 h2 w1 h1 (S s).2 c3) (by decide) (by decide) (by decide) (fun v s2 m2 r2 hh => ?_)
      obtain ⟨e1, e2, hh⟩ := hh
      rw [e1, e2]
      rcases hh with ⟨k1, ev, k3⟩ | ⟨x, y, t, k1, ev, k3, k4, k5⟩
      · rw [k3]
        refine ⟨_, ev, hZ.1, m_g (t_X6_cut_k hZ.1 ns y2 hns s hs (Wd s) (Hd s) d1 d2 hw.1 hw.2.1 (S s).1 d5 w h w2 h2 w1 h1 (S s).2 d4) (by decide) (fun v s3 m3 r3 hh => ?_)⟩
        obtain ⟨f1, f2, hh⟩ := hh
        rw [f1, f2]
        rcases hh with ⟨l1, ev, l3⟩ | ⟨x, y, t, l1, ev, l3, l4, l5, l6⟩
        · rw [l3]
          exact ⟨ev, iv_S hI0⟩
        · exact (no_cu k1 l1).elim
      · refine ⟨_, ev, hZ.1, m_g (t_X6_cut_k hZ.1 ns ((k3 _ _ (by omega) (by omega)).trans y2) hns s hs (Wd s) (Hd s) ((k3 _ _ (by omega) (by omega)).trans d1) ((k3 _ _ (by omega) (by omega)).trans d2) hw.1 hw.2.1 (S s).1 (fun a b ha hb => (k3 _ _ (by omega) (by omega)).trans (d5 a b ha hb)) w h w2 h2 w1 h1 (S s).2 ((k3 _ _ (by omega) (by omega)).trans d4)) (by decide) (fun v s3 m3 r3 hh => ?_)⟩
        obtain ⟨f1, f2, hh⟩ := hh
        rw [f1, f2]
        rcases hh with ⟨l1, ev, l3⟩ | ⟨x2, y2', t2, l1, ev2, l3, l4, l5, l6⟩
        · exact (no_cu l1 k1).elim
        · obtain ⟨o1, o2, o3⟩ := cu_one l1 k1
          subst o1 o2 o3
          have hff : ∀ a c, a ≠ ks s + 1 → ¬ (a = ks s ∧ c = 4) → a ≠ 59 → ¬ (a = 60 ∧ c = s) → m3 a c = mi a c := fun a c q1 q2 q3 q4 => (l3 a c q3 q4).trans (k3 a c q1 q2)
          refine ⟨ev2, iv_D hZ hT hA hB hC hE (fD_1 hs hff) (iD_set (C := (S s).2 + 1) hZ y1 y2 y3 y4 y5 y6 y7 y8 hs hff (fun a b ha hb => (l3 _ _ (by omega) (by omega)).trans (k5 a b ha hb)) ((l3 _ _ (by omega) (by omega)).trans k4) l5 (fun c hc => (l6 c hc).trans (k3 _ _ (by omega) (by omega))) l4 (by have := (y6 s hs).1; omega) (fun a b ha hb => ?_))⟩
          have hold : ∃ v, v < 2 + ((S s).2 + 1) ∧ (S s).1 a b = nI v := by
            obtain ⟨v, v1, v2⟩ := (y6 s hs).2 a b ha hb
            exact ⟨v, by omega, v2⟩
          simp only [cu_f]
          split
          · simp only [fi_g]
            split
            · exact ⟨2 + (S s).2, by omega, rfl⟩
            · exact hold
          · simp only [fi_g]
            split
            · exact ⟨2 + (S s).2, by omega, rfl⟩
            · exact hold
    · exact op_q hI0 hZ.1 (t_X5_cut_o hZ.1 ns y1 hns s hs hk.1 hk.2 p2 p3 hv) (by decide) (t_X6_cut_o hZ.1 ns y2 hns s hs p2 p3 hv) (by decide)
  · exact op_q hI0 hZ.1 (t_X5_cut_u hZ.1 p1 hu p2 p3) (by decide) (t_X6_cut_u hZ.1 p1 (by rw [y2, ← y1]; exact hu) p2 p3) (by decide)
theorem op_covers (hI : Inv i sh mi mr) (hi : i ≤ 512) (p1 p2 p3 p4 : Int32) : OPi mX5_covers mX6_covers [pv_i p1, pv_i p2, pv_i p3, pv_i p4] i sh mi mr := by
  have hI0 := hI
  obtain ⟨nb, kb, at_, ns, ks, Wd, Hd, hZ, hT, hA, hB, hC, hD, hE⟩ := hI
  have hns := hZ.2.2.2.1
  obtain ⟨tn, S, y1, y2, y3, y4, y5, y6, y7, y8⟩ := hD
  by_cases hv : (0 ≤ p1 ∧ p1 ≤ 9) ∧ ((1 ≤ p2 ∧ p2 ≤ 12) ∧ 1 ≤ p3 ∧ p3 ≤ 12) ∧ 1 ≤ p4 ∧ p4 ≤ 8
  · obtain ⟨w, w1, w2, rfl⟩ := i_rg (lo := 1) (hi := 12) (by decide) (by decide) hv.2.1.1
    obtain ⟨h, h1, h2, rfl⟩ := i_rg (lo := 1) (hi := 12) (by decide) (by decide) hv.2.1.2
    obtain ⟨n, n1, n2, rfl⟩ := i_rg (lo := 1) (hi := 8) (by decide) (by decide) hv.2.2
    have hS5 : ∀ s, s < ns → (S s).2 ≤ 5000 := fun s hs => by have := (y6 s hs).1; omega
    have hks := hZ.2.2.2.2.2.2.1
    refine op_g (t_X5_covers_k hZ.1 ns y1 hns ks Wd Hd hks tn y3 S hS5 (fun s hs => (y6 s hs).2) p1 w h n w2 h2 n2 hv.1 w1 h1 n1 y4) (by decide) (by decide) (by decide) (fun v s2 m2 r2 hh => ?_)
    obtain ⟨e1, e2, ag, hh⟩ := hh
    rw [e1, e2]
    have ag2 : ∀ a c, a < 67 → m2 a c = mi a c := fun a c q => ag a c (fun s hs => by have := (hks.2.1 s hs).2.2; omega)
    have hm6 : mm_c m2 ns Wd Hd tn S := fun s hs => by
      obtain ⟨d1, d2, d3, d4, d5⟩ := y5 s hs
      exact ⟨(ag2 _ _ (by omega)).trans d1, (ag2 _ _ (by omega)).trans d2, (ag2 _ _ (by omega)).trans d3, (ag2 _ _ (by omega)).trans d4, fun x y hx hy => (ag2 _ _ (by omega)).trans (d5 x y hx hy)⟩
    have h6 := t_X6_covers_k hZ.1 (mi := m2) ns ((ag2 _ _ (by omega)).trans y2) hns Wd Hd (fun s hs => ⟨(hks.2.1 s hs).1, (hks.2.1 s hs).2.1⟩) tn S hS5 p1 w h n w2 h2 n2 hm6 hv.1 w1 h1 n1
    have hn0 : ∀ s t, s < ns → t < ns → ks t ≠ ks s + 1 := fun s t hs ht e => by
      rcases Nat.lt_trichotomy s t with q | q | q
      · have := hks.2.2 s t q ht
        omega
      · subst q
        omega
      · have := hks.2.2 t s q hs
        omega
    have hk0 : ∀ s, s < ns → m2 (ks s) 0 = tn s := fun s hs => (ag _ _ (fun t ht => ⟨hn0 t s ht hs, by omega⟩)).trans (y3 s hs)
    rcases hh with ⟨k1, ev, k3⟩ | ⟨k1, ev, k3⟩
    · refine ⟨_, ev, hZ.1, m_g h6 (by decide) (fun v s3 m3 r3 hh => ?_)⟩
      obtain ⟨f1, f2, af, hh⟩ := hh
      rw [f1, f2]
      have hfr : ∀ a c, ¬ wD ns ks a c → m3 a c = mi a c := fun a c q => (af a c (fun e => q (Or.inr (Or.inr (Or.inl (by omega))))) (fun e => q (Or.inr (Or.inr (Or.inl (by omega))))) (fun e => q (Or.inr (Or.inr (Or.inl (by omega))))) (fun e => q (Or.inr (Or.inr (Or.inl (by omega)))))).trans (ag a c (fun s hs => ⟨fun e => q (Or.inr (Or.inr (Or.inr ⟨s, hs, Or.inr e⟩))), fun e => q (Or.inr (Or.inr (Or.inr ⟨s, hs, Or.inl e.1⟩)))⟩))
      rcases hh with ⟨l1, ev, l3, l4⟩ | ⟨l1, ev, l3, l4, l5⟩
      · refine ⟨ev, iv_D hZ hT hA hB hC hE hfr ⟨tn, S, (af _ _ (by omega) (by omega) (by omega) (by omega)).trans ((ag2 _ _ (by omega)).trans y1), (af _ _ (by omega) (by omega) (by omega) (by omega)).trans ((ag2 _ _ (by omega)).trans y2), fun s hs => ?_, fun s hs => ?_, fun s hs => ?_, fun s hs => ⟨by have := (y6 s hs).1; omega, (y6 s hs).2⟩, fun c q1 q2 => (l3 c q2).trans ((ag2 _ _ (by omega)).trans (y7 c q1 q2)), fun s q1 q2 => (l4 s q2).trans ((ag2 _ _ (by omega)).trans (y8 s q1 q2))⟩⟩
        · have := (hks.2.1 s hs).2.2
          exact (af _ _ (by omega) (by omega) (by omega) (by omega)).trans (hk0 s hs)
        · have := (hks.2.1 s hs).2.2
          obtain ⟨c1, c2, c3, c4⟩ := k3 s hs
          exact ⟨(af _ _ (by omega) (by omega) (by omega) (by omega)).trans c1, (af _ _ (by omega) (by omega) (by omega) (by omega)).trans c2, (af _ _ (by omega) (by omega) (by omega) (by omega)).trans c3, fun x y hx hy => (af _ _ (by omega) (by omega) (by omega) (by omega)).trans (c4 x y hx hy)⟩
        · have hw := hks.2.1 s hs
          obtain ⟨d1, d2, d3, d4, d5⟩ := hm6 s hs
          exact ⟨(af _ _ (by omega) (by omega) (by omega) (by omega)).trans d1, (af _ _ (by omega) (by omega) (by omega) (by omega)).trans d2, (af _ _ (by omega) (by omega) (by omega) (by omega)).trans d3, (l4 s (by omega)).trans d4, fun x y hx hy => (l3 _ (by omega)).trans (d5 x y hx hy)⟩
      · omega
    · refine ⟨_, ev, hZ.1, m_g h6 (by decide) (fun v s3 m3 r3 hh => ?_)⟩
      obtain ⟨f1, f2, af, hh⟩ := hh
      rw [f1, f2]
      have hfr : ∀ a c, ¬ wD ns ks a c → m3 a c = mi a c := fun a c q => (af a c (fun e => q (Or.inr (Or.inr (Or.inl (by omega))))) (fun e => q (Or.inr (Or.inr (Or.inl (by omega))))) (fun e => q (Or.inr (Or.inr (Or.inl (by omega))))) (fun e => q (Or.inr (Or.inr (Or.inl (by omega)))))).trans (ag a c (fun s hs => ⟨fun e => q (Or.inr (Or.inr (Or.inr ⟨s, hs, Or.inr e⟩))), fun e => q (Or.inr (Or.inr (Or.inr ⟨s, hs, Or.inl e.1⟩)))⟩))
      rcases hh with ⟨l1, ev, l3, l4⟩ | ⟨l1, ev, l3, l4, l5⟩
      · omega
      · refine ⟨ev, iv_D hZ hT hA hB hC hE hfr ⟨tn, (cv_f Wd Hd tn S w h p1 n ns).2.2, (af _ _ (by omega) (by omega) (by omega) (by omega)).trans ((ag2 _ _ (by omega)).trans y1), (af _ _ (by omega) (by omega) (by omega) (by omega)).trans ((ag2 _ _ (by omega)).trans y2), fun s hs => ?_, fun s hs => ?_, l3, fun s hs => ?_, fun c q1 q2 => (l4 c (fun s a b hs ha hb => by have hw := hks.2.1 s hs; omega)).trans ((ag2 _ _ (by omega)).trans (y7 c q1 q2)), fun s q1 q2 => (l5 s q1).trans ((ag2 _ _ (by omega)).trans (y8 s q1 q2))⟩⟩
        · have := (hks.2.1 s hs).2.2
          exact (af _ _ (by omega) (by omega) (by omega) (by omega)).trans (hk0 s hs)
        · have := (hks.2.1 s hs).2.2
          obtain ⟨c1, c2, c3, c4⟩ := k3 s hs
          exact ⟨(af _ _ (by omega) (by omega) (by omega) (by omega)).trans c1, (af _ _ (by omega) (by omega) (by omega) (by omega)).trans c2, (af _ _ (by omega) (by omega) (by omega) (by omega)).trans c3, fun x y hx hy => (af _ _ (by omega) (by omega) (by omega) (by omega)).trans (c4 x y hx hy)⟩
        · have h8 := (y6 s hs).1
          rcases cv_st (Wd := Wd) (Hd := Hd) (tn := tn) (S := S) (w := w) (h := h) (t := p1) (n := n) ns s with e | ⟨-, k, hk, e⟩
          · rw [e]
            exact ⟨by omega, (y6 s hs).2⟩
          · rw [e]
            have hb := ca_b (W := Wd s) (H := Hd s) (w := w) (h := h) k (S s)
            exact ⟨by omega, gi_ca k (S s) (y6 s hs).2⟩
  · exact op_q hI0 hZ.1 (t_X5_covers_o hZ.1 p1 p2 p3 p4 hv) (by decide) (t_X6_covers_o hZ.1 p1 p2 p3 p4 hv) (by decide)
end OPK
