def sN (f : Nat → Nat) : Nat → Nat
  | 0 => 0
  | n + 1 => sN f n + f n
/-- which cells are whose: wages, books, spine, skins, plan -/
def wA (a c : Nat) : Prop := (a = 0 ∧ c = 7) ∨ (22 ≤ a ∧ a ≤ 28) ∨ (a = 29 ∧ (c = 0 ∨ c = 13 ∨ c = 42)) ∨ a = 41 ∨ a = 42 ∨ (63 ≤ a ∧ a ≤ 66)
def wB (nb : Nat) (kb : Nat → Nat) (a c : Nat) : Prop := (a = 0 ∧ c = 5) ∨ (a = 29 ∧ c = 1) ∨ (30 ≤ a ∧ a ≤ 40) ∨ ∃ b, b < nb ∧ kb b ≤ a ∧ a ≤ kb b + 5
def wC (a c : Nat) : Prop := (12 ≤ a ∧ a ≤ 20) ∨ (a = 29 ∧ (c = 25 ∨ c = 27 ∨ c = 30 ∨ c = 33)) ∨ (50 ≤ a ∧ a ≤ 55)
def wD (ns : Nat) (ks : Nat → Nat) (a c : Nat) : Prop := (a = 0 ∧ c = 6) ∨ (a = 29 ∧ c = 34) ∨ (56 ≤ a ∧ a ≤ 62) ∨ ∃ s, s < ns ∧ (a = ks s ∨ a = ks s + 1)
def wE (a c : Nat) : Prop := (2 ≤ a ∧ a ≤ 11) ∨ (a = 29 ∧ c = 16) ∨ (43 ≤ a ∧ a ≤ 49)
/-- the objects -/
def iZ (sh : SH) (mr : MR) (nb : Nat) (kb : Nat → Nat) (ns : Nat) (ks Wd Hd : Nat → Nat) : Prop := ba_c sh mr ∧ 67 ≤ sh.length ∧ nb ≤ 10 ∧ ns ≤ 6 ∧ (∀ b, b < nb → mr 1 b = some (kb b) ∧ bk_c sh mr (kb b) ∧ 67 ≤ kb b ∧ kb b + 5 < sh.length) ∧ (∀ b b2, b < b2 → b2 < nb → kb b + 6 ≤ kb b2) ∧ ks_c sh mr ns ks Wd Hd ∧ (∀ s, s < ns → ks s + 1 < sh.length) ∧ ∀ b s, b < nb → s < ns → kb b + 5 < ks s ∨ ks s + 1 < kb b
/-- wages -/
def iA (m : Nat) (mi : MI) : Prop := ∃ D n, D ≤ 1000 ∧ mi 0 7 = nI D ∧ mi 29 0 = nI D ∧ n ≤ 30 ∧ mi 22 0 = nI n ∧ mi 29 42 = nI n ∧ (∀ i, i < n → mi 63 i = mi 23 i ∧ mi 64 i = mi 24 i ∧ mi 65 i = mi 25 i ∧ mi 66 i = mi 26 i ∧ -1 ≤ mi 24 i) ∧ mi 22 1 = nI m ∧ mi 29 13 = nI m ∧ ∀ i, i < m → mi 41 i = mi 27 i ∧ mi 42 i = mi 28 i
/-- a book on both sides -/
def BL (mi : MI) (q b g : Nat) : Prop := ∀ j, j < g → ∃ lv bv, 1 ≤ lv ∧ lv ≤ 16 ∧ mi (q + 1) j = nI lv ∧ mi 32 (6 * b + j) = nI lv ∧ bv < 2 ^ lv ∧ mi (q + 2) j = nI bv ∧ mi 33 (6 * b + j) = nI bv
def BM (mi : MI) (q b g : Nat) : Prop := ∃ lm, lm < 2 ^ g ∧ mi q 7 = nI lm ∧ (∀ j, j < g → mi 34 (6 * b + j) = (if lm.testBit j = true then 1 else 0)) ∧ ∀ j, g ≤ j → j < 6 → mi 34 (6 * b + j) = 0
def BG (mi : MI) (q b : Nat) : Prop := ∀ k, k < 5 → mi 35 (5 * b + k) = mi (q + 3) k ∧ mi 36 (5 * b + k) = mi (q + 4) k
def BH (mi : MI) (q b : Nat) : Prop := ∀ k, k < 5 → ∃ h, h ≤ 50 ∧ mi (q + 5) k = nI h ∧ mi 37 (5 * b + k) = nI h
def BP (mi : MI) (q b : Nat) : Prop := ∃ dr pm pc, dr ≤ 30 ∧ pm ≤ 2000 ∧ pc ≤ 100 ∧ mi q 8 = nI dr ∧ mi 38 b = nI dr ∧ mi q 9 = nI pm ∧ mi 39 b = nI pm ∧ mi q 10 = nI pc ∧ mi 40 b = nI pc
def BR (mi : MI) (q b a : Nat) : Prop := a ≤ 5 ∧ mi q 6 = nI a ∧ mi 30 b = nI a ∧ (∃ g, g ≤ 6 ∧ mi q 5 = nI g ∧ mi 31 b = nI g ∧ BL mi q b g ∧ BM mi q b g) ∧ BG mi q b ∧ BH mi q b ∧ BP mi q b
def BZ (mi : MI) (b : Nat) : Prop := mi 30 b = 0 ∧ mi 31 b = 0 ∧ mi 38 b = 0 ∧ mi 39 b = 0 ∧ mi 40 b = 0 ∧ (∀ j, j < 6 → mi 34 (6 * b + j) = 0) ∧ ∀ k, k < 5 → mi 35 (5 * b + k) = 0 ∧ mi 36 (5 * b + k) = 0 ∧ mi 37 (5 * b + k) = 0
def iB (nb : Nat) (kb at_ : Nat → Nat) (mi : MI) : Prop := mi 0 5 = nI nb ∧ mi 29 1 = nI nb ∧ (∀ b, b < nb → BR mi (kb b) b (at_ b)) ∧ ∀ b, nb ≤ b → b < 10 → BZ mi b
/-- the spine -/
def iC (mi : MI) : Prop := ∃ (n : Nat) (tx w : Nat → Nat) (L : Nat), n ≤ 40 ∧ mi 12 3 = nI n ∧ mi 29 25 = nI n ∧ (∀ i, i < n → tx i ≤ 26 ∧ mi 16 i = nI (tx i) ∧ mi 51 i = nI (tx i)) ∧ (∀ k, k ≤ 26 → w k ≤ 20 ∧ mi 13 k = nI (w k) ∧ mi 50 k = nI (w k)) ∧ (∀ k, 1 ≤ k → k ≤ 26 → mi 55 k = mi 14 k) ∧ mi 29 33 = mi 12 5 ∧ L ≤ 6 ∧ mi 12 4 = nI L ∧ mi 29 30 = nI L ∧ ∀ i, i < L → mi 54 i = mi 15 i
/-- the skins -/
def iD (i ns : Nat) (ks Wd Hd : Nat → Nat) (mi : MI) : Prop := ∃ (tn : Nat → Int32) (S : Nat → (Nat → Nat → Int32) × Nat), mi 0 6 = nI ns ∧ mi 29 34 = nI ns ∧ (∀ s, s < ns → mi (ks s) 0 = tn s) ∧ ms_c mi ns ks Wd Hd S ∧ mm_c mi ns Wd Hd tn S ∧ (∀ s, s < ns → (S s).2 ≤ 8 * i ∧ gi_g (Wd s) (Hd s) (S s).2 (S s).1) ∧ (∀ c, 144 * ns ≤ c → c < 864 → mi 59 c = 0) ∧ ∀ s, ns ≤ s → s < 6 → mi 60 s = 0
/-- the plan -/
def iE (mi : MI) : Prop := ∃ (K : Nat) (nu : Nat → Nat) (Hs : Nat → Nat → Nat) (Ds : Nat → Nat) (l : List Nat), PL_c mi K nu (fun j => Hs (nu j)) (fun j => Ds (nu j)) l ∧ MS_c mi K nu Hs Ds l
/-- what holds between two calls -/
def Inv (i : Nat) (sh : SH) (mi : MI) (mr : MR) : Prop := ∃ (nb : Nat) (kb at_ : Nat → Nat) (ns : Nat) (ks Wd Hd : Nat → Nat), iZ sh mr nb kb ns ks Wd Hd ∧ st_c sh mi mr sh.length ∧ iA (sN at_ nb) mi ∧ iB nb kb at_ mi ∧ iC mi ∧ iD i ns ks Wd Hd mi ∧ iE mi
theorem A_cg {m0 : Nat} {mi m : MI} (h : ∀ a c, wA a c → m a c = mi a c) : iA m0 mi → iA m0 m := by
  rintro ⟨D, n, h1, h2, h3, h4, h5, h6, h7, h8, h9, h10⟩
  have g : ∀ a c, ((a = 0 ∧ c = 7) ∨ (22 ≤ a ∧ a ≤ 28) ∨ (a = 29 ∧ (c = 0 ∨ c = 13 ∨ c = 42)) ∨ a = 41 ∨ a = 42 ∨ (63 ≤ a ∧ a ≤ 66)) → m a c = mi a c := h
  refine ⟨D, n, h1, ?_, ?_, h4, ?_, ?_, fun i hi => ?_, ?_, ?_, fun i hi => ?_⟩
  · rw [g _ _ (by omega)]; exact h2
  · rw [g _ _ (by omega)]; exact h3
  · rw [g _ _ (by omega)]; exact h5
  · rw [g _ _ (by omega)]; exact h6
  · rw [g 63 _ (by omega), g 64 _ (by omega), g 65 _ (by omega), g 66 _ (by omega), g 23 _ (by omega), g 24 _ (by omega), g 25 _ (by omega), g 26 _ (by omega)]
    exact h7 i hi
  · rw [g _ _ (by omega)]; exact h8
  · rw [g _ _ (by omega)]; exact h9
  · rw [g 41 _ (by omega), g 42 _ (by omega), g 27 _ (by omega), g 28 _ (by omega)]
    exact h10 i hi
theorem BL_cg {q b g : Nat} {mi m : MI} (h1 : ∀ j, j < g → m (q + 1) j = mi (q + 1) j ∧ m (q + 2) j = mi (q + 2) j ∧ m 32 (6 * b + j) = mi 32 (6 * b + j) ∧ m 33 (6 * b + j) = mi 33 (6 * b + j)) (h : BL mi q b g) : BL m q b g := fun j hj => by
  obtain ⟨lv, bv, a1, a2, a3, a4, a5, a6, a7⟩ := h j hj
  obtain ⟨b1, b2, b3, b4⟩ := h1 j hj
  exact ⟨lv, bv, a1, a2, b1.trans a3, b3.trans a4, a5, b2.trans a6, b4.trans a7⟩
theorem BM_cg {q b g : Nat} {mi m : MI} (h1 : m q 7 = mi q 7) (h2 : ∀ j, j < 6 → m 34 (6 * b + j) = mi 34 (6 * b + j)) (hg : g ≤ 6) (h : BM mi q b g) : BM m q b g := by
  obtain ⟨lm, a1, a2, a3, a4⟩ := h
  exact ⟨lm, a1, h1.trans a2, fun j hj => (h2 j (by omega)).trans (a3 j hj), fun j hj hj2 => (h2 j hj2).trans (a4 j hj hj2)⟩
theorem BG_cg {q b : Nat} {mi m : MI} (h1 : ∀ k, k < 5 → m 35 (5 * b + k) = mi 35 (5 * b + k) ∧ m 36 (5 * b + k) = mi 36 (5 * b + k) ∧ m (q + 3) k = mi (q + 3) k ∧ m (q + 4) k = mi (q + 4) k) (h : BG mi q b) : BG m q b := fun k hk => by
  obtain ⟨b1, b2, b3, b4⟩ := h1 k hk
  rw [b1, b2, b3, b4]
  exact h k hk
theorem BH_cg {q b : Nat} {mi m : MI} (h1 : ∀ k, k < 5 → m 37 (5 * b + k) = mi 37 (5 * b + k) ∧ m (q + 5) k = mi (q + 5) k) (h : BH mi q b) : BH m q b := fun k hk => by
  obtain ⟨b1, b2⟩ := h1 k hk
  rw [b1, b2]
  exact h k hk
theorem BP_cg {q b : Nat} {mi m : MI} (h1 : m q 8 = mi q 8 ∧ m q 9 = mi q 9 ∧ m q 10 = mi q 10 ∧ m 38 b = mi 38 b ∧ m 39 b = mi 39 b ∧ m 40 b = mi 40 b) (h : BP mi q b) : BP m q b := by
  unfold BP
  rw [h1.1, h1.2.1, h1.2.2.1, h1.2.2.2.1, h1.2.2.2.2.1, h1.2.2.2.2.2]
  exact h
/-- the cells of one book -/
def wR (q b a c : Nat) : Prop := (q ≤ a ∧ a ≤ q + 5) ∨ ((a = 30 ∨ a = 31 ∨ a = 38 ∨ a = 39 ∨ a = 40) ∧ c = b) ∨ ((a = 32 ∨ a = 33 ∨ a = 34) ∧ 6 * b ≤ c ∧ c < 6 * b + 6) ∨ ((a = 35 ∨ a = 36 ∨ a = 37) ∧ 5 * b ≤ c ∧ c < 5 * b + 5)
theorem BR_cg {q b a0 : Nat} {mi m : MI} (h : ∀ a c, wR q b a c → m a c = mi a c) : BR mi q b a0 → BR m q b a0 := by
  have g : ∀ a c, ((q ≤ a ∧ a ≤ q + 5) ∨ ((a = 30 ∨ a = 31 ∨ a = 38 ∨ a = 39 ∨ a = 40) ∧ c = b) ∨ ((a = 32 ∨ a = 33 ∨ a = 34) ∧ 6 * b ≤ c ∧ c < 6 * b + 6) ∨ ((a = 35 ∨ a = 36 ∨ a = 37) ∧ 5 * b ≤ c ∧ c < 5 * b + 5)) → m a c = mi a c := h
  rintro ⟨a1, a2, a3, ⟨g0, b1, b2, b3, b4, b5⟩, a5, a6, a7⟩
  exact ⟨a1, (g q 6 (by omega)).trans a2, (g 30 b (by omega)).trans a3, ⟨g0, b1, (g q 5 (by omega)).trans b2, (g 31 b (by omega)).trans b3, BL_cg (fun j hj => ⟨g _ _ (by omega), g _ _ (by omega), g _ _ (by omega), g _ _ (by omega)⟩) b4, BM_cg (g _ _ (by omega)) (fun j hj => g _ _ (by omega)) b1 b5⟩, BG_cg (fun k hk => ⟨g _ _ (by omega), g _ _ (by omega), g _ _ (by omega), g _ _ (by omega)⟩) a5, BH_cg (fun k hk => ⟨g _ _ (by omega), g _ _ (by omega)⟩) a6, BP_cg ⟨g _ _ (by omega), g _ _ (by omega), g _ _ (by omega), g _ _ (by omega), g _ _ (by omega), g _ _ (by omega)⟩ a7⟩
theorem BZ_cg {b : Nat} {mi m : MI} (h : ∀ a c, (((a = 30 ∨ a = 31 ∨ a = 38 ∨ a = 39 ∨ a = 40) ∧ c = b) ∨ (a = 34 ∧ 6 * b ≤ c ∧ c < 6 * b + 6) ∨ ((a = 35 ∨ a = 36 ∨ a = 37) ∧ 5 * b ≤ c ∧ c < 5 * b + 5)) → m a c = mi a c) : BZ mi b → BZ m b := by
  rintro ⟨a1, a2, a3, a4, a5, a6, a7⟩
  refine ⟨(h _ _ (by omega)).trans a1, (h _ _ (by omega)).trans a2, (h _ _ (by omega)).trans a3, (h _ _ (by omega)).trans a4, (h _ _ (by omega)).trans a5, fun j hj => (h _ _ (by omega)).trans (a6 j hj), fun k hk => ?_⟩
  obtain ⟨c1, c2, c3⟩ := a7 k hk
  exact ⟨(h _ _ (by omega)).trans c1, (h _ _ (by omega)).trans c2, (h _ _ (by omega)).trans c3⟩
theorem B_cg {nb : Nat} {kb at_ : Nat → Nat} {mi m : MI} (h : ∀ a c, wB nb kb a c → m a c = mi a c) : iB nb kb at_ mi → iB nb kb at_ m := by
  rintro ⟨a1, a2, a3, a4⟩
  have g : ∀ a c, ((a = 0 ∧ c = 5) ∨ (a = 29 ∧ c = 1) ∨ (30 ≤ a ∧ a ≤ 40)) → m a c = mi a c := fun a c q => h a c (by unfold wB; omega)
  refine ⟨(g _ _ (by omega)).trans a1, (g _ _ (by omega)).trans a2, fun b hb => BR_cg (fun a c q => ?_) (a3 b hb), fun b hb hb2 => BZ_cg (fun a c q => g a c (by omega)) (a4 b hb hb2)⟩
  by_cases e : kb b ≤ a ∧ a ≤ kb b + 5
  · exact h a c (Or.inr (Or.inr (Or.inr ⟨b, hb, e⟩)))
  · exact g a c (by unfold wR at q; omega)
theorem C_cg {mi m : MI} (h : ∀ a c, wC a c → m a c = mi a c) : iC mi → iC m := by
  have g : ∀ a c, ((12 ≤ a ∧ a ≤ 20) ∨ (a = 29 ∧ (c = 25 ∨ c = 27 ∨ c = 30 ∨ c = 33)) ∨ (50 ≤ a ∧ a ≤ 55)) → m a c = mi a c := h
  rintro ⟨n, tx, w, L, a1, a2, a3, a4, a5, a6, a7, a8, a9, a10, a11⟩
  refine ⟨n, tx, w, L, a1, (g _ _ (by omega)).trans a2, (g _ _ (by omega)).trans a3, fun i hi => ?_, fun k hk => ?_, fun k h1 h2 => ?_, ?_, a8, (g _ _ (by omega)).trans a9, (g _ _ (by omega)).trans a10, fun i hi => ?_⟩
  · rw [g 16 i (by omega), g 51 i (by omega)]; exact a4 i hi
  · rw [g 13 k (by omega), g 50 k (by omega)]; exact a5 k hk
  · rw [g 55 k (by omega), g 14 k (by omega)]; exact a6 k h1 h2
  · rw [g 29 33 (by omega), g 12 5 (by omega)]; exact a7
  · rw [g 54 i (by omega), g 15 i (by omega)]; exact a11 i hi
theorem D_cg {i j ns : Nat} {ks Wd Hd : Nat → Nat} {mi m : MI} (hn : ns ≤ 6) (hij : i ≤ j) (h : ∀ a c, wD ns ks a c → m a c = mi a c) : iD i ns ks Wd Hd mi → iD j ns ks Wd Hd m := by
  have g : ∀ a c, ((a = 0 ∧ c = 6) ∨ (a = 29 ∧ c = 34) ∨ (56 ≤ a ∧ a ≤ 62)) → m a c = mi a c := fun a c q => h a c (by unfold wD; omega)
  have gk : ∀ s, s < ns → ∀ c, m (ks s) c = mi (ks s) c ∧ m (ks s + 1) c = mi (ks s + 1) c := fun s hs c => ⟨h _ _ (Or.inr (Or.inr (Or.inr ⟨s, hs, Or.inl rfl⟩))), h _ _ (Or.inr (Or.inr (Or.inr ⟨s, hs, Or.inr rfl⟩)))⟩
  rintro ⟨tn, S, a1, a2, a3, a4, a5, a6, a7, a8⟩
  refine ⟨tn, S, (g _ _ (by omega)).trans a1, (g _ _ (by omega)).trans a2, fun s hs => (gk s hs 0).1.trans (a3 s hs), fun s hs => ?_, fun s hs => ?_, fun s hs => ⟨Nat.le_trans (a6 s hs).1 (by omega), (a6 s hs).2⟩, fun c h1 h2 => (g _ _ (by omega)).trans (a7 c h1 h2), fun s h1 h2 => (g _ _ (by omega)).trans (a8 s h1 h2)⟩
  · have := a4 s hs
    unfold sk_m at this ⊢
    simp only [(gk s hs _).1, (gk s hs _).2]
    exact this
  · obtain ⟨c1, c2, c3, c4, c5⟩ := a5 s hs
    exact ⟨(g _ _ (by omega)).trans c1, (g _ _ (by omega)).trans c2, (g _ _ (by omega)).trans c3, (g _ _ (by omega)).trans c4, fun x y hx hy => (g _ _ (by omega)).trans (c5 x y hx hy)⟩
theorem E_cg {mi m : MI} (h : ∀ a c, wE a c → m a c = mi a c) : iE mi → iE m := by
  have g : ∀ a c, ((2 ≤ a ∧ a ≤ 11) ∨ (a = 29 ∧ c = 16) ∨ (43 ≤ a ∧ a ≤ 49)) → m a c = mi a c := h
  rintro ⟨K, nu, Hs, Ds, l, ⟨a1, a2, a3, a4, a5, a6, a7⟩, ⟨b1, b2, b3, b4, b5, b6, b7, b8, b9⟩⟩
  refine ⟨K, nu, Hs, Ds, l, ⟨(g _ _ (by omega)).trans a1, a2, fun k hk => (g _ _ (by omega)).trans (a3 k hk), a4, a5, fun j hj => ?_, fun i hi => ?_⟩, ⟨(g _ _ (by omega)).trans b1, b2, b3, b4, b5, b6, b7, fun b hb => ?_, fun i hi => ?_⟩⟩
  · obtain ⟨c1, c2, c3, c4, c5, c6⟩ := a6 j hj
    exact ⟨(g _ _ (by omega)).trans c1, c2, fun k hk => (g _ _ (by omega)).trans (c3 k hk), c4, (g _ _ (by omega)).trans c5, c6⟩
  · obtain ⟨c1, c2⟩ := a7 i hi
    exact ⟨(g _ _ (by omega)).trans c1, (g _ _ (by omega)).trans c2⟩
  · obtain ⟨c1, c2⟩ := b8 b hb
    exact ⟨fun k hk => (g _ _ (by omega)).trans (c1 k hk), (g _ _ (by omega)).trans c2⟩
  · obtain ⟨c1, c2⟩ := b9 i hi
    exact ⟨(g _ _ (by omega)).trans c1, (g _ _ (by omega)).trans c2⟩
theorem wB_67 {sh : SH} {mr : MR} {nb ns : Nat} {kb ks Wd Hd : Nat → Nat} (hZ : iZ sh mr nb kb ns ks Wd Hd) {a c : Nat} (h : wB nb kb a c) : (a = 0 ∧ c = 5) ∨ (a = 29 ∧ c = 1) ∨ (30 ≤ a ∧ a ≤ 40) ∨ (67 ≤ a ∧ a < sh.length ∧ ∀ s, s < ns → a ≠ ks s ∧ a ≠ ks s + 1) := by
  rcases h with h | h | h | ⟨b, hb, h1, h2⟩
  · exact Or.inl h
  · exact Or.inr (Or.inl h)
  · exact Or.inr (Or.inr (Or.inl h))
  · obtain ⟨-, -, c1, c2⟩ := hZ.2.2.2.2.1 b hb
    refine Or.inr (Or.inr (Or.inr ⟨by omega, by omega, fun s hs => ?_⟩))
    have := hZ.2.2.2.2.2.2.2.2 b s hb hs
    omega
theorem wD_67 {sh : SH} {mr : MR} {nb ns : Nat} {kb ks Wd Hd : Nat → Nat} (hZ : iZ sh mr nb kb ns ks Wd Hd) {a c : Nat} (h : wD ns ks a c) : (a = 0 ∧ c = 6) ∨ (a = 29 ∧ c = 34) ∨ (56 ≤ a ∧ a ≤ 62) ∨ (67 ≤ a ∧ a < sh.length ∧ ∃ s, s < ns ∧ (a = ks s ∨ a = ks s + 1)) := by
  rcases h with h | h | h | ⟨s, hs, h⟩
  · exact Or.inl h
  · exact Or.inr (Or.inl h)
  · exact Or.inr (Or.inr (Or.inl h))
  · have h1 := (hZ.2.2.2.2.2.2.1.2.1 s hs).2.2
    have h2 := hZ.2.2.2.2.2.2.2.1 s hs
    exact Or.inr (Or.inr (Or.inr ⟨by omega, by omega, s, hs, h⟩))
theorem st_ag {sh : SH} {mi m : MI} {mr : MR} {n : Nat} (h : st_c sh mi mr n) (hag : ∀ a c, n ≤ a → m a c = mi a c) : st_c sh m mr n := ⟨h.1, h.2.1, fun k hk j => ⟨(hag k j hk).trans (h.2.2 k hk j).1, (h.2.2 k hk j).2⟩⟩
section IV
variable {i : Nat} {sh : SH} {mi m : MI} {mr : MR} {nb : Nat} {kb at_ : Nat → Nat} {ns : Nat} {ks Wd Hd : Nat → Nat}
theorem iv_A (hZ : iZ sh mr nb kb ns ks Wd Hd) (hT : st_c sh mi mr sh.length) (hB : iB nb kb at_ mi) (hC : iC mi) (hD : iD i ns ks Wd Hd mi) (hE : iE mi) (hf : ∀ a c, ¬ wA a c → m a c = mi a c) (hA : iA (sN at_ nb) m) : Inv (i + 1) sh m mr := by
  have h67 := hZ.2.1
  refine ⟨nb, kb, at_, ns, ks, Wd, Hd, hZ, st_ag hT (fun a c h => hf a c (by unfold wA; omega)), hA, B_cg (fun a c h => hf a c ?_) hB, C_cg (fun a c h => hf a c (by unfold wC at h; unfold wA; omega)) hC, D_cg hZ.2.2.2.1 (Nat.le_succ i) (fun a c h => hf a c ?_) hD, E_cg (fun a c h => hf a c (by unfold wE at h; unfold wA; omega)) hE⟩
  · rcases wB_67 hZ h with h | h | h | ⟨h, -⟩ <;> unfold wA <;> omega
  · rcases wD_67 hZ h with h | h | h | ⟨h, -⟩ <;> unfold wA <;> omega
theorem iv_C (hZ : iZ sh mr nb kb ns ks Wd Hd) (hT : st_c sh mi mr sh.length) (hA : iA (sN at_ nb) mi) (hB : iB nb kb at_ mi) (hD : iD i ns ks Wd Hd mi) (hE : iE mi) (hf : ∀ a c, ¬ wC a c → m a c = mi a c) (hC : iC m) : Inv (i + 1) sh m mr := by
  have h67 := hZ.2.1
  refine ⟨nb, kb, at_, ns, ks, Wd, Hd, hZ, st_ag hT (fun a c h => hf a c (by unfold wC; omega)), A_cg (fun a c h => hf a c (by unfold wA at h; unfold wC; omega)) hA, B_cg (fun a c h => hf a c ?_) hB, hC, D_cg hZ.2.2.2.1 (Nat.le_succ i) (fun a c h => hf a c ?_) hD, E_cg (fun a c h => hf a c (by unfold wE at h; unfold wC; omega)) hE⟩
  · rcases wB_67 hZ h with h | h | h | ⟨h, -⟩ <;> unfold wC <;> omega
  · rcases wD_67 hZ h with h | h | h | ⟨h, -⟩ <;> unfold wC <;> omega
theorem iv_E (hZ : iZ sh mr nb kb ns ks Wd Hd) (hT : st_c sh mi mr sh.length) (hA : iA (sN at_ nb) mi) (hB : iB nb kb at_ mi) (hC : iC mi) (hD : iD i ns ks Wd Hd mi) (hf : ∀ a c, ¬ wE a c → m a c = mi a c) (hE : iE m) : Inv (i + 1) sh m mr := by
  have h67 := hZ.2.1
  refine ⟨nb, kb, at_, ns, ks, Wd, Hd, hZ, st_ag hT (fun a c h => hf a c (by unfold wE; omega)), A_cg (fun a c h => hf a c (by unfold wA at h; unfold wE; omega)) hA, B_cg (fun a c h => hf a c ?_) hB, C_cg (fun a c h => hf a c (by unfold wC at h; unfold wE; omega)) hC, D_cg hZ.2.2.2.1 (Nat.le_succ i) (fun a c h => hf a c ?_) hD, hE⟩
  · rcases wB_67 hZ h with h | h | h | ⟨h, -⟩ <;> unfold wE <;> omega
  · rcases wD_67 hZ h with h | h | h | ⟨h, -⟩ <;> unfold wE <;> omega
theorem iv_D (hZ : iZ sh mr nb kb ns ks Wd Hd) (hT : st_c sh mi mr sh.length) (hA : iA (sN at_ nb) mi) (hB : iB nb kb at_ mi) (hC : iC mi) (hE : iE mi) (hf : ∀ a c, ¬ wD ns ks a c → m a c = mi a c) (hD : iD (i + 1) ns ks Wd Hd m) : Inv (i + 1) sh m mr := by
  have h67 := hZ.2.1
  have hf2 : ∀ a c, ¬ ((a = 0 ∧ c = 6) ∨ (a = 29 ∧ c = 34) ∨ (56 ≤ a ∧ a ≤ 62) ∨ (67 ≤ a ∧ a < sh.length)) → m a c = mi a c := fun a c h => hf a c (fun w => by
    rcases wD_67 hZ w with w | w | w | ⟨w1, w2, -⟩ <;> omega)
  refine ⟨nb, kb, at_, ns, ks, Wd, Hd, hZ, st_ag hT (fun a c h => hf2 a c (by omega)), A_cg (fun a c h => hf2 a c (by unfold wA at h; omega)) hA, B_cg (fun a c h => ?_) hB, C_cg (fun a c h => hf2 a c (by unfold wC at h; omega)) hC, hD, E_cg (fun a c h => hf2 a c (by unfold wE at h; omega)) hE⟩
  rcases wB_67 hZ h with h | h | h | ⟨h1, h2, h3⟩
  · exact hf2 a c (by omega)
  · exact hf2 a c (by omega)
  · exact hf2 a c (by omega)
  · refine hf a c (fun w => ?_)
    rcases w with w | w | w | ⟨s, hs, w⟩
    · omega
    · omega
    · omega
    · have := h3 s hs
      omega
theorem iv_B {at2 : Nat → Nat} (hZ : iZ sh mr nb kb ns ks Wd Hd) (hT : st_c sh mi mr sh.length) (hA : iA (sN at2 nb) m) (hC : iC mi) (hD : iD i ns ks Wd Hd mi) (hE : iE mi) (hf : ∀ a c, ¬ wA a c → ¬ wB nb kb a c → m a c = mi a c) (hB : iB nb kb at2 m) : Inv (i + 1) sh m mr := by
  have h67 := hZ.2.1
  have hf2 : ∀ a c, ¬ wA a c → ¬ ((a = 0 ∧ c = 5) ∨ (a = 29 ∧ c = 1) ∨ (30 ≤ a ∧ a ≤ 40) ∨ (67 ≤ a ∧ a < sh.length)) → m a c = mi a c := fun a c hA h => hf a c hA (fun w => by
    rcases wB_67 hZ w with w | w | w | ⟨w1, w2, -⟩ <;> omega)
  refine ⟨nb, kb, at2, ns, ks, Wd, Hd, hZ, st_ag hT (fun a c h => hf2 a c (by unfold wA; omega) (by omega)), hA, hB, C_cg (fun a c h => hf2 a c (by unfold wC at h; unfold wA; omega) (by unfold wC at h; omega)) hC, D_cg hZ.2.2.2.1 (Nat.le_succ i) (fun a c h => ?_) hD, E_cg (fun a c h => hf2 a c (by unfold wE at h; unfold wA; omega) (by unfold wE at h; omega)) hE⟩
  rcases wD_67 hZ h with h | h | h | ⟨h1, h2, s, hs, h3⟩
  · exact hf2 a c (by unfold wA; omega) (by omega)
  · exact hf2 a c (by unfold wA; omega) (by omega)
  · exact hf2 a c (by unfold wA; omega) (by omega)
  · refine hf a c (by unfold wA; omega) (fun w => ?_)
    rcases wB_67 hZ w with w | w | w | ⟨w1, w2, w3⟩
    · omega
    · omega
    · omega
    · have := w3 s hs
      omega
theorem iv_S (h : Inv i sh mi mr) : Inv (i + 1) sh mi mr := by
  obtain ⟨nb, kb, at_, ns, ks, Wd, Hd, hZ, hT, hA, hB, hC, hD, hE⟩ := h
  exact iv_A hZ hT hB hC hD hE (fun _ _ _ => rfl) hA
end IV
