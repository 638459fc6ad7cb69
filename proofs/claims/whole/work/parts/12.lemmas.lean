theorem lp_i {P : Nat → Prop} (n : Nat) (h : ∀ i, i ≤ n → (i < n → P (i + 1)) → P i) : ∀ i, i ≤ n → P i := by
  have key : ∀ k i, n - i = k → i ≤ n → P i := by
    intro k
    induction k with
    | zero => exact fun i h1 h2 => h i h2 (fun h3 => by omega)
    | succ k ih => exact fun i h1 h2 => h i h2 (fun h3 => ih (i + 1) (by omega) (by omega))
  exact fun i hi => key (n - i) i rfl hi
theorem ev_fg {X : Option (Nat × (Nat → Int32))} {d mc ms : Nat} {M : MD} {pc : Nat} {L : List (Option PV)} {S : List PV} {sh : SH} {mi : MI} {mr : MR} {Po : PO} (k : Nat) (kk : EV X d mc ms M pc (L.set k none) S sh mi mr Po) : EV X d mc ms M pc L S sh mi mr Po := by
  refine ev_loc (fun i v h => ?_) kk
  by_cases hi : i = k
  · subst hi
    by_cases hl : i < L.length
    · rw [List.getElem?_set_self hl] at h
      cases h
    · rw [List.getElem?_eq_none (by simp; omega)] at h
      cases h
  · rw [List.getElem?_set_ne (Ne.symm hi)] at h
    exact h
theorem nl_lt {x y : Int32} {a b : Nat} (hx : x = nI a) (hy : y = nI b) (ha : a < 2 ^ 31) (hb : b < 2 ^ 31) : x < y ↔ a < b := by
  subst hx; subst hy; exact nI_ltI ha hb
theorem nl_le {x y : Int32} {a b : Nat} (hx : x = nI a) (hy : y = nI b) (ha : a < 2 ^ 31) (hb : b < 2 ^ 31) : x ≤ y ↔ a ≤ b := by
  subst hx; subst hy; exact nI_leI ha hb
theorem nl_eq {x y : Int32} {a b : Nat} (hx : x = nI a) (hy : y = nI b) (ha : a < 2 ^ 31) (hb : b < 2 ^ 31) : x = y ↔ a = b := by
  subst hx; subst hy; exact nI_eq ha hb
theorem i_cases {x : Int32} {n : Nat} (hn : n < 2 ^ 31) : (0 ≤ x ∧ x ≤ nI n - 1) ↔ ∃ b, b < n ∧ x = nI b := by
  constructor
  · intro ⟨h1, h2⟩
    obtain ⟨j, hj, rfl⟩ := nI_of (x := x) (by rw [Int32.not_lt]; exact h1)
    refine ⟨j, ?_, rfl⟩
    cases n with
    | zero =>
      exfalso
      have e : nI 0 - 1 = (-1 : Int32) := by decide
      rw [e, Int32.le_iff_toInt_le, nI_toInt hj] at h2
      have e2 : (-1 : Int32).toInt = -1 := by decide
      omega
    | succ n =>
      rw [nI_pred] at h2
      have := (nI_leI hj (by omega)).mp h2
      omega
  · rintro ⟨b, hb, rfl⟩
    refine ⟨nI_pos' (by omega), ?_⟩
    cases n with
    | zero => omega
    | succ n =>
      rw [nI_pred]
      exact nI_le (by omega) (by omega)
theorem i_in {x : Int32} {n : Nat} (y : Int32) (hy : y = nI n) (hn : n < 2 ^ 31) : (0 ≤ x ∧ x ≤ y) ↔ ∃ b, b ≤ n ∧ x = nI b := by
  subst hy
  constructor
  · intro ⟨h1, h2⟩
    obtain ⟨j, hj, rfl⟩ := nI_of (x := x) (by rw [Int32.not_lt]; exact h1)
    exact ⟨j, (nI_leI hj hn).mp h2, rfl⟩
  · rintro ⟨b, hb, rfl⟩
    exact ⟨nI_pos' (by omega), nI_le hb hn⟩
theorem nI_m1 {k : Nat} (hk : k < 2 ^ 31) : ¬ nI k = -1 := by
  intro h
  have := nI_toInt hk
  rw [h] at this
  have e2 : (-1 : Int32).toInt = -1 := by decide
  omega
theorem nI_gm1 {k : Nat} (hk : k < 2 ^ 31) : ¬ nI k < -1 := by
  rw [Int32.lt_iff_toInt_lt, nI_toInt hk]
  have e2 : (-1 : Int32).toInt = -1 := by decide
  omega
theorem ev_dup2 {X : Option (Nat × (Nat → Int32))} {d mc ms : Nat} {M : MD} {pc : Nat} {L : List (Option PV)} {S : List PV} {sh : SH} {mi : MI} {mr : MR} {Po : PO} {v w : PV} (hd : decode M.2.1 pc = .ok (.dup2, 1)) (kk : EV X d mc ms M (pc + 1) L (v :: w :: v :: w :: S) sh mi mr Po) : EV X d mc ms M pc L (v :: w :: S) sh mi mr Po :=
  ev_lift (fun _ _ _ _ _ _ _ _ _ _ _ _ _ _ _ _ b ad _ _ _ hC _ _ _ k => lv_dup2_11 hC.1 hC.2.1 hd (pm_cat b ad v) (pm_cat b ad w) k) kk
/-- a book at cell q, its five arrays behind it -/
def bk_c (sh : SH) (mr : MR) (q : Nat) : Prop := sh[q]? = some (.inl 0) ∧ (mr q 0 = some (q + 1) ∧ mr q 1 = some (q + 2) ∧ mr q 2 = some (q + 3) ∧ mr q 3 = some (q + 4) ∧ mr q 4 = some (q + 5)) ∧ (sh[q + 1]? = some (.inr (0, 6)) ∧ sh[q + 2]? = some (.inr (0, 6)) ∧ sh[q + 3]? = some (.inr (0, 5)) ∧ sh[q + 4]? = some (.inr (0, 5)) ∧ sh[q + 5]? = some (.inr (0, 5)))
/-- a skin at cell q, its places behind it -/
def sk_c (sh : SH) (mr : MR) (q n : Nat) : Prop := sh[q]? = some (.inl 3) ∧ mr q 3 = some (q + 1) ∧ sh[q + 1]? = some (.inr (0, n))
/-- Integer.bitCount, as the JDK computes it -/
def bc_1 (x : Int32) : Int32 := x - ((Int32.toUInt32 x >>> (Int32.toUInt32 1 &&& Int32.toUInt32 31)).toInt32 &&& 1431655765)
def bc_2 (x : Int32) : Int32 := (x &&& 858993459) + ((Int32.toUInt32 x >>> (Int32.toUInt32 2 &&& Int32.toUInt32 31)).toInt32 &&& 858993459)
def bc_3 (x : Int32) : Int32 := (x + (Int32.toUInt32 x >>> (Int32.toUInt32 4 &&& Int32.toUInt32 31)).toInt32) &&& 252645135
def bc_4 (x : Int32) : Int32 := x + (Int32.toUInt32 x >>> (Int32.toUInt32 8 &&& Int32.toUInt32 31)).toInt32
def bc_5 (x : Int32) : Int32 := x + (Int32.toUInt32 x >>> (Int32.toUInt32 16 &&& Int32.toUInt32 31)).toInt32
def bc (x : Int32) : Int32 := bc_5 (bc_4 (bc_3 (bc_2 (bc_1 x)))) &&& 63
theorem n_5 : (5 : Int32) = nI 5 := rfl
theorem n_6 : (6 : Int32) = nI 6 := rfl
theorem n_12 : (12 : Int32) = nI 12 := rfl
theorem n_21 : (21 : Int32) = nI 21 := rfl
theorem n_144 : (144 : Int32) = nI 144 := rfl
/-- a stretch of a cell becomes v -/
def fl_r (mi : MI) (k lo n : Nat) (v : Int32) : MI := fun a c => if a = k ∧ lo ≤ c ∧ c < lo + n then v else mi a c
theorem fl_0 {mi : MI} {k lo : Nat} {v : Int32} : fl_r mi k lo 0 v = mi := by
  funext a c
  simp only [fl_r]
  rw [if_neg (by omega)]
theorem fl_s {mi : MI} {k lo n : Nat} {v : Int32} : up_2 (fl_r mi k lo n v) k (lo + n) v = fl_r mi k lo (n + 1) v := by
  funext a c
  simp only [fl_r, up_2]
  by_cases h1 : a = k ∧ c = lo + n
  · rw [if_pos h1, if_pos (by omega)]
  · rw [if_neg h1]
    by_cases h2 : a = k ∧ lo ≤ c ∧ c < lo + n
    · rw [if_pos h2, if_pos (by omega)]
    · rw [if_neg h2, if_neg (by omega)]
