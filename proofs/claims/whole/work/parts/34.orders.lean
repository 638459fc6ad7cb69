/-- a book in an order: when it leaves each bench (n: its hours, d: how long it dries, c: when each bench is left by the book ahead) -/
def lf (n : Nat → Nat) (d : Nat) (c : Nat → Nat) : Nat → Nat
  | 0 => 0
  | k + 1 => max (lf n d c k + (if k = 3 then d else 0)) (c k) + n k
def ck (n : Nat → Nat) (d : Nat) (c : Nat → Nat) : Nat → Nat := fun k => lf n d c (k + 1)
theorem lf_b {n : Nat → Nat} {d B : Nat} {c : Nat → Nat} (hn : ∀ k, k < 5 → n k ≤ 50) (hd : d ≤ 30) (hc : ∀ k, k < 5 → c k ≤ B) : ∀ k, k ≤ 5 → lf n d c k ≤ B + 50 * k + (if k ≤ 3 then 0 else 30)
  | 0, _ => by simp [lf]
  | k + 1, hk => by
    have h1 := lf_b hn hd hc k (by omega)
    have h2 := hn k (by omega)
    have h3 := hc k (by omega)
    simp only [lf]
    by_cases e : k = 3
    · subst e
      simp only [if_true] at h1 ⊢
      simp at h1 ⊢
      omega
    · rw [if_neg e]
      split at h1 <;> split <;> omega
theorem lf_m {n : Nat → Nat} {d : Nat} {c c2 : Nat → Nat} (h : ∀ k, k < 5 → c k ≤ c2 k) : ∀ k, k ≤ 5 → lf n d c k ≤ lf n d c2 k
  | 0, _ => Nat.le_refl _
  | k + 1, hk => by
    have h1 := lf_m (n := n) (d := d) h k (by omega)
    have h2 := h k (by omega)
    simp only [lf]
    omega
theorem ck_ge {n : Nat → Nat} {d : Nat} {c : Nat → Nat} {k : Nat} : c k ≤ ck n d c k := by
  simp only [ck, lf]
  omega
/-- the orders of the members: hours nd, drying dr, promised pm, price pc -/
def st_o (nd : Nat → Nat → Nat) (dr pm pc : Nat → Nat) (s : (Nat → Nat) × Nat) (j : Nat) : (Nat → Nat) × Nat := (ck (nd j) (dr j) s.1, s.2 + pc j * (ck (nd j) (dr j) s.1 4 - pm j))
def ev_o (nd : Nat → Nat → Nat) (dr pm pc : Nat → Nat) (l : List Nat) : (Nat → Nat) × Nat := l.foldl (st_o nd dr pm pc) (fun _ => 0, 0)
theorem ev_snoc {nd : Nat → Nat → Nat} {dr pm pc : Nat → Nat} {l : List Nat} {j : Nat} : ev_o nd dr pm pc (l ++ [j]) = st_o nd dr pm pc (ev_o nd dr pm pc l) j := by
  simp [ev_o]
theorem fo_ge {nd : Nat → Nat → Nat} {dr pm pc : Nat → Nat} : ∀ (l : List Nat) (s : (Nat → Nat) × Nat), s.2 ≤ (l.foldl (st_o nd dr pm pc) s).2 ∧ ∀ k, s.1 k ≤ (l.foldl (st_o nd dr pm pc) s).1 k
  | [], s => ⟨Nat.le_refl _, fun _ => Nat.le_refl _⟩
  | j :: l, s => by
    obtain ⟨h1, h2⟩ := fo_ge (nd := nd) (dr := dr) (pm := pm) (pc := pc) l (st_o nd dr pm pc s j)
    refine ⟨Nat.le_trans (Nat.le_add_right _ _) h1, fun k => Nat.le_trans (ck_ge (n := nd j) (d := dr j)) (h2 k)⟩
theorem ev_ge {nd : Nat → Nat → Nat} {dr pm pc : Nat → Nat} (p q : List Nat) : (ev_o nd dr pm pc p).2 ≤ (ev_o nd dr pm pc (p ++ q)).2 ∧ ∀ k, (ev_o nd dr pm pc p).1 k ≤ (ev_o nd dr pm pc (p ++ q)).1 k := by
  unfold ev_o
  rw [List.foldl_append]
  exact fo_ge q _
def bd_o (K : Nat) (nd : Nat → Nat → Nat) (dr pm pc : Nat → Nat) : Prop := ∀ j, j < K → (∀ k, k < 5 → nd j k ≤ 50) ∧ dr j ≤ 30 ∧ pm j ≤ 2000 ∧ pc j ≤ 100
theorem ev_b {K : Nat} {nd : Nat → Nat → Nat} {dr pm pc : Nat → Nat} (hb : bd_o K nd dr pm pc) : ∀ (n : Nat) (l : List Nat), l.length = n → (∀ j ∈ l, j < K) → (∀ k, k < 5 → (ev_o nd dr pm pc l).1 k ≤ 280 * n) ∧ (ev_o nd dr pm pc l).2 ≤ 28000 * n * n
  | 0, l, hl, _ => by
    have : l = [] := List.length_eq_zero_iff.mp hl
    subst this
    exact ⟨fun _ _ => Nat.le_refl _, Nat.le_refl _⟩
  | n + 1, l, hl, hm => by
    obtain ⟨p, j, rfl⟩ : ∃ p j, l = p ++ [j] := ⟨l.dropLast, l.getLast (by intro e; rw [e] at hl; cases hl), (List.dropLast_concat_getLast _).symm⟩
    obtain ⟨h1, h2⟩ := ev_b hb n p (by simpa using hl) (fun x hx => hm x (by simp [hx]))
    obtain ⟨b1, b2, b3, b4⟩ := hb j (hm j (by simp))
    rw [ev_snoc]
    have hk : ∀ k, k < 5 → ck (nd j) (dr j) (ev_o nd dr pm pc p).1 k ≤ 280 * n + 280 := fun k hk => by
      have := lf_b b1 b2 h1 (k + 1) (by omega)
      simp only [ck]
      split at this <;> omega
    refine ⟨fun k hk2 => by have := hk k hk2; show ck (nd j) (dr j) (ev_o nd dr pm pc p).1 k ≤ _; omega, ?_⟩
    show (ev_o nd dr pm pc p).2 + pc j * (ck (nd j) (dr j) (ev_o nd dr pm pc p).1 4 - pm j) ≤ _
    have h4 := hk 4 (by decide)
    have h5 : pc j * (ck (nd j) (dr j) (ev_o nd dr pm pc p).1 4 - pm j) ≤ 100 * (280 * n + 280) := Nat.mul_le_mul b4 (by omega)
    have h6 : 28000 * (n + 1) * (n + 1) = 28000 * n * n + 28000 * n + 28000 * n + 28000 := by
      rw [Nat.mul_succ (28000 * (n + 1)), Nat.mul_succ 28000, Nat.add_mul]
      omega
    omega
/-- the record so far; a better one is taken; all orders behind a prefix, the first first -/
def rc_c (r : Option (Nat × Nat × List Nat)) : Nat := match r with
  | none => 1000000000
  | some b => b.1
def rc_e (r : Option (Nat × Nat × List Nat)) : Nat := match r with
  | none => 1000000000
  | some b => b.2.1
abbrev bt_o (nd : Nat → Nat → Nat) (dr pm pc : Nat → Nat) (r : Option (Nat × Nat × List Nat)) (l : List Nat) : Prop := (ev_o nd dr pm pc l).2 < rc_c r ∨ ((ev_o nd dr pm pc l).2 = rc_c r ∧ (ev_o nd dr pm pc l).1 4 < rc_e r)
def up_o (nd : Nat → Nat → Nat) (dr pm pc : Nat → Nat) (r : Option (Nat × Nat × List Nat)) (l : List Nat) : Option (Nat × Nat × List Nat) := if bt_o nd dr pm pc r l then some ((ev_o nd dr pm pc l).2, (ev_o nd dr pm pc l).1 4, l) else r
def rm_o (K : Nat) (p : List Nat) (m : Nat) : List Nat := (List.range' m (K - m)).filter (fun x => decide (x ∉ p))
def fo_o (K : Nat) : Nat → List Nat → List (List Nat)
  | 0, p => [p]
  | n + 1, p => (rm_o K p 0).flatMap (fun x => fo_o K n (p ++ [x]))
theorem rm_in {K : Nat} {p : List Nat} {m : Nat} (hm : m < K) (h : m ∉ p) : rm_o K p m = m :: rm_o K p (m + 1) := by
  unfold rm_o
  rw [show K - m = (K - (m + 1)) + 1 by omega, List.range'_succ, List.filter_cons_of_pos (by simpa using h)]
theorem rm_no {K : Nat} {p : List Nat} {m : Nat} (hm : m < K) (h : m ∈ p) : rm_o K p m = rm_o K p (m + 1) := by
  unfold rm_o
  rw [show K - m = (K - (m + 1)) + 1 by omega, List.range'_succ, List.filter_cons_of_neg (by simpa using h)]
theorem rm_K {K : Nat} {p : List Nat} : rm_o K p K = [] := by
  unfold rm_o
  rw [Nat.sub_self]
  rfl
theorem rm_lt {K : Nat} {p : List Nat} {m x : Nat} (h : x ∈ rm_o K p m) : x < K ∧ x ∉ p := by
  unfold rm_o at h
  have := List.mem_filter.mp h
  have h2 := List.mem_range'_1.mp this.1
  exact ⟨by omega, by simpa using this.2⟩
theorem fo_pre {K : Nat} : ∀ n p l, l ∈ fo_o K n p → ∃ q, l = p ++ q ∧ q.length = n ∧ ∀ x ∈ q, x < K
  | 0, p, l, h => by
    simp only [fo_o, List.mem_singleton] at h
    exact ⟨[], by simp [h], rfl, fun x hx => by cases hx⟩
  | n + 1, p, l, h => by
    simp only [fo_o] at h
    obtain ⟨x, h1, h2⟩ := List.mem_flatMap.mp h
    obtain ⟨q, h3, h4, h5⟩ := fo_pre n (p ++ [x]) l h2
    refine ⟨x :: q, by rw [h3]; simp, by simp [h4], fun y hy => ?_⟩
    rcases List.mem_cons.mp hy with e | e
    · rw [e]; exact (rm_lt h1).1
    · exact h5 y e
/-- what is no better now never will be -/
theorem cut_l {nd : Nat → Nat → Nat} {dr pm pc : Nat → Nat} {r : Option (Nat × Nat × List Nat)} {p : List Nat} (h : ¬ bt_o nd dr pm pc r p) : ∀ (ls : List (List Nat)), (∀ l ∈ ls, ∃ q, l = p ++ q) → ls.foldl (up_o nd dr pm pc) r = r
  | [], _ => rfl
  | l :: ls, hl => by
    obtain ⟨q, hq⟩ := hl l List.mem_cons_self
    have h1 := ev_ge (nd := nd) (dr := dr) (pm := pm) (pc := pc) p q
    have h2 := h1.2 4
    have h3 := h1.1
    rw [← hq] at h2 h3
    rw [List.foldl_cons, show up_o nd dr pm pc r l = r from if_neg (by unfold bt_o at *; omega)]
    exact cut_l h ls (fun l2 h4 => hl l2 (List.mem_cons_of_mem _ h4))
theorem cut_o {nd : Nat → Nat → Nat} {dr pm pc : Nat → Nat} {r : Option (Nat × Nat × List Nat)} {p : List Nat} {K n : Nat} (h : ¬ bt_o nd dr pm pc r p) : (fo_o K n p).foldl (up_o nd dr pm pc) r = r :=
  cut_l h _ (fun l hl => by obtain ⟨q, h1, -⟩ := fo_pre n p l hl; exact ⟨q, h1⟩)
theorem i_mx {a b : Nat} (ha : a < 2 ^ 31) (hb : b < 2 ^ 31) : (if nI a < nI b then nI b else nI a) = nI (max a b) := by
  by_cases h : a < b
  · rw [if_pos (nI_lt h hb), Nat.max_eq_right (by omega)]
  · rw [if_neg (nI_nlt (by omega) ha), Nat.max_eq_left (by omega)]
theorem i_ms {a b : Nat} (ha : a < 2 ^ 30) (hb : b < 2 ^ 30) : (if (0 : Int32) < nI a - nI b then nI a - nI b else 0) = nI (a - b) := by
  by_cases h : b ≤ a
  · rw [pk_sub h]
    by_cases e : a - b = 0
    · rw [e]; decide
    · exact if_pos (show nI 0 < nI (a - b) from nI_lt (by omega) (by omega))
  · have h1 := pk_sneg (a := a) (b := b) (by omega) (by omega)
    have : ¬ (0 : Int32) < nI a - nI b := by
      rw [Int32.not_lt]
      rw [Int32.le_iff_toInt_le]
      rw [Int32.lt_iff_toInt_lt] at h1
      omega
    rw [if_neg this, show a - b = 0 by omega]
    rfl
set_option maxRecDepth 100000 in
theorem bit_7 : ∀ j, j < 7 → ∀ u, u < 128 → ((((nI u >>> (nI j &&& 31)) &&& 1) = 1 ↔ u.testBit j = true) ∧ nI u ||| ((1 : Int32) <<< (nI j &&& 31)) = nI (u ||| 2 ^ j) ∧ u ||| 2 ^ j < 128) := by decide +kernel
theorem bit_or {u j i : Nat} : (u ||| 2 ^ j).testBit i = true ↔ (u.testBit i = true ∨ i = j) := by
  rw [Nat.testBit_or, Nat.testBit_two_pow, Bool.or_eq_true, decide_eq_true_iff]
  exact or_congr Iff.rfl eq_comm
