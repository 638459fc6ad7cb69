/-- a book in an order: when it leaves each bench (n: its hours, d: how long it dries, c: when each bench is left by the book ahead) -/
def lf (n : Nat → Nat) (d : Nat) (c : Nat → Nat) : Nat → Nat
  | 0 => 0
  | k + 1 => max (lf n d c k + (if k = 3 then d else 0)) (c k) + n k
def ck (n : Nat → Nat) (d : Nat) (c : Nat → Nat) : Nat → Nat := fun k => lf n d c (k + 1)
theorem lf_b {n : Nat → Nat} {d B : Nat} {c : Nat → Nat} (hn : ∀ k, k < 5 → n k ≤ 50) (hd : d ≤ 30) (hc : ∀ k, k < 5 → c k ≤ B) : ∀ k, k ≤ 5 → lf n d c k ≤ B + 50 * k + (if k ≤ 3 then 0 else 30)
  | 0, _ => by simp [lf]
  | k + 1, hk => by
    have h1 := lf_b hn hd hc k (by omega)
    have h2 := hn k (by omega)
    have h3 := hc k (by omega)
    simp only [lf]
    by_cases e : k = 3
    · subst e
      simp only [if_true] at h1 ⊢
      simp at h1 ⊢
      omega
    · rw [if_neg e]
      split at h1 <;> split <;> omega
theorem lf_m {n : Nat → Nat} {d : Nat} {c c2 : Nat → Nat} (h : ∀ k, k < 5 → c k ≤ c2 k) : ∀ k, k ≤ 5 → lf n d c k ≤ lf n d c2 k
  | 0, _ => Nat.le_refl _
  | k + 1, hk => by
    have h1 := lf_m (n := n) (d := d) h k (by omega)
    have h2 := h k (by omega)
    simp only [lf]
    omega
theorem ck_ge {n : Nat → Nat} {d : Nat} {c : Nat → Nat} {k : Nat} : c k ≤ ck n d c k := by
  simp only [ck, lf]
  omega
/-- the orders of the members: hours nd, drying dr, promised pm, price pc -/
def st_o (nd : Nat → Nat → Nat) (dr pm pc : Nat → Nat) (s : (Nat → Nat) × Nat) (j : Nat) : (Nat → Nat) × Nat := (ck (nd j) (dr j) s.1, s.2 + pc j * (ck (nd j) (dr j) s.1 4 - pm j))
def ev_o (nd : Nat → Nat → Nat) (dr pm pc : Nat → Nat) (l : List Nat) : (Nat → Nat) × Nat := l.foldl (st_o nd dr pm pc) (fun _ => 0, 0)
theorem ev_snoc {nd : Nat → Nat → Nat} {dr pm pc : Nat → Nat} {l : List Nat} {j : Nat} : ev_o nd dr pm pc (l ++ [j]) = st_o nd dr pm pc (ev_o nd dr pm pc l) j := by
  simp [ev_o]
theorem fo_ge {nd : Nat → Nat → Nat} {dr pm pc : Nat → Nat} : ∀ (l : List Nat) (s : (Nat → Nat) × Nat), s.2 ≤ (l.foldl (st_o nd dr pm pc) s).2 ∧ ∀ k, s.1 k ≤ (l.foldl (st_o nd dr pm pc) s).1 k
  | [], s => ⟨Nat.le_refl _, fun _ => Nat.le_refl _⟩
  | j :: l, s => by
    obtain ⟨h1, h2⟩ := fo_ge (nd := nd) (dr := dr) (pm := pm) (pc := pc) l (st_o nd dr pm pc s j)
    refine ⟨Nat.le_trans (Nat.le_add_right _ _) h1, fun k => Nat.le_trans (ck_ge (n := nd j) (d := dr j)) (h2 k)⟩
theorem ev_ge {nd : Nat → Nat → Nat} {dr pm pc : Nat → Nat} (p q : List Nat) : (ev_o nd dr pm pc p).2 ≤ (ev_o nd dr pm pc (p ++ q)).2 ∧ ∀ k, (ev_o nd dr pm pc p).1 k ≤ (ev_o nd dr pm pc (p ++ q)).1 k := by
  unfold ev_o
  rw [List.foldl_append]
  exact fo_ge q _
def bd_o (K : Nat) (nd : Nat → Nat → Nat) (dr pm pc : Nat → Nat) : Prop := ∀ j, j < K → (∀ k, k < 5 → nd j k ≤ 50) ∧ dr j ≤ 30 ∧ pm j ≤ 2000 ∧ pc j ≤ 100
theorem ev_b {K : Nat} {nd : Nat → Nat → Nat} {dr pm pc : Nat → Nat} (hb : bd_o K nd dr pm pc) : ∀ (n : Nat) (l : List Nat), l.length = n → (∀ j ∈ l, j < K) → (∀ k, k < 5 → (ev_o nd dr pm pc l).1 k ≤ 280 * n) ∧ (ev_o nd dr pm pc l).2 ≤ 28000 * n * n
  | 0, l, hl, _ => by
    have : l = [] := List.length_eq_zero_iff.mp hl
    subst this
    exact ⟨fun _ _ => Nat.le_refl _, Nat.le_refl _⟩
  | n + 1, l, hl, hm => by
    obtain ⟨p, j, rfl⟩ : ∃ p j, l = p ++ [j] := ⟨l.dropLast, l.getLast (by intro e; rw [e] at hl; cases hl), (List.dropLast_append_getLast _).symm⟩
    obtain ⟨h1, h2⟩ := ev_b hb n p (by simpa using hl) (fun x hx => hm x (by simp [hx]))
    obtain ⟨b1, b2, b3, b4⟩ := hb j (hm j (by simp))
    rw [ev_snoc]
    have hk : ∀ k, k < 5 → ck (nd j) (dr j) (ev_o nd dr pm pc p).1 k ≤ 280 * n + 280 := fun k hk => by
      have := lf_b b1 b2 h1 (k + 1) (by omega)
      simp only [ck]
      split at this <;> omega
    refine ⟨fun k hk2 => by have := hk k hk2; show ck (nd j) (dr j) (ev_o nd dr pm pc p).1 k ≤ _; omega, ?_⟩
    show (ev_o nd dr pm pc p).2 + pc j * (ck (nd j) (dr j) (ev_o nd dr pm pc p).1 4 - pm j) ≤ _
    have h4 := hk 4 (by decide)
    have h5 : pc j * (ck (nd j) (dr j) (ev_o nd dr pm pc p).1 4 - pm j) ≤ 100 * (280 * n + 280) := Nat.mul_le_mul b4 (by omega)
    have h6 : 28000 * (n + 1) * (n + 1) = 28000 * n * n + 28000 * n + 28000 * n + 28000 := by
      rw [Nat.mul_succ (28000 * (n + 1)), Nat.mul_succ 28000, Nat.add_mul]
      omega
    omega
/-- a better one is taken; all orders, the first first -/
def up_o (nd : Nat → Nat → Nat) (dr pm pc : Nat → Nat) (r : Option (Nat × Nat × List Nat)) (l : List Nat) : Option (Nat × Nat × List Nat) := match r with
  | none => some ((ev_o nd dr pm pc l).2, (ev_o nd dr pm pc l).1 4, l)
  | some b => if (ev_o nd dr pm pc l).2 < b.1 ∨ ((ev_o nd dr pm pc l).2 = b.1 ∧ (ev_o nd dr pm pc l).1 4 < b.2.1) then some ((ev_o nd dr pm pc l).2, (ev_o nd dr pm pc l).1 4, l) else some b
def pe_o : Nat → List Nat → List (List Nat)
  | 0, _ => [[]]
  | n + 1, rem => rem.flatMap (fun x => (pe_o n (rem.erase x)).map (fun l => x :: l))
/-- what is no better now never will be -/
theorem cut_o {nd : Nat → Nat → Nat} {dr pm pc : Nat → Nat} {b : Nat × Nat × List Nat} {p : List Nat} (h : ¬ ((ev_o nd dr pm pc p).2 < b.1 ∨ ((ev_o nd dr pm pc p).2 = b.1 ∧ (ev_o nd dr pm pc p).1 4 < b.2.1))) : ∀ (ls : List (List Nat)), (ls.map (fun l => p ++ l)).foldl (up_o nd dr pm pc) (some b) = some b
  | [] => rfl
  | l :: ls => by
    have h1 := ev_ge (nd := nd) (dr := dr) (pm := pm) (pc := pc) p l
    have h2 := h1.2 4
    have h3 := h1.1
    simp only [List.map_cons, List.foldl_cons]
    rw [show up_o nd dr pm pc (some b) (p ++ l) = some b from if_neg (by omega)]
    exact cut_o h ls
