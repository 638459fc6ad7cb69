theorem rm_snoc {K : Nat} {p : List Nat} {x : Nat} : rm_o K (p ++ [x]) 0 = (rm_o K p 0).filter (fun y => y != x) := by
  unfold rm_o
  rw [List.filter_filter]
  congr 1
  funext y
  by_cases h : y = x <;> simp [h]
theorem rm_nd {K : Nat} {p : List Nat} : (rm_o K p 0).Nodup := by
  unfold rm_o
  exact List.Pairwise.filter _ (List.nodup_range' (step := 1) (by decide))
theorem rm_mem {K : Nat} {p : List Nat} {x : Nat} (h1 : x < K) (h2 : x ∉ p) : x ∈ rm_o K p 0 := by
  unfold rm_o
  rw [List.mem_filter]
  exact ⟨List.mem_range'_1.mpr (by omega), by simpa using h2⟩
/-- an order so far: no member twice -/
def od_o (K : Nat) (p : List Nat) : Prop := p.Nodup ∧ ∀ x ∈ p, x < K
theorem od_snoc {K : Nat} {p : List Nat} {x : Nat} (h : od_o K p) (hx : x ∈ rm_o K p 0) : od_o K (p ++ [x]) := by
  have h2 := rm_lt hx
  refine ⟨?_, fun y hy => ?_⟩
  · rw [List.nodup_append]
    exact ⟨h.1, by simp, fun a ha b hb e => h2.2 (by rw [List.mem_singleton.mp hb] at e; rw [← e]; exact ha)⟩
  · rcases List.mem_append.mp hy with e | e
    · exact h.2 y e
    · rw [List.mem_singleton.mp e]; exact h2.1
theorem od_dl {K : Nat} {p : List Nat} {x : Nat} (h : od_o K (p ++ [x])) : od_o K p ∧ x ∈ rm_o K p 0 := by
  have h1 := List.nodup_append.mp h.1
  refine ⟨⟨h1.1, fun y hy => h.2 y (by simp [hy])⟩, rm_mem (h.2 x (by simp)) (fun e => h1.2.2 x e x (by simp) rfl)⟩
theorem rm_len {K : Nat} : ∀ (n : Nat) (p : List Nat), p.length = n → od_o K p → (rm_o K p 0).length + n = K
  | 0, p, hl, _ => by
    have : p = [] := List.length_eq_zero_iff.mp hl
    subst this
    have e : rm_o K [] 0 = List.range' 0 K := by unfold rm_o; rw [Nat.sub_zero, List.filter_eq_self]; intro a _; simp
    rw [e]
    simp
  | n + 1, l, hl, ho => by
    obtain ⟨p, x, rfl⟩ : ∃ p x, l = p ++ [x] := ⟨l.dropLast, l.getLast (by intro e; rw [e] at hl; cases hl), (List.dropLast_concat_getLast _).symm⟩
    obtain ⟨h1, h2⟩ := od_dl ho
    have ih := rm_len n p (by simpa using hl) h1
    rw [rm_snoc, ← List.Nodup.erase_eq_filter rm_nd x, List.length_erase_of_mem h2]
    have := List.length_pos_of_mem h2
    omega
def fa : Nat → Nat
  | 0 => 1
  | n + 1 => (n + 1) * fa n
theorem fa_pos : ∀ n, 0 < fa n
  | 0 => Nat.one_pos
  | n + 1 => Nat.mul_pos (Nat.succ_pos n) (fa_pos n)
theorem fm_len {f : Nat → List (List Nat)} {c : Nat} : ∀ (l : List Nat), (∀ x ∈ l, (f x).length = c) → (l.flatMap f).length = l.length * c
  | [], _ => by simp
  | x :: l, h => by
    rw [List.flatMap_cons, List.length_append, h x List.mem_cons_self, fm_len l (fun y hy => h y (List.mem_cons_of_mem _ hy)), List.length_cons, Nat.succ_mul, Nat.add_comm]
theorem fo_len {K : Nat} : ∀ n p, p.length + n = K → od_o K p → (fo_o K n p).length = fa n
  | 0, p, _, _ => rfl
  | n + 1, p, hl, ho => by
    simp only [fo_o]
    rw [fm_len (c := fa n) _ (fun x hx => fo_len n (p ++ [x]) (by simp; omega) (od_snoc ho hx))]
    have := rm_len p.length p rfl ho
    rw [show (rm_o K p 0).length = n + 1 by omega]
    rfl
theorem fm_at {f : Nat → List (List Nat)} {c : Nat} : ∀ (l : List Nat) (a b : Nat), (∀ x ∈ l, (f x).length = c) → b < c → a < l.length → (l.flatMap f)[a * c + b]? = (f (l.getD a 0))[b]?
  | [], a, b, _, _, ha => by simp at ha
  | x :: l, a, b, h, hb, ha => by
    have hx := h x List.mem_cons_self
    rw [List.flatMap_cons]
    cases a with
    | zero =>
      rw [Nat.zero_mul, Nat.zero_add, List.getElem?_append_left (by omega)]
      simp
    | succ a =>
      have ih := fm_at l a b (fun y hy => h y (List.mem_cons_of_mem _ hy)) hb (by simpa using ha)
      rw [List.getElem?_append_right (by rw [hx, Nat.succ_mul]; omega), hx, show (a + 1) * c + b - c = a * c + b by rw [Nat.succ_mul]; omega, ih]
      simp
/-- the k-th order: its first member, and the rest -/
theorem fo_at {K n k : Nat} {p : List Nat} (hl : p.length + (n + 1) = K) (ho : od_o K p) (hk : k < fa (n + 1)) : (fo_o K (n + 1) p)[k]? = (fo_o K n (p ++ [(rm_o K p 0).getD (k / fa n) 0]))[k % fa n]? ∧ k / fa n < (rm_o K p 0).length := by
  have hlen := rm_len p.length p rfl ho
  have hq : k / fa n < (rm_o K p 0).length := by
    rw [Nat.div_lt_iff_lt_mul (fa_pos n), show (rm_o K p 0).length = n + 1 by omega]
    exact hk
  refine ⟨?_, hq⟩
  simp only [fo_o]
  have := fm_at (f := fun x => fo_o K n (p ++ [x])) (c := fa n) (rm_o K p 0) (k / fa n) (k % fa n) (fun x hx => fo_len n (p ++ [x]) (by simp; omega) (od_snoc ho hx)) (Nat.mod_lt _ (fa_pos n)) hq
  rw [Nat.div_add_mod' k (fa n)] at this
  exact this
theorem fo_od {K : Nat} : ∀ n p, od_o K p → ∀ l ∈ fo_o K n p, od_o K l ∧ l.length = p.length + n
  | 0, p, h, l, hl => by
    simp only [fo_o, List.mem_singleton] at hl
    rw [hl]
    exact ⟨h, rfl⟩
  | n + 1, p, h, l, hl => by
    simp only [fo_o] at hl
    obtain ⟨x, h1, h2⟩ := List.mem_flatMap.mp hl
    have := fo_od n (p ++ [x]) (od_snoc h h1) l h2
    refine ⟨this.1, this.2.trans ?_⟩
    simp
    omega
theorem od_nil {K : Nat} : od_o K [] := ⟨List.nodup_nil, fun x hx => by cases hx⟩
section ORD
variable {K : Nat} {nd : Nat → Nat → Nat} {dr pm pc : Nat → Nat}
theorem fu_some : ∀ (ls : List (List Nat)) (r : Option (Nat × Nat × List Nat)), (∀ l ∈ ls, (ev_o nd dr pm pc l).2 ≤ 2000000) → (ls ≠ [] ∨ r ≠ none) → ls.foldl (up_o nd dr pm pc) r ≠ none
  | [], r, _, h => h.elim (fun e => absurd rfl e) id
  | l :: ls, r, hb, h => by
    rw [List.foldl_cons]
    refine fu_some ls _ (fun l2 h2 => hb l2 (List.mem_cons_of_mem _ h2)) (Or.inr ?_)
    unfold up_o
    split
    · exact fun e => by cases e
    · rename_i hn
      intro e
      subst e
      have := hb l List.mem_cons_self
      exact hn (Or.inl (Nat.lt_of_le_of_lt this (by decide)))
theorem fu_mem : ∀ (ls : List (List Nat)) (r : Option (Nat × Nat × List Nat)) (b : Nat × Nat × List Nat), ls.foldl (up_o nd dr pm pc) r = some b → r = some b ∨ (b.2.2 ∈ ls ∧ b = ((ev_o nd dr pm pc b.2.2).2, (ev_o nd dr pm pc b.2.2).1 4, b.2.2))
  | [], r, b, h => Or.inl h
  | l :: ls, r, b, h => by
    rw [List.foldl_cons] at h
    rcases fu_mem ls _ b h with e | ⟨e1, e2⟩
    · unfold up_o at e
      split at e
      · refine Or.inr ?_
        cases e
        exact ⟨List.mem_cons_self, rfl⟩
      · exact Or.inl e
    · exact Or.inr ⟨List.mem_cons_of_mem _ e1, e2⟩
/-- the best order -/
def be_o (K : Nat) (nd : Nat → Nat → Nat) (dr pm pc : Nat → Nat) : Nat × Nat × List Nat := ((fo_o K K []).foldl (up_o nd dr pm pc) none).getD (0, 0, [])
theorem be_ok (hb : bd_o K nd dr pm pc) (hK : K ≤ 7) : (fo_o K K []).foldl (up_o nd dr pm pc) none = some (be_o K nd dr pm pc) ∧ od_o K (be_o K nd dr pm pc).2.2 ∧ (be_o K nd dr pm pc).2.2.length = K ∧ (be_o K nd dr pm pc).1 = (ev_o nd dr pm pc (be_o K nd dr pm pc).2.2).2 := by
  have h1 : (fo_o K K []).foldl (up_o nd dr pm pc) none ≠ none := fu_some _ _ (fun l hl => by
    have := fo_od K [] od_nil l hl
    exact (ev_b2 hb l (by rw [this.2]; simpa using hK) this.1.2).2) (Or.inl (fun e => by
    have := fo_len K [] (by simp) (od_nil (K := K))
    rw [e] at this
    have := fa_pos K
    simp at *
    omega))
  obtain ⟨b, h2⟩ := Option.ne_none_iff_exists'.mp h1
  have e : be_o K nd dr pm pc = b := by unfold be_o; rw [h2]; rfl
  rw [e]
  refine ⟨h2, ?_⟩
  rcases fu_mem _ _ b h2 with e1 | ⟨e1, e2⟩
  · cases e1
  · have := fo_od K [] od_nil _ e1
    exact ⟨this.1, by simpa using this.2, congrArg Prod.fst e2⟩
/-- the clocks alone -/
def cl_o (nd : Nat → Nat → Nat) (dr : Nat → Nat) (l : List Nat) : Nat → Nat := l.foldl (fun c j => ck (nd j) (dr j) c) (fun _ => 0)
theorem cl_snoc {l : List Nat} {j : Nat} : cl_o nd dr (l ++ [j]) = ck (nd j) (dr j) (cl_o nd dr l) := by simp [cl_o]
theorem ev_cl (l : List Nat) : (ev_o nd dr pm pc l).1 = cl_o nd dr l := by
  have : ∀ (l : List Nat) (s : (Nat → Nat) × Nat), (l.foldl (st_o nd dr pm pc) s).1 = l.foldl (fun c j => ck (nd j) (dr j) c) s.1 := by
    intro l
    induction l with
    | nil => exact fun _ => rfl
    | cons j l ih => exact fun s => ih _
  exact this l _
theorem cl_b2 (hb : bd_o K nd dr pm pc) (l : List Nat) (hl : l.length ≤ 8) (h : ∀ j ∈ l, j < K) : ∀ k, k < 5 → cl_o nd dr l k ≤ 3000 := by
  obtain ⟨h1, h2⟩ := ev_b hb l.length l rfl h
  rw [ev_cl] at h1
  exact fun k hk => by have := h1 k hk; omega
theorem tk_sn {l : List Nat} {i : Nat} (h : i < l.length) : l.take (i + 1) = l.take i ++ [l.getD i 0] := by
  rw [List.take_add_one]
  simp [h]
end ORD
/-- the books of a set, by number -/
def mb (u n : Nat) : List Nat := (List.range n).filter (fun x => u.testBit x)
theorem mb_0 {u : Nat} : mb u 0 = [] := rfl
theorem mb_in {u n : Nat} (h : u.testBit n = true) : mb u (n + 1) = mb u n ++ [n] := by
  unfold mb
  rw [List.range_succ, List.filter_append]
  simp [h]
theorem mb_no {u n : Nat} (h : ¬ u.testBit n = true) : mb u (n + 1) = mb u n := by
  unfold mb
  rw [List.range_succ, List.filter_append]
  simp [h]
theorem mb_lt {u n x : Nat} (h : x ∈ mb u n) : x < n ∧ u.testBit x = true := by
  unfold mb at h
  have := List.mem_filter.mp h
  exact ⟨List.mem_range.mp this.1, this.2⟩
theorem mb_le {u n m : Nat} (h : n ≤ m) : (mb u n).length ≤ (mb u m).length := by
  induction m with
  | zero => rw [show n = 0 by omega]; exact Nat.le_refl _
  | succ m ih =>
    by_cases e : n = m + 1
    · rw [e]; exact Nat.le_refl _
    · refine Nat.le_trans (ih (by omega)) ?_
      by_cases h2 : u.testBit m = true
      · rw [mb_in h2]; simp
      · rw [mb_no h2]; exact Nat.le_refl _
