theorem t_X6_findEnds_n {sh : SH} {mi : MI} {mr : MR} (hB : ba_c sh mr) {H : Nat → Nat → Nat} {Dr Pm Pc : Nat → Nat} (hbd : bd_o 10 H Dr Pm Pc) (r : List Nat) (K : Nat) (hrK : r.length = K) (hK7 : K ≤ 7) (hr10 : ∀ x ∈ r, x < 10) (hrow : ∀ i, i < K → mi 47 i = nI (r.getD i 0)) (hH : ∀ b, b < 10 → (∀ k, k < 5 → mi 45 (5 * b + k) = nI (H b k)) ∧ mi 46 b = nI (Dr b)) : EV none 0 0 0 mX6_findEnds 0 (en_l mX6_findEnds [pv_r 29, pv_i (nI K)]) [] sh mi mr (fun v_ sh_ mi_ mr_ => v_ = none ∧ sh_ = sh ∧ mr_ = mr ∧ (∀ a c, a ≠ 48 → a ≠ 49 → mi_ a c = mi a c) ∧ ∀ i, i < K → mi_ 48 i = nI (cl_o H Dr (r.take (i + 1)) 4)) := by
  subst hrK
  exact t_X6_findEnds hB hbd r hK7 hr10 hrow hH
theorem cl_mp {H : Nat → Nat → Nat} {Dr nu : Nat → Nat} {l : List Nat} : cl_o H Dr (l.map nu) = cl_o (fun j => H (nu j)) (fun j => Dr (nu j)) l := by
  unfold cl_o
  rw [List.foldl_map]
theorem co_s {nd : Nat → Nat → Nat} {dr pm pc : Nat → Nat} {l : List Nat} {i : Nat} (h : i < l.length) : (ev_o nd dr pm pc (l.take (i + 1))).2 = (ev_o nd dr pm pc (l.take i)).2 + pc (l.getD i 0) * (cl_o nd dr (l.take (i + 1)) 4 - pm (l.getD i 0)) := by
  rw [tk_sn h, ev_snoc, cl_snoc]
  show _ + pc (l.getD i 0) * (ck _ _ (ev_o nd dr pm pc (l.take i)).1 4 - _) = _
  rw [ev_cl]
theorem sb_le {a b : Nat} (ha : a < 2 ^ 30) (hb : b < 2 ^ 30) : (nI a - nI b) ≤ 0 ↔ a ≤ b := by
  rw [Int32.le_iff_toInt_le, pk_sub_toInt ha hb]
  have : (0 : Int32).toInt = 0 := rfl
  omega
def rb (r : Option (Nat × Nat × List Nat)) : Int32 := match r with
  | none => -1
  | some b => nI b.1
def re (r : Option (Nat × Nat × List Nat)) : Int32 := match r with
  | none => 0
  | some b => nI b.2.1
def rl_b (r : Option (Nat × Nat × List Nat)) : Prop := ∀ b, r = some b → b.1 ≤ 2000000 ∧ b.2.1 ≤ 3000
def bq (C E : Nat) (r : Option (Nat × Nat × List Nat)) : Prop := C < rc_c r ∨ (C = rc_c r ∧ E < rc_e r)
theorem up_y {nd : Nat → Nat → Nat} {dr pm pc : Nat → Nat} {r : Option (Nat × Nat × List Nat)} {l : List Nat} (h : bt_o nd dr pm pc r l) : up_o nd dr pm pc r l = some ((ev_o nd dr pm pc l).2, (ev_o nd dr pm pc l).1 4, l) := by
  unfold up_o
  rw [if_pos h]
theorem up_z {nd : Nat → Nat → Nat} {dr pm pc : Nat → Nat} {r : Option (Nat × Nat × List Nat)} {l : List Nat} (h : ¬ bt_o nd dr pm pc r l) : up_o nd dr pm pc r l = r := by
  unfold up_o
  rw [if_neg h]
section BQ
variable {C E : Nat} {r : Option (Nat × Nat × List Nat)}
theorem bq_1 (hr : rl_b r) (hC : C ≤ 2000000) (hE : E ≤ 3000) (h : rb r = -1) : bq C E r := by
  cases r with
  | none => exact Or.inl (Nat.lt_of_le_of_lt hC (by decide))
  | some b => exact absurd h (nI_m1 (by have := hr b rfl; omega))
theorem bq_2 (hr : rl_b r) (hC : C ≤ 2000000) (hE : E ≤ 3000) (h : nI C < rb r) : bq C E r := by
  cases r with
  | none => exact Or.inl (Nat.lt_of_le_of_lt hC (by decide))
  | some b => exact Or.inl ((nI_ltI (b := b.1) (by omega) (by have := hr b rfl; omega)).mp h)
theorem bq_3 (hr : rl_b r) (hC : C ≤ 2000000) (hE : E ≤ 3000) (h1 : ¬ rb r = -1) (h2 : ¬ nI C < rb r) (h3 : ¬ nI C = rb r) : ¬ bq C E r := by
  cases r with
  | none => exact absurd rfl h1
  | some b =>
    have hb := hr b rfl
    have e2 := (not_congr (nI_ltI (a := C) (b := b.1) (by omega) (by omega))).mp h2
    have e3 := (not_congr (nI_eq (a := C) (b := b.1) (by omega) (by omega))).mp h3
    rintro (q | q)
    · exact e2 q
    · exact e3 q.1
theorem bq_4 (hr : rl_b r) (hC : C ≤ 2000000) (hE : E ≤ 3000) (h1 : ¬ rb r = -1) (h3 : nI C = rb r) (h4 : re r ≤ nI E) : ¬ bq C E r := by
  cases r with
  | none => exact absurd rfl h1
  | some b =>
    have hb := hr b rfl
    have e3 := (nI_eq (a := C) (b := b.1) (by omega) (by omega)).mp h3
    have e4 := (nI_leI (a := b.2.1) (b := E) (by omega) (by omega)).mp h4
    rintro (q | q)
    · have q2 : C < b.1 := q
      omega
    · have q2 : E < b.2.1 := q.2
      omega
theorem bq_5 (hr : rl_b r) (hC : C ≤ 2000000) (hE : E ≤ 3000) (h1 : ¬ rb r = -1) (h3 : nI C = rb r) (h4 : ¬ re r ≤ nI E) : bq C E r := by
  cases r with
  | none => exact absurd rfl h1
  | some b =>
    have hb := hr b rfl
    have e3 := (nI_eq (a := C) (b := b.1) (by omega) (by omega)).mp h3
    have e4 := (not_congr (nI_leI (a := b.2.1) (b := E) (by omega) (by omega))).mp h4
    exact Or.inr ⟨e3, by show E < b.2.1; omega⟩
end BQ
def cc_m (m : MI) (i : Nat) : MI := fun a c => if a = 43 ∧ c < i then m 47 c else if a = 44 ∧ c < i then m 48 c else m a c
theorem cc_0 {m : MI} : cc_m m 0 = m := by
  funext a c
  simp [cc_m]
theorem cc_s {m : MI} {i : Nat} : up_2 (up_2 (cc_m m i) 43 i (cc_m m i 47 i)) 44 i (up_2 (cc_m m i) 43 i (cc_m m i 47 i) 48 i) = cc_m m (i + 1) := by
  have e1 : cc_m m i 47 i = m 47 i := by simp [cc_m]
  have e2 : up_2 (cc_m m i) 43 i (cc_m m i 47 i) 48 i = m 48 i := by simp [cc_m, up_2]
  rw [e2, e1]
  funext a c
  simp only [cc_m, up_2]
  by_cases h1 : a = 44
  · subst h1
    simp only [show ¬ ((44 : Nat) = 43) by decide, false_and, if_false, true_and]
    by_cases h2 : c = i
    · rw [if_pos h2, if_pos (by omega), h2]
    · rw [if_neg h2]
      by_cases h3 : c < i
      · rw [if_pos h3, if_pos (by omega)]
      · rw [if_neg h3, if_neg (by omega)]
  · by_cases h0 : a = 43
    · subst h0
      simp only [show ¬ ((43 : Nat) = 44) by decide, false_and, if_false, true_and]
      by_cases h2 : c = i
      · rw [if_pos h2, if_pos (by omega), h2]
      · rw [if_neg h2]
        by_cases h3 : c < i
        · rw [if_pos h3, if_pos (by omega)]
        · rw [if_neg h3, if_neg (by omega)]
    · simp [h1, h0]
/-- a cell becomes the copy of another -/
def cq_m (mi : MI) (k1 k2 n : Nat) : MI := fun a c => if a = k1 ∧ c < n then mi k2 c else mi a c
theorem cq_0 {mi : MI} {k1 k2 : Nat} : cq_m mi k1 k2 0 = mi := by
  funext a c
  simp [cq_m]
theorem cq_s {mi : MI} {k1 k2 n : Nat} (h : k2 ≠ k1) : up_2 (cq_m mi k1 k2 n) k1 n (cq_m mi k1 k2 n k2 n) = cq_m mi k1 k2 (n + 1) := by
  have e1 : cq_m mi k1 k2 n k2 n = mi k2 n := by simp [cq_m, h]
  rw [e1]
  funext a c
  simp only [cq_m, up_2]
  by_cases h1 : a = k1
  · subst h1
    simp only [true_and]
    by_cases h2 : c = n
    · rw [if_pos h2, if_pos (by omega), h2]
    · rw [if_neg h2]
      by_cases h3 : c < n
      · rw [if_pos h3, if_pos (by omega)]
      · rw [if_neg h3, if_neg (by omega)]
  · simp [h1]
set_option maxRecDepth 100000 in
set_option maxHeartbeats 4000000 in
theorem lp_X6_cost {sh : SH} {mi : MI} {mr : MR} (hB : ba_c sh mr) {H : Nat → Nat → Nat} {Dr Pm Pc : Nat → Nat} (hbd : bd_o 10 H Dr Pm Pc) (u K : Nat) (hu : u < 1024) (hK : (mb u 10).length = K) (hK7 : K ≤ 7) (l : List Nat) (hlK : l.length = K) (hod : od_o K l) (h47 : ∀ i, i < K → mi 47 i = nI ((mb u 10).getD (l.getD i 0) 0)) (h48 : ∀ i, i < K → mi 48 i = nI (cl_o (fun j => H ((mb u 10).getD j 0)) (fun j => Dr ((mb u 10).getD j 0)) (l.take (i + 1)) 4)) (h39 : ∀ b, b < 10 → mi 39 b = nI (Pm b) ∧ mi 40 b = nI (Pc b)) (p3 p4 p5 p6 : Int32) {Po : PO} (hk : EV none 1 0 0 mX6_plan 206 [some (pv_r 29), some (pv_i (nI u)), some (pv_i (nI K)), some (pv_i p3), some (pv_i p4), some (pv_i p5), some (pv_i p6), some (pv_i (nI (ev_o (fun j => H ((mb u 10).getD j 0)) (fun j => Dr ((mb u 10).getD j 0)) (fun j => Pm ((mb u 10).getD j 0)) (fun j => Pc ((mb u 10).getD j 0)) l).2)), some (pv_i (nI K)), none] [] sh mi mr Po) : ∀ i, i ≤ K → EV none 1 0 0 mX6_plan 143 [some (pv_r 29), some (pv_i (nI u)), some (pv_i (nI K)), some (pv_i p3), some (pv_i p4), some (pv_i p5), some (pv_i p6), some (pv_i (nI (ev_o (fun j => H ((mb u 10).getD j 0)) (fun j => Dr ((mb u 10).getD j 0)) (fun j => Pm ((mb u 10).getD j 0)) (fun j => Pc ((mb u 10).getD j 0)) (l.take i)).2)), some (pv_i (nI i)), none] [] sh mi mr Po := by
  have hbd2 : bd_o K (fun j => H ((mb u 10).getD j 0)) (fun j => Dr ((mb u 10).getD j 0)) (fun j => Pm ((mb u 10).getD j 0)) (fun j => Pc ((mb u 10).getD j 0)) := fun j hj => hbd _ (mb_at (by omega)).1
  refine lp_i K (fun i hi ih => ?_)
  refine ev_iload dX6_plan_143 rfl ?_
  refine ev_iload_n dX6_plan_145 rfl ?_
  refine ev_icmp_ge (tgt := 206) dX6_plan_146 rfl (fun h146 => ?_) (fun h146 => ?_)
  · have hin : i = K := by have := (nI_leI (by omega) (by omega)).mp h146; omega
    subst hin
    rw [List.take_of_length_le (by omega)]
    exact hk
  · have hlt : i < K := by have := (not_congr (nI_leI (by omega) (by omega))).mp h146; omega
    have hj := gd_lt hod (i := i) (by omega)
    have hx := mb_at (u := u) (n := 10) (x := (l.getD i 0)) (by omega)
    have hcb := cl_b2 hbd2 (l.take (i + 1)) (by simp; omega) (fun x hx => hod.2 x (List.mem_of_mem_take hx)) 4 (by decide)
    have hpb := (hbd _ hx.1).2.2.1
    refine ev_aload_n dX6_plan_149 rfl ?_
    refine ev_getq dX6_plan_150 fl_X6_65 rfl (hB.1 29 _ rfl) (hB.2 29 22 _ rfl) ?_
    refine ev_iload dX6_plan_153 rfl ?_
    refine ev_iald dX6_plan_155 (hB.1 48 _ rfl) (j := i) rfl (by omega) (by decide) ?_
    refine ev_aload_n dX6_plan_156 rfl ?_
    refine ev_getq dX6_plan_157 fl_X6_38 rfl (hB.1 29 _ rfl) (hB.2 29 11 _ rfl) ?_
    refine ev_aload_n dX6_plan_160 rfl ?_
    refine ev_getq dX6_plan_161 fl_X6_62 rfl (hB.1 29 _ rfl) (hB.2 29 21 _ rfl) ?_
    refine ev_iload dX6_plan_164 rfl ?_
    refine ev_iald dX6_plan_166 (hB.1 47 _ rfl) (j := i) rfl (by omega) (by decide) ?_
    refine ev_iald dX6_plan_167 (hB.1 39 _ rfl) (j := ((mb u 10).getD (l.getD i 0) 0)) (h47 i hlt) (by omega) (by decide) ?_
    refine ev_isub dX6_plan_168 ?_
    rw [h48 i hlt, (h39 _ hx.1).1]
    refine ev_istore dX6_plan_169 (by decide) ?_
    refine ev_iload dX6_plan_171 rfl ?_
    refine ev_iload dX6_plan_173 rfl ?_
    refine ev_if_le (tgt := 196) dX6_plan_175 rfl (fun h175 => ?_) (fun h175 => ?_)
    · refine ev_iconst (v := 0) dX6_plan_196 rfl ?_
      refine ev_iadd dX6_plan_197 ?_
      rw [show ((nI (ev_o (fun j => H ((mb u 10).getD j 0)) (fun j => Dr ((mb u 10).getD j 0)) (fun j => Pm ((mb u 10).getD j 0)) (fun j => Pc ((mb u 10).getD j 0)) (l.take i)).2) + 0) = nI (ev_o (fun j => H ((mb u 10).getD j 0)) (fun j => Dr ((mb u 10).getD j 0)) (fun j => Pm ((mb u 10).getD j 0)) (fun j => Pc ((mb u 10).getD j 0)) (l.take (i + 1))).2 by rw [co_s (by omega), Int32.add_zero]; have e := (sb_le (by omega) (by omega)).mp h175; rw [show (cl_o (fun j => H ((mb u 10).getD j 0)) (fun j => Dr ((mb u 10).getD j 0)) (l.take (i + 1)) 4) - Pm ((mb u 10).getD (l.getD i 0) 0) = 0 by omega, Nat.mul_zero, Nat.add_zero]]
      refine ev_istore dX6_plan_198 (by decide) ?_
      refine ev_iincN dX6_plan_200 rfl (by decide) ?_
      refine ev_goto (tgt := 143) dX6_plan_203 rfl ?_
      exact ev_fg 9 (ih hlt)
    · refine ev_iload dX6_plan_178 rfl ?_
      refine ev_aload_n dX6_plan_180 rfl ?_
      refine ev_getq dX6_plan_181 fl_X6_41 rfl (hB.1 29 _ rfl) (hB.2 29 12 _ rfl) ?_
      refine ev_aload_n dX6_plan_184 rfl ?_
      refine ev_getq dX6_plan_185 fl_X6_62 rfl (hB.1 29 _ rfl) (hB.2 29 21 _ rfl) ?_
      refine ev_iload dX6_plan_188 rfl ?_
      refine ev_iald dX6_plan_190 (hB.1 47 _ rfl) (j := i) rfl (by omega) (by decide) ?_
      refine ev_iald dX6_plan_191 (hB.1 40 _ rfl) (j := ((mb u 10).getD (l.getD i 0) 0)) (h47 i hlt) (by omega) (by decide) ?_
      refine ev_imul dX6_plan_192 ?_
      refine ev_goto (tgt := 197) dX6_plan_193 rfl ?_
      refine ev_iadd dX6_plan_197 ?_
      rw [show ((nI (ev_o (fun j => H ((mb u 10).getD j 0)) (fun j => Dr ((mb u 10).getD j 0)) (fun j => Pm ((mb u 10).getD j 0)) (fun j => Pc ((mb u 10).getD j 0)) (l.take i)).2) + ((nI (cl_o (fun j => H ((mb u 10).getD j 0)) (fun j => Dr ((mb u 10).getD j 0)) (l.take (i + 1)) 4) - nI (Pm ((mb u 10).getD (l.getD i 0) 0))) * (mi 40 ((mb u 10).getD (l.getD i 0) 0)))) = nI (ev_o (fun j => H ((mb u 10).getD j 0)) (fun j => Dr ((mb u 10).getD j 0)) (fun j => Pm ((mb u 10).getD j 0)) (fun j => Pc ((mb u 10).getD j 0)) (l.take (i + 1))).2 by rw [co_s (by omega)]; have e := (not_congr (sb_le (by omega) (by omega))).mp h175; rw [pk_sub (by omega), (h39 _ hx.1).2, pk_mul, nI_add, Nat.mul_comm]]
      refine ev_istore dX6_plan_198 (by decide) ?_
      refine ev_iincN dX6_plan_200 rfl (by decide) ?_
      refine ev_goto (tgt := 143) dX6_plan_203 rfl ?_
      exact ev_fg 9 (ih hlt)
set_option maxRecDepth 100000 in
set_option maxHeartbeats 4000000 in
theorem lp_X6_cc {sh : SH} {mi : MI} {mr : MR} (hB : ba_c sh mr) (u K : Nat) (hK7 : K ≤ 7) (p3 p4 p5 p6 p7 : Int32) {Po : PO} (hk : EV none 1 0 0 mX6_plan 296 [some (pv_r 29), some (pv_i (nI u)), some (pv_i (nI K)), some (pv_i p3), some (pv_i p4), some (pv_i p5), some (pv_i p6), some (pv_i p7), some (pv_i (nI K)), none] [] sh (cc_m mi K) mr Po) : ∀ i, i ≤ K → EV none 1 0 0 mX6_plan 256 [some (pv_r 29), some (pv_i (nI u)), some (pv_i (nI K)), some (pv_i p3), some (pv_i p4), some (pv_i p5), some (pv_i p6), some (pv_i p7), some (pv_i (nI i)), none] [] sh (cc_m mi i) mr Po := by
  refine lp_i K (fun i hi ih => ?_)
  refine ev_iload dX6_plan_256 rfl ?_
  refine ev_iload_n dX6_plan_258 rfl ?_
  refine ev_icmp_ge (tgt := 296) dX6_plan_259 rfl (fun h259 => ?_) (fun h259 => ?_)
  · have hin : i = K := by have := (nI_leI (by omega) (by omega)).mp h259; omega
    subst hin
    exact hk
  · have hlt : i < K := by have := (not_congr (nI_leI (by omega) (by omega))).mp h259; omega
    refine ev_aload_n dX6_plan_262 rfl ?_
    refine ev_getq dX6_plan_263 fl_X6_50 rfl (hB.1 29 _ rfl) (hB.2 29 17 _ rfl) ?_
    refine ev_iload dX6_plan_266 rfl ?_
    refine ev_aload_n dX6_plan_268 rfl ?_
    refine ev_getq dX6_plan_269 fl_X6_62 rfl (hB.1 29 _ rfl) (hB.2 29 21 _ rfl) ?_
    refine ev_iload dX6_plan_272 rfl ?_
    refine ev_iald dX6_plan_274 (hB.1 47 _ rfl) (j := i) rfl (by omega) (by decide) ?_
    refine ev_iast dX6_plan_275 (hB.1 43 _ rfl) (j := i) rfl (by omega) (by decide) ?_
    refine ev_aload_n dX6_plan_276 rfl ?_
    refine ev_getq dX6_plan_277 fl_X6_53 rfl (hB.1 29 _ rfl) (hB.2 29 18 _ rfl) ?_
    refine ev_iload dX6_plan_280 rfl ?_
    refine ev_aload_n dX6_plan_282 rfl ?_
    refine ev_getq dX6_plan_283 fl_X6_65 rfl (hB.1 29 _ rfl) (hB.2 29 22 _ rfl) ?_
    refine ev_iload dX6_plan_286 rfl ?_
    refine ev_iald dX6_plan_288 (hB.1 48 _ rfl) (j := i) rfl (by omega) (by decide) ?_
    refine ev_iast dX6_plan_289 (hB.1 44 _ rfl) (j := i) rfl (by omega) (by decide) ?_
    refine ev_iincN dX6_plan_290 rfl (by decide) ?_
    refine ev_goto (tgt := 256) dX6_plan_293 rfl ?_
    have q := ih hlt
    rw [← cc_s] at q
    exact q
set_option maxRecDepth 100000 in
set_option maxHeartbeats 4000000 in
theorem lp_X6_plan {sh : SH} {mi : MI} {mr : MR} (hB : ba_c sh mr) {H : Nat → Nat → Nat} {Dr Pm Pc : Nat → Nat} (hbd : bd_o 10 H Dr Pm Pc) (u K : Nat) (hu : u < 1024) (hK : (mb u 10).length = K) (hK1 : 1 ≤ K) (hK7 : K ≤ 7) (hH : ∀ b, b < 10 → (∀ k, k < 5 → mi 45 (5 * b + k) = nI (H b k)) ∧ mi 46 b = nI (Dr b)) (h39 : ∀ b, b < 10 → mi 39 b = nI (Pm b) ∧ mi 40 b = nI (Pc b)) : ∀ k, k ≤ fa K → ∀ m : MI, (∀ a c, (a < 43 ∨ (44 < a ∧ a < 47) ∨ 49 < a) → m a c = mi a c) → (∀ b, (((fo_o K K []).take k).foldl (up_o (fun j => H ((mb u 10).getD j 0)) (fun j => Dr ((mb u 10).getD j 0)) (fun j => Pm ((mb u 10).getD j 0)) (fun j => Pc ((mb u 10).getD j 0))) none) = some b → ∀ i, i < K → m 43 i = nI ((mb u 10).getD (b.2.2.getD i 0) 0) ∧ m 44 i = nI (cl_o (fun j => H ((mb u 10).getD j 0)) (fun j => Dr ((mb u 10).getD j 0)) (b.2.2.take (i + 1)) 4)) → EV none 1 0 0 mX6_plan 117 [some (pv_r 29), some (pv_i (nI u)), some (pv_i (nI K)), some (pv_i (nI (fa K))), some (pv_i (rb (((fo_o K K []).take k).foldl (up_o (fun j => H ((mb u 10).getD j 0)) (fun j => Dr ((mb u 10).getD j 0)) (fun j => Pm ((mb u 10).getD j 0)) (fun j => Pc ((mb u 10).getD j 0))) none))), some (pv_i (re (((fo_o K K []).take k).foldl (up_o (fun j => H ((mb u 10).getD j 0)) (fun j => Dr ((mb u 10).getD j 0)) (fun j => Pm ((mb u 10).getD j 0)) (fun j => Pc ((mb u 10).getD j 0))) none))), some (pv_i (nI k)), none, none, none] [] sh m mr (fun v_ sh_ mi_ mr_ => v_ = some (pv_i (nI (be_o K (fun j => H ((mb u 10).getD j 0)) (fun j => Dr ((mb u 10).getD j 0)) (fun j => Pm ((mb u 10).getD j 0)) (fun j => Pc ((mb u 10).getD j 0))).1)) ∧ sh_ = sh ∧ mr_ = mr ∧ (∀ a c, ¬ (a = 29 ∧ c = 16) → (a < 43 ∨ (44 < a ∧ a < 47) ∨ 49 < a) → mi_ a c = mi a c) ∧ mi_ 29 16 = nI K ∧ ∀ i, i < K → mi_ 43 i = nI ((mb u 10).getD ((be_o K (fun j => H ((mb u 10).getD j 0)) (fun j => Dr ((mb u 10).getD j 0)) (fun j => Pm ((mb u 10).getD j 0)) (fun j => Pc ((mb u 10).getD j 0))).2.2.getD i 0) 0) ∧ mi_ 44 i = nI (cl_o (fun j => H ((mb u 10).getD j 0)) (fun j => Dr ((mb u 10).getD j 0)) ((be_o K (fun j => H ((mb u 10).getD j 0)) (fun j => Dr ((mb u 10).getD j 0)) (fun j => Pm ((mb u 10).getD j 0)) (fun j => Pc ((mb u 10).getD j 0))).2.2.take (i + 1)) 4)) := by
  have hbd2 : bd_o K (fun j => H ((mb u 10).getD j 0)) (fun j => Dr ((mb u 10).getD j 0)) (fun j => Pm ((mb u 10).getD j 0)) (fun j => Pc ((mb u 10).getD j 0)) := fun j hj => hbd _ (mb_at (by omega)).1
  have hfl := fo_len K [] (by simp) (od_nil (K := K))
  have hfb := fa_b K hK7
  have hfin : (((fo_o K K []).take (fa K)).foldl (up_o (fun j => H ((mb u 10).getD j 0)) (fun j => Dr ((mb u 10).getD j 0)) (fun j => Pm ((mb u 10).getD j 0)) (fun j => Pc ((mb u 10).getD j 0))) none) = some (be_o K (fun j => H ((mb u 10).getD j 0)) (fun j => Dr ((mb u 10).getD j 0)) (fun j => Pm ((mb u 10).getD j 0)) (fun j => Pc ((mb u 10).getD j 0))) := by rw [List.take_of_length_le (by omega)]; exact (be_ok hbd2 hK7).1
  refine lp_i (fa K) (fun k hk5 ih => ?_)
  intro m hag hrc
  refine ev_iload dX6_plan_117 rfl ?_
  refine ev_iload_n dX6_plan_119 rfl ?_
  refine ev_icmp_ge (tgt := 302) dX6_plan_120 rfl (fun h120 => ?_) (fun h120 => ?_)
  · have hin : k = fa K := by have := (nI_leI (by omega) (by omega)).mp h120; omega
    subst hin
    refine ev_aload_n dX6_plan_302 rfl ?_
    refine ev_iload_n dX6_plan_303 rfl ?_
    refine ev_puti dX6_plan_304 fl_X6_162 rfl rfl (hB.1 29 _ rfl) ?_
    refine ev_iload dX6_plan_307 rfl ?_
    exact ev_ireturn (ty := .int) dX6_plan_309 rfl rfl (⟨by rw [hfin]; simp only [rb], rfl, rfl, fun a c g1 g2 => (up_ne (by omega)).trans (hag a c g2), up_at, fun i hi => ⟨(up_ne (Or.inl (by decide))).trans (hrc _ hfin i hi).1, (up_ne (Or.inl (by decide))).trans (hrc _ hfin i hi).2⟩⟩)
  · have hlt : k < fa K := by have := (not_congr (nI_leI (by omega) (by omega))).mp h120; omega
    obtain ⟨l, hkl⟩ : ∃ l, (fo_o K K [])[k]? = some l := ⟨_, List.getElem?_eq_getElem (by rw [hfl]; exact hlt)⟩
    have hlm := List.mem_of_getElem? hkl
    have hlo := fo_od K [] od_nil l hlm
    have hod := hlo.1
    have hlK : l.length = K := by rw [hlo.2]; simp
    have hst : (((fo_o K K []).take (k + 1)).foldl (up_o (fun j => H ((mb u 10).getD j 0)) (fun j => Dr ((mb u 10).getD j 0)) (fun j => Pm ((mb u 10).getD j 0)) (fun j => Pc ((mb u 10).getD j 0))) none) = up_o (fun j => H ((mb u 10).getD j 0)) (fun j => Dr ((mb u 10).getD j 0)) (fun j => Pm ((mb u 10).getD j 0)) (fun j => Pc ((mb u 10).getD j 0)) (((fo_o K K []).take k).foldl (up_o (fun j => H ((mb u 10).getD j 0)) (fun j => Dr ((mb u 10).getD j 0)) (fun j => Pm ((mb u 10).getD j 0)) (fun j => Pc ((mb u 10).getD j 0))) none) l := by rw [List.take_add_one, hkl]; simp
    have hlb := ev_b2 hbd2 l (by omega) hod.2
    have hCb := hlb.2
    have hEb : (ev_o (fun j => H ((mb u 10).getD j 0)) (fun j => Dr ((mb u 10).getD j 0)) (fun j => Pm ((mb u 10).getD j 0)) (fun j => Pc ((mb u 10).getD j 0)) l).1 4 ≤ 3000 := by rw [ev_cl]; exact cl_b2 hbd2 l (by omega) hod.2 4 (by decide)
    have hrb : rl_b (((fo_o K K []).take k).foldl (up_o (fun j => H ((mb u 10).getD j 0)) (fun j => Dr ((mb u 10).getD j 0)) (fun j => Pm ((mb u 10).getD j 0)) (fun j => Pc ((mb u 10).getD j 0))) none) := fun b hb => by
      rcases fu_mem _ _ b hb with e | ⟨e1, e2⟩
      · cases e
      · have h1 := fo_od K [] od_nil _ (List.mem_of_mem_take e1)
        rw [e2]
        refine ⟨(ev_b2 hbd2 b.2.2 (by rw [h1.2]; simp; omega) h1.1.2).2, ?_⟩
        show (ev_o (fun j => H ((mb u 10).getD j 0)) (fun j => Dr ((mb u 10).getD j 0)) (fun j => Pm ((mb u 10).getD j 0)) (fun j => Pc ((mb u 10).getD j 0)) b.2.2).1 4 ≤ 3000
        rw [ev_cl]
        exact cl_b2 hbd2 b.2.2 (by rw [h1.2]; simp; omega) h1.1.2 4 (by decide)
    refine ev_aload_n dX6_plan_123 rfl ?_
    refine ev_iload_n dX6_plan_124 rfl ?_
    refine ev_iload_n dX6_plan_125 rfl ?_
    refine ev_iload_n dX6_plan_126 rfl ?_
    refine ev_iload dX6_plan_127 rfl ?_
    refine ev_callv (av := [pv_i (nI u), pv_i (nI K), pv_i (nI (fa K)), pv_i (nI k)]) dX6_plan_129 cv_X6_154 (hB.1 29 _ rfl) rfl rfl (Nat.le_of_ble_eq_true rfl) (by decide) (Or.inl (fun v_ s_ m_ r_ h_ => by rw [h_.2.1])) (Nat.zero_add _) (Nat.zero_add _) (t_X6_tell hB u K hu hK hK7 l k hlt hkl) ?_
    rintro v_ sh_ m2 mr_ ⟨e1_, e2_, e3_, hT1, hT2⟩
    subst e1_
    have e2_ := e2_.symm
    subst e2_
    have e3_ := e3_.symm
    subst e3_
    refine ev_aload_n dX6_plan_132 rfl ?_
    refine ev_iload_n dX6_plan_133 rfl ?_
    refine ev_callv (av := [pv_i (nI K)]) dX6_plan_134 cv_X6_158 (hB.1 29 _ rfl) rfl rfl (Nat.le_of_ble_eq_true rfl) (by decide) (Or.inl (fun v_ s_ m_ r_ h_ => by rw [h_.2.1])) (Nat.zero_add _) (Nat.zero_add _) (t_X6_findEnds_n hB hbd (l.map (fun x => (mb u 10).getD x 0)) K (by rw [List.length_map, hlK]) hK7 (fun x hx => by obtain ⟨y, h1, h2⟩ := List.mem_map.mp hx; rw [← h2]; exact (mb_at (by have := hod.2 y h1; omega)).1) (fun i hi => by rw [mp_at (by omega)]; exact hT2 i hi) (fun b hb => ⟨fun k hk => ((hT1 45 _ (by decide)).trans (hag 45 _ (by omega))).trans ((hH b hb).1 k hk), ((hT1 46 _ (by decide)).trans (hag 46 _ (by omega))).trans (hH b hb).2⟩)) ?_
    rintro v_ sh_ m3 mr_ ⟨e1_, e2_, e3_, hF1, hF2⟩
    subst e1_
    have e2_ := e2_.symm
    subst e2_
    have e3_ := e3_.symm
    subst e3_
    have h47 : ∀ i, i < K → m3 47 i = nI ((mb u 10).getD (l.getD i 0) 0) := fun i hi => (hF1 47 i (by decide) (by decide)).trans (hT2 i hi)
    have h48 : ∀ i, i < K → m3 48 i = nI (cl_o (fun j => H ((mb u 10).getD j 0)) (fun j => Dr ((mb u 10).getD j 0)) (l.take (i + 1)) 4) := fun i hi => by rw [hF2 i hi, ← List.map_take, cl_mp]
    have hag3 : ∀ a c, (a < 43 ∨ (44 < a ∧ a < 47) ∨ 49 < a) → m3 a c = mi a c := fun a c g => (hF1 a c (by omega) (by omega)).trans ((hT1 a c (by omega)).trans (hag a c g))
    have hrc3 : ∀ b, (((fo_o K K []).take k).foldl (up_o (fun j => H ((mb u 10).getD j 0)) (fun j => Dr ((mb u 10).getD j 0)) (fun j => Pm ((mb u 10).getD j 0)) (fun j => Pc ((mb u 10).getD j 0))) none) = some b → ∀ i, i < K → m3 43 i = nI ((mb u 10).getD (b.2.2.getD i 0) 0) ∧ m3 44 i = nI (cl_o (fun j => H ((mb u 10).getD j 0)) (fun j => Dr ((mb u 10).getD j 0)) (b.2.2.take (i + 1)) 4) := fun b hb i hi => ⟨(hF1 43 i (by decide) (by decide)).trans ((hT1 43 i (by decide)).trans (hrc b hb i hi).1), (hF1 44 i (by decide) (by decide)).trans ((hT1 44 i (by decide)).trans (hrc b hb i hi).2)⟩
    have hE48 : m3 48 (K - 1) = nI ((ev_o (fun j => H ((mb u 10).getD j 0)) (fun j => Dr ((mb u 10).getD j 0)) (fun j => Pm ((mb u 10).getD j 0)) (fun j => Pc ((mb u 10).getD j 0)) l).1 4) := by rw [h48 (K - 1) (by omega), show K - 1 + 1 = K by omega, List.take_of_length_le (by omega), ev_cl]
    refine ev_iconst (v := 0) dX6_plan_137 rfl ?_
    refine ev_istore dX6_plan_138 (by decide) ?_
    refine ev_iconst (v := 0) dX6_plan_140 rfl ?_
    refine ev_istore dX6_plan_141 (by decide) ?_
    refine lp_X6_cost hB hbd u K hu hK hK7 l hlK hod h47 h48 (fun b hb => ⟨(hag3 39 b (by omega)).trans (h39 b hb).1, (hag3 40 b (by omega)).trans (h39 b hb).2⟩) _ _ _ _ ?_ 0 (Nat.zero_le K)
    refine ev_iload dX6_plan_206 rfl ?_
    refine ev_iconst (v := (-1)) dX6_plan_208 rfl ?_
    refine ev_icmp_eq (tgt := 239) dX6_plan_209 rfl (fun h209 => ?_) (fun h209 => ?_)
    · refine ev_iload dX6_plan_239 rfl ?_
      refine ev_istore dX6_plan_241 (by decide) ?_
      refine ev_aload_n dX6_plan_243 rfl ?_
      refine ev_getq dX6_plan_244 fl_X6_65 rfl (hB.1 29 _ rfl) (hB.2 29 22 _ rfl) ?_
      refine ev_iload_n dX6_plan_247 rfl ?_
      refine ev_iconst (v := 1) dX6_plan_248 rfl ?_
      refine ev_isub dX6_plan_249 ?_
      refine ev_iald dX6_plan_250 (hB.1 48 _ rfl) (j := K - 1) (pk_sub (b := 1) (by omega)) (by omega) (by decide) ?_
      rw [hE48]
      refine ev_istore dX6_plan_251 (by decide) ?_
      refine ev_iconst (v := 0) dX6_plan_253 rfl ?_
      refine ev_istore dX6_plan_254 (by decide) ?_
      have hbt : bt_o (fun j => H ((mb u 10).getD j 0)) (fun j => Dr ((mb u 10).getD j 0)) (fun j => Pm ((mb u 10).getD j 0)) (fun j => Pc ((mb u 10).getD j 0)) (((fo_o K K []).take k).foldl (up_o (fun j => H ((mb u 10).getD j 0)) (fun j => Dr ((mb u 10).getD j 0)) (fun j => Pm ((mb u 10).getD j 0)) (fun j => Pc ((mb u 10).getD j 0))) none) l := bq_1 hrb hCb hEb h209
      have hup : (((fo_o K K []).take (k + 1)).foldl (up_o (fun j => H ((mb u 10).getD j 0)) (fun j => Dr ((mb u 10).getD j 0)) (fun j => Pm ((mb u 10).getD j 0)) (fun j => Pc ((mb u 10).getD j 0))) none) = some ((ev_o (fun j => H ((mb u 10).getD j 0)) (fun j => Dr ((mb u 10).getD j 0)) (fun j => Pm ((mb u 10).getD j 0)) (fun j => Pc ((mb u 10).getD j 0)) l).2, (ev_o (fun j => H ((mb u 10).getD j 0)) (fun j => Dr ((mb u 10).getD j 0)) (fun j => Pm ((mb u 10).getD j 0)) (fun j => Pc ((mb u 10).getD j 0)) l).1 4, l) := hst.trans (up_y hbt)
      have q := lp_X6_cc (mi := m3) hB u K hK7 (nI (fa K)) (nI (ev_o (fun j => H ((mb u 10).getD j 0)) (fun j => Dr ((mb u 10).getD j 0)) (fun j => Pm ((mb u 10).getD j 0)) (fun j => Pc ((mb u 10).getD j 0)) l).2) (nI ((ev_o (fun j => H ((mb u 10).getD j 0)) (fun j => Dr ((mb u 10).getD j 0)) (fun j => Pm ((mb u 10).getD j 0)) (fun j => Pc ((mb u 10).getD j 0)) l).1 4)) (nI k) (nI (ev_o (fun j => H ((mb u 10).getD j 0)) (fun j => Dr ((mb u 10).getD j 0)) (fun j => Pm ((mb u 10).getD j 0)) (fun j => Pc ((mb u 10).getD j 0)) l).2) (Po := fun v_ sh_ mi_ mr_ => v_ = some (pv_i (nI (be_o K (fun j => H ((mb u 10).getD j 0)) (fun j => Dr ((mb u 10).getD j 0)) (fun j => Pm ((mb u 10).getD j 0)) (fun j => Pc ((mb u 10).getD j 0))).1)) ∧ sh_ = sh ∧ mr_ = mr ∧ (∀ a c, ¬ (a = 29 ∧ c = 16) → (a < 43 ∨ (44 < a ∧ a < 47) ∨ 49 < a) → mi_ a c = mi a c) ∧ mi_ 29 16 = nI K ∧ ∀ i, i < K → mi_ 43 i = nI ((mb u 10).getD ((be_o K (fun j => H ((mb u 10).getD j 0)) (fun j => Dr ((mb u 10).getD j 0)) (fun j => Pm ((mb u 10).getD j 0)) (fun j => Pc ((mb u 10).getD j 0))).2.2.getD i 0) 0) ∧ mi_ 44 i = nI (cl_o (fun j => H ((mb u 10).getD j 0)) (fun j => Dr ((mb u 10).getD j 0)) ((be_o K (fun j => H ((mb u 10).getD j 0)) (fun j => Dr ((mb u 10).getD j 0)) (fun j => Pm ((mb u 10).getD j 0)) (fun j => Pc ((mb u 10).getD j 0))).2.2.take (i + 1)) 4)) ?_ 0 (Nat.zero_le K)
      · rw [cc_0] at q
        exact q
      · refine ev_iincN dX6_plan_296 rfl (by decide) ?_
        refine ev_goto (tgt := 117) dX6_plan_299 rfl ?_
        refine ev_fg 9 (ev_fg 8 (ev_fg 7 ?_))
        have q := ih hlt (cc_m m3 K) (fun a c g => by rw [← hag3 a c g]; simp only [cc_m]; rw [if_neg (by omega), if_neg (by omega)]) ?_
        · rw [hup] at q
          simp only [rb, re] at q
          exact q
        · intro b hb i hi
          rw [hup] at hb
          have hb2 := (Option.some.inj hb).symm
          subst hb2
          refine ⟨?_, ?_⟩
          · rw [← h47 i hi]
            simp only [cc_m]
            rw [if_pos ⟨trivial, hi⟩]
          · rw [← h48 i hi]
            simp only [cc_m]
            rw [if_neg (by omega), if_pos ⟨trivial, hi⟩]
    · refine ev_iload dX6_plan_212 rfl ?_
      refine ev_iload dX6_plan_214 rfl ?_
      refine ev_icmp_lt (tgt := 239) dX6_plan_216 rfl (fun h216 => ?_) (fun h216 => ?_)
      · refine ev_iload dX6_plan_239 rfl ?_
        refine ev_istore dX6_plan_241 (by decide) ?_
        refine ev_aload_n dX6_plan_243 rfl ?_
        refine ev_getq dX6_plan_244 fl_X6_65 rfl (hB.1 29 _ rfl) (hB.2 29 22 _ rfl) ?_
        refine ev_iload_n dX6_plan_247 rfl ?_
        refine ev_iconst (v := 1) dX6_plan_248 rfl ?_
        refine ev_isub dX6_plan_249 ?_
        refine ev_iald dX6_plan_250 (hB.1 48 _ rfl) (j := K - 1) (pk_sub (b := 1) (by omega)) (by omega) (by decide) ?_
        rw [hE48]
        refine ev_istore dX6_plan_251 (by decide) ?_
        refine ev_iconst (v := 0) dX6_plan_253 rfl ?_
        refine ev_istore dX6_plan_254 (by decide) ?_
        have hbt : bt_o (fun j => H ((mb u 10).getD j 0)) (fun j => Dr ((mb u 10).getD j 0)) (fun j => Pm ((mb u 10).getD j 0)) (fun j => Pc ((mb u 10).getD j 0)) (((fo_o K K []).take k).foldl (up_o (fun j => H ((mb u 10).getD j 0)) (fun j => Dr ((mb u 10).getD j 0)) (fun j => Pm ((mb u 10).getD j 0)) (fun j => Pc ((mb u 10).getD j 0))) none) l := bq_2 hrb hCb hEb h216
        have hup : (((fo_o K K []).take (k + 1)).foldl (up_o (fun j => H ((mb u 10).getD j 0)) (fun j => Dr ((mb u 10).getD j 0)) (fun j => Pm ((mb u 10).getD j 0)) (fun j => Pc ((mb u 10).getD j 0))) none) = some ((ev_o (fun j => H ((mb u 10).getD j 0)) (fun j => Dr ((mb u 10).getD j 0)) (fun j => Pm ((mb u 10).getD j 0)) (fun j => Pc ((mb u 10).getD j 0)) l).2, (ev_o (fun j => H ((mb u 10).getD j 0)) (fun j => Dr ((mb u 10).getD j 0)) (fun j => Pm ((mb u 10).getD j 0)) (fun j => Pc ((mb u 10).getD j 0)) l).1 4, l) := hst.trans (up_y hbt)
        have q := lp_X6_cc (mi := m3) hB u K hK7 (nI (fa K)) (nI (ev_o (fun j => H ((mb u 10).getD j 0)) (fun j => Dr ((mb u 10).getD j 0)) (fun j => Pm ((mb u 10).getD j 0)) (fun j => Pc ((mb u 10).getD j 0)) l).2) (nI ((ev_o (fun j => H ((mb u 10).getD j 0)) (fun j => Dr ((mb u 10).getD j 0)) (fun j => Pm ((mb u 10).getD j 0)) (fun j => Pc ((mb u 10).getD j 0)) l).1 4)) (nI k) (nI (ev_o (fun j => H ((mb u 10).getD j 0)) (fun j => Dr ((mb u 10).getD j 0)) (fun j => Pm ((mb u 10).getD j 0)) (fun j => Pc ((mb u 10).getD j 0)) l).2) (Po := fun v_ sh_ mi_ mr_ => v_ = some (pv_i (nI (be_o K (fun j => H ((mb u 10).getD j 0)) (fun j => Dr ((mb u 10).getD j 0)) (fun j => Pm ((mb u 10).getD j 0)) (fun j => Pc ((mb u 10).getD j 0))).1)) ∧ sh_ = sh ∧ mr_ = mr ∧ (∀ a c, ¬ (a = 29 ∧ c = 16) → (a < 43 ∨ (44 < a ∧ a < 47) ∨ 49 < a) → mi_ a c = mi a c) ∧ mi_ 29 16 = nI K ∧ ∀ i, i < K → mi_ 43 i = nI ((mb u 10).getD ((be_o K (fun j => H ((mb u 10).getD j 0)) (fun j => Dr ((mb u 10).getD j 0)) (fun j => Pm ((mb u 10).getD j 0)) (fun j => Pc ((mb u 10).getD j 0))).2.2.getD i 0) 0) ∧ mi_ 44 i = nI (cl_o (fun j => H ((mb u 10).getD j 0)) (fun j => Dr ((mb u 10).getD j 0)) ((be_o K (fun j => H ((mb u 10).getD j 0)) (fun j => Dr ((mb u 10).getD j 0)) (fun j => Pm ((mb u 10).getD j 0)) (fun j => Pc ((mb u 10).getD j 0))).2.2.take (i + 1)) 4)) ?_ 0 (Nat.zero_le K)
        · rw [cc_0] at q
          exact q
        · refine ev_iincN dX6_plan_296 rfl (by decide) ?_
          refine ev_goto (tgt := 117) dX6_plan_299 rfl ?_
          refine ev_fg 9 (ev_fg 8 (ev_fg 7 ?_))
          have q := ih hlt (cc_m m3 K) (fun a c g => by rw [← hag3 a c g]; simp only [cc_m]; rw [if_neg (by omega), if_neg (by omega)]) ?_
          · rw [hup] at q
            simp only [rb, re] at q
            exact q
          · intro b hb i hi
            rw [hup] at hb
            have hb2 := (Option.some.inj hb).symm
            subst hb2
            refine ⟨?_, ?_⟩
            · rw [← h47 i hi]
              simp only [cc_m]
              rw [if_pos ⟨trivial, hi⟩]
            · rw [← h48 i hi]
              simp only [cc_m]
              rw [if_neg (by omega), if_pos ⟨trivial, hi⟩]
      · refine ev_iload dX6_plan_219 rfl ?_
        refine ev_iload dX6_plan_221 rfl ?_
        refine ev_icmp_ne (tgt := 296) dX6_plan_223 rfl (fun h223 => ?_) (fun h223 => ?_)
        · refine ev_iincN dX6_plan_296 rfl (by decide) ?_
          refine ev_goto (tgt := 117) dX6_plan_299 rfl ?_
          refine ev_fg 9 (ev_fg 8 (ev_fg 7 ?_))
          have hbt : ¬ bt_o (fun j => H ((mb u 10).getD j 0)) (fun j => Dr ((mb u 10).getD j 0)) (fun j => Pm ((mb u 10).getD j 0)) (fun j => Pc ((mb u 10).getD j 0)) (((fo_o K K []).take k).foldl (up_o (fun j => H ((mb u 10).getD j 0)) (fun j => Dr ((mb u 10).getD j 0)) (fun j => Pm ((mb u 10).getD j 0)) (fun j => Pc ((mb u 10).getD j 0))) none) l := bq_3 hrb hCb hEb h209 h216 h223
          have hup : (((fo_o K K []).take (k + 1)).foldl (up_o (fun j => H ((mb u 10).getD j 0)) (fun j => Dr ((mb u 10).getD j 0)) (fun j => Pm ((mb u 10).getD j 0)) (fun j => Pc ((mb u 10).getD j 0))) none) = (((fo_o K K []).take k).foldl (up_o (fun j => H ((mb u 10).getD j 0)) (fun j => Dr ((mb u 10).getD j 0)) (fun j => Pm ((mb u 10).getD j 0)) (fun j => Pc ((mb u 10).getD j 0))) none) := hst.trans (up_z hbt)
          have q := ih hlt m3 hag3 (by rw [hup]; exact hrc3)
          rw [hup] at q
          exact q
        · refine ev_aload_n dX6_plan_226 rfl ?_
          refine ev_getq dX6_plan_227 fl_X6_65 rfl (hB.1 29 _ rfl) (hB.2 29 22 _ rfl) ?_
          refine ev_iload_n dX6_plan_230 rfl ?_
          refine ev_iconst (v := 1) dX6_plan_231 rfl ?_
          refine ev_isub dX6_plan_232 ?_
          refine ev_iald dX6_plan_233 (hB.1 48 _ rfl) (j := K - 1) (pk_sub (b := 1) (by omega)) (by omega) (by decide) ?_
          refine ev_iload dX6_plan_234 rfl ?_
          rw [hE48]
          refine ev_icmp_ge (tgt := 296) dX6_plan_236 rfl (fun h236 => ?_) (fun h236 => ?_)
          · refine ev_iincN dX6_plan_296 rfl (by decide) ?_
            refine ev_goto (tgt := 117) dX6_plan_299 rfl ?_
            refine ev_fg 9 (ev_fg 8 (ev_fg 7 ?_))
            have hbt : ¬ bt_o (fun j => H ((mb u 10).getD j 0)) (fun j => Dr ((mb u 10).getD j 0)) (fun j => Pm ((mb u 10).getD j 0)) (fun j => Pc ((mb u 10).getD j 0)) (((fo_o K K []).take k).foldl (up_o (fun j => H ((mb u 10).getD j 0)) (fun j => Dr ((mb u 10).getD j 0)) (fun j => Pm ((mb u 10).getD j 0)) (fun j => Pc ((mb u 10).getD j 0))) none) l := bq_4 hrb hCb hEb h209 h223 h236
            have hup : (((fo_o K K []).take (k + 1)).foldl (up_o (fun j => H ((mb u 10).getD j 0)) (fun j => Dr ((mb u 10).getD j 0)) (fun j => Pm ((mb u 10).getD j 0)) (fun j => Pc ((mb u 10).getD j 0))) none) = (((fo_o K K []).take k).foldl (up_o (fun j => H ((mb u 10).getD j 0)) (fun j => Dr ((mb u 10).getD j 0)) (fun j => Pm ((mb u 10).getD j 0)) (fun j => Pc ((mb u 10).getD j 0))) none) := hst.trans (up_z hbt)
            have q := ih hlt m3 hag3 (by rw [hup]; exact hrc3)
            rw [hup] at q
            exact q
          · refine ev_iload dX6_plan_239 rfl ?_
            refine ev_istore dX6_plan_241 (by decide) ?_
            refine ev_aload_n dX6_plan_243 rfl ?_
            refine ev_getq dX6_plan_244 fl_X6_65 rfl (hB.1 29 _ rfl) (hB.2 29 22 _ rfl) ?_
            refine ev_iload_n dX6_plan_247 rfl ?_
            refine ev_iconst (v := 1) dX6_plan_248 rfl ?_
            refine ev_isub dX6_plan_249 ?_
            refine ev_iald dX6_plan_250 (hB.1 48 _ rfl) (j := K - 1) (pk_sub (b := 1) (by omega)) (by omega) (by decide) ?_
            rw [hE48]
            refine ev_istore dX6_plan_251 (by decide) ?_
            refine ev_iconst (v := 0) dX6_plan_253 rfl ?_
            refine ev_istore dX6_plan_254 (by decide) ?_
            have hbt : bt_o (fun j => H ((mb u 10).getD j 0)) (fun j => Dr ((mb u 10).getD j 0)) (fun j => Pm ((mb u 10).getD j 0)) (fun j => Pc ((mb u 10).getD j 0)) (((fo_o K K []).take k).foldl (up_o (fun j => H ((mb u 10).getD j 0)) (fun j => Dr ((mb u 10).getD j 0)) (fun j => Pm ((mb u 10).getD j 0)) (fun j => Pc ((mb u 10).getD j 0))) none) l := bq_5 hrb hCb hEb h209 h223 h236
            have hup : (((fo_o K K []).take (k + 1)).foldl (up_o (fun j => H ((mb u 10).getD j 0)) (fun j => Dr ((mb u 10).getD j 0)) (fun j => Pm ((mb u 10).getD j 0)) (fun j => Pc ((mb u 10).getD j 0))) none) = some ((ev_o (fun j => H ((mb u 10).getD j 0)) (fun j => Dr ((mb u 10).getD j 0)) (fun j => Pm ((mb u 10).getD j 0)) (fun j => Pc ((mb u 10).getD j 0)) l).2, (ev_o (fun j => H ((mb u 10).getD j 0)) (fun j => Dr ((mb u 10).getD j 0)) (fun j => Pm ((mb u 10).getD j 0)) (fun j => Pc ((mb u 10).getD j 0)) l).1 4, l) := hst.trans (up_y hbt)
            have q := lp_X6_cc (mi := m3) hB u K hK7 (nI (fa K)) (nI (ev_o (fun j => H ((mb u 10).getD j 0)) (fun j => Dr ((mb u 10).getD j 0)) (fun j => Pm ((mb u 10).getD j 0)) (fun j => Pc ((mb u 10).getD j 0)) l).2) (nI ((ev_o (fun j => H ((mb u 10).getD j 0)) (fun j => Dr ((mb u 10).getD j 0)) (fun j => Pm ((mb u 10).getD j 0)) (fun j => Pc ((mb u 10).getD j 0)) l).1 4)) (nI k) (nI (ev_o (fun j => H ((mb u 10).getD j 0)) (fun j => Dr ((mb u 10).getD j 0)) (fun j => Pm ((mb u 10).getD j 0)) (fun j => Pc ((mb u 10).getD j 0)) l).2) (Po := fun v_ sh_ mi_ mr_ => v_ = some (pv_i (nI (be_o K (fun j => H ((mb u 10).getD j 0)) (fun j => Dr ((mb u 10).getD j 0)) (fun j => Pm ((mb u 10).getD j 0)) (fun j => Pc ((mb u 10).getD j 0))).1)) ∧ sh_ = sh ∧ mr_ = mr ∧ (∀ a c, ¬ (a = 29 ∧ c = 16) → (a < 43 ∨ (44 < a ∧ a < 47) ∨ 49 < a) → mi_ a c = mi a c) ∧ mi_ 29 16 = nI K ∧ ∀ i, i < K → mi_ 43 i = nI ((mb u 10).getD ((be_o K (fun j => H ((mb u 10).getD j 0)) (fun j => Dr ((mb u 10).getD j 0)) (fun j => Pm ((mb u 10).getD j 0)) (fun j => Pc ((mb u 10).getD j 0))).2.2.getD i 0) 0) ∧ mi_ 44 i = nI (cl_o (fun j => H ((mb u 10).getD j 0)) (fun j => Dr ((mb u 10).getD j 0)) ((be_o K (fun j => H ((mb u 10).getD j 0)) (fun j => Dr ((mb u 10).getD j 0)) (fun j => Pm ((mb u 10).getD j 0)) (fun j => Pc ((mb u 10).getD j 0))).2.2.take (i + 1)) 4)) ?_ 0 (Nat.zero_le K)
            · rw [cc_0] at q
              exact q
            · refine ev_iincN dX6_plan_296 rfl (by decide) ?_
              refine ev_goto (tgt := 117) dX6_plan_299 rfl ?_
              refine ev_fg 9 (ev_fg 8 (ev_fg 7 ?_))
              have q := ih hlt (cc_m m3 K) (fun a c g => by rw [← hag3 a c g]; simp only [cc_m]; rw [if_neg (by omega), if_neg (by omega)]) ?_
              · rw [hup] at q
                simp only [rb, re] at q
                exact q
              · intro b hb i hi
                rw [hup] at hb
                have hb2 := (Option.some.inj hb).symm
                subst hb2
                refine ⟨?_, ?_⟩
                · rw [← h47 i hi]
                  simp only [cc_m]
                  rw [if_pos ⟨trivial, hi⟩]
                · rw [← h48 i hi]
                  simp only [cc_m]
                  rw [if_neg (by omega), if_pos ⟨trivial, hi⟩]
