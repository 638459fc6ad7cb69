set_option maxRecDepth 100000 in
theorem bit_v : ∀ j, j < 10 → ∀ u, u < 1024 → ((nI u >>> (nI j &&& 31)) &&& 1) = (if u.testBit j = true then 1 else 0) := by decide +kernel
theorem anb0 (X Y : Int32) : (X &&& (Y ^^^ (-1))) &&& 1 = (X &&& 1) &&& ((Y &&& 1) ^^^ 1) := by
  apply Int32.toBitVec_inj.mp
  simp
  ext i hi
  simp
  by_cases h : i = 0
  · subst h; simp
  · simp [h]
theorem m1_s : ∀ j, j < 10 → (-1 : Int32) >>> (nI j &&& 31) = -1 := by decide +kernel
theorem anb {u w j : Nat} (hj : j < 10) (hu : u < 1024) (hw : w < 1024) : (((nI u &&& (nI w ^^^ (-1))) >>> (nI j &&& 31)) &&& 1) = (if (u.testBit j && !w.testBit j) = true then 1 else 0) := by
  rw [Int32.shiftRight_and, Int32.shiftRight_xor, m1_s j hj, anb0, bit_v j hj u hu, bit_v j hj w hw]
  cases u.testBit j <;> cases w.testBit j <;> decide
def fr (g : Nat → Bool) (b : Nat) : List Nat := (List.range' b (10 - b)).filter g
theorem fr_in {g : Nat → Bool} {b : Nat} (hb : b < 10) (h : g b = true) : fr g b = b :: fr g (b + 1) := by
  unfold fr
  rw [show 10 - b = (10 - (b + 1)) + 1 by omega, List.range'_succ, List.filter_cons_of_pos h]
theorem fr_no {g : Nat → Bool} {b : Nat} (hb : b < 10) (h : ¬ g b = true) : fr g b = fr g (b + 1) := by
  unfold fr
  rw [show 10 - b = (10 - (b + 1)) + 1 by omega, List.range'_succ, List.filter_cons_of_neg h]
theorem mb_nd (u n : Nat) : (mb u n).Nodup := by
  unfold mb
  exact List.Pairwise.filter _ List.nodup_range
theorem mb_at {u n x : Nat} (h : x < (mb u n).length) : (mb u n).getD x 0 < n ∧ u.testBit ((mb u n).getD x 0) = true := by
  rw [List.getD_eq_getElem?_getD, List.getElem?_eq_getElem h]
  exact mb_lt (List.getElem_mem _)
theorem nd_inj {l : List Nat} (h : l.Nodup) {x y : Nat} (hx : x < l.length) (hy : y < l.length) (e : l.getD x 0 = l.getD y 0) : x = y := by
  rw [List.getD_eq_getElem?_getD, List.getElem?_eq_getElem hx, List.getD_eq_getElem?_getD, List.getElem?_eq_getElem hy] at e
  have h2 := List.pairwise_iff_getElem.mp h
  rcases Nat.lt_trichotomy x y with a | a | a
  · exact absurd e (h2 x y hx hy a)
  · exact a
  · exact absurd e.symm (h2 y x hy hx a)
theorem mp_gd {l : List Nat} : (List.range' 0 l.length).map (fun x => l.getD x 0) = l := by
  refine List.ext_getElem (by simp) (fun i h1 h2 => ?_)
  simp [h2]
theorem rm_fr {u w K : Nat} {p : List Nat} (hK : (mb u 10).length = K) (hp : od_o K p) (hw : ∀ b, b < 10 → (w.testBit b = true ↔ ∃ x ∈ p, (mb u 10).getD x 0 = b)) : (rm_o K p 0).map (fun x => (mb u 10).getD x 0) = fr (fun b => u.testBit b && !w.testBit b) 0 := by
  have e1 : rm_o K p 0 = (List.range' 0 K).filter ((fun b => !w.testBit b) ∘ (fun x => (mb u 10).getD x 0)) := by
    unfold rm_o
    refine List.filter_congr (fun x hx => ?_)
    have hx2 : x < K := by have := List.mem_range'_1.mp hx; omega
    have hm := mb_at (u := u) (n := 10) (x := x) (by omega)
    have hw2 := hw _ hm.1
    have h3 : (∃ y ∈ p, (mb u 10).getD y 0 = (mb u 10).getD x 0) ↔ x ∈ p := by
      constructor
      · rintro ⟨y, h1, h2⟩
        rw [← nd_inj (mb_nd u 10) (by have := hp.2 y h1; omega) (by omega) h2]
        exact h1
      · exact fun h => ⟨x, h, rfl⟩
    rw [h3] at hw2
    by_cases hx3 : x ∈ p
    · simp only [Function.comp]
      rw [hw2.mpr hx3]
      simp [hx3]
    · simp only [Function.comp]
      rw [show w.testBit ((mb u 10).getD x 0) = false from Bool.eq_false_iff.mpr (fun e => hx3 (hw2.mp e))]
      simp [hx3]
  rw [e1, ← List.filter_map, ← hK, mp_gd]
  unfold mb fr
  rw [List.filter_filter, List.range_eq_range']
  exact List.filter_congr (fun x _ => by rw [Bool.and_comm])
theorem mp_at {l : List Nat} {f : Nat → Nat} {s : Nat} (h : s < l.length) : (l.map f).getD s 0 = f (l.getD s 0) := by
  simp [h]
theorem fa_b : ∀ n, n ≤ 7 → fa n ≤ 5040 := by decide
theorem fa_d (n : Nat) : fa (n + 1) / (n + 1) = fa n := by
  show (n + 1) * fa n / (n + 1) = fa n
  exact Nat.mul_div_cancel_left _ (Nat.succ_pos n)
set_option maxRecDepth 100000 in
set_option maxHeartbeats 4000000 in
theorem lp_X6_ts {sh : SH} {mi : MI} {mr : MR} (hB : ba_c sh mr) (u w K t : Nat) (p3 p4 p6 p7 p8 : Int32) (hu : u < 1024) (hw : w < 1024) {Po : PO} (hk : EV none 0 0 0 mX6_tell 86 [some (pv_r 29), some (pv_i (nI u)), some (pv_i (nI K)), some (pv_i p3), some (pv_i p4), some (pv_i (nI w)), some (pv_i p6), some (pv_i p7), some (pv_i p8), some (pv_i (nI 0)), some (pv_i (nI t))] [] sh mi mr Po) : ∀ b, b ≤ 10 → ∀ s, s < (fr (fun b => u.testBit b && !w.testBit b) b).length → (fr (fun b => u.testBit b && !w.testBit b) b).getD s 0 = t → EV none 0 0 0 mX6_tell 45 [some (pv_r 29), some (pv_i (nI u)), some (pv_i (nI K)), some (pv_i p3), some (pv_i p4), some (pv_i (nI w)), some (pv_i p6), some (pv_i p7), some (pv_i p8), some (pv_i (nI s)), some (pv_i (nI b))] [] sh mi mr Po := by
  refine lp_i 10 (fun b hb ih => ?_)
  intro s hs ht
  have hsl : s < 11 := by
    have := List.length_filter_le (fun b => u.testBit b && !w.testBit b) (List.range' b (10 - b))
    simp at this
    simp only [fr] at hs
    omega
  have hb9 : b < 10 := by
    rcases Nat.lt_or_ge b 10 with h | h
    · exact h
    · rw [show b = 10 by omega] at hs
      exact absurd hs (by simp [fr])
  refine ev_iload_n dX6_tell_45 rfl ?_
  refine ev_iload dX6_tell_46 rfl ?_
  refine ev_iconst (v := (-1)) dX6_tell_48 rfl ?_
  refine ev_ixor dX6_tell_49 ?_
  refine ev_iand dX6_tell_50 ?_
  refine ev_iload dX6_tell_51 rfl ?_
  refine ev_ishr dX6_tell_53 ?_
  refine ev_iconst (v := 1) dX6_tell_54 rfl ?_
  refine ev_iand dX6_tell_55 ?_
  rw [anb hb9 hu hw]
  refine ev_if_eq (tgt := 64) dX6_tell_56 rfl (fun h56 => ?_) (fun h56 => ?_)
  · have hg : ¬ (u.testBit b && !w.testBit b) = true := fun e => by rw [if_pos e] at h56; exact absurd h56 (by decide)
    refine ev_iload dX6_tell_64 rfl ?_
    refine ev_iload_n dX6_tell_66 rfl ?_
    refine ev_iload dX6_tell_67 rfl ?_
    refine ev_iconst (v := (-1)) dX6_tell_69 rfl ?_
    refine ev_ixor dX6_tell_70 ?_
    refine ev_iand dX6_tell_71 ?_
    refine ev_iload dX6_tell_72 rfl ?_
    refine ev_ishr dX6_tell_74 ?_
    refine ev_iconst (v := 1) dX6_tell_75 rfl ?_
    refine ev_iand dX6_tell_76 ?_
    rw [anb hb9 hu hw]
    refine ev_isub dX6_tell_77 ?_
    refine ev_istore dX6_tell_78 (by decide) ?_
    refine ev_iincN dX6_tell_80 rfl (by decide) ?_
    refine ev_goto (tgt := 45) dX6_tell_83 rfl ?_
    rw [fr_no hb9 hg] at hs ht
    rw [if_neg hg, Int32.sub_zero]
    exact ih hb9 s hs ht
  · have hg : (u.testBit b && !w.testBit b) = true := Classical.byContradiction (fun e => h56 (if_neg e))
    refine ev_iload dX6_tell_59 rfl ?_
    refine ev_if_le (tgt := 86) dX6_tell_61 rfl (fun h61 => ?_) (fun h61 => ?_)
    · rw [fr_in hb9 hg] at ht
      have hs0 : s = 0 := Nat.le_zero.mp ((nI_leI (a := s) (b := 0) (by omega) (by decide)).mp h61)
      rw [hs0] at ht
      have ht2 : b = t := by simpa using ht
      rw [hs0, ht2]
      exact hk
    · refine ev_iload dX6_tell_64 rfl ?_
      refine ev_iload_n dX6_tell_66 rfl ?_
      refine ev_iload dX6_tell_67 rfl ?_
      refine ev_iconst (v := (-1)) dX6_tell_69 rfl ?_
      refine ev_ixor dX6_tell_70 ?_
      refine ev_iand dX6_tell_71 ?_
      refine ev_iload dX6_tell_72 rfl ?_
      refine ev_ishr dX6_tell_74 ?_
      refine ev_iconst (v := 1) dX6_tell_75 rfl ?_
      refine ev_iand dX6_tell_76 ?_
      rw [anb hb9 hu hw]
      refine ev_isub dX6_tell_77 ?_
      refine ev_istore dX6_tell_78 (by decide) ?_
      refine ev_iincN dX6_tell_80 rfl (by decide) ?_
      refine ev_goto (tgt := 45) dX6_tell_83 rfl ?_
      rw [fr_in hb9 hg] at hs ht
      have hs0 : 0 < s := Nat.pos_of_ne_zero (fun e => h61 (by rw [e]; decide))
      rw [if_pos hg, show nI s - 1 = nI (s - 1) from pk_sub (b := 1) hs0]
      refine ih hb9 (s - 1) (by simp at hs; omega) ?_
      rw [show s = (s - 1) + 1 by omega] at ht
      simpa using ht
set_option maxRecDepth 100000 in
set_option maxHeartbeats 4000000 in
theorem lp_X6_tell {sh : SH} {mi : MI} {mr : MR} (hB : ba_c sh mr) (u K : Nat) (hu : u < 1024) (hK : (mb u 10).length = K) (hK7 : K ≤ 7) (l : List Nat) (p3 p4 : Int32) : ∀ i, i ≤ K → ∀ (p : List Nat) (w kk : Nat) (m : MI), p.length = i → od_o K p → w < 1024 → (∀ b, b < 10 → (w.testBit b = true ↔ ∃ x ∈ p, (mb u 10).getD x 0 = b)) → kk < fa (K - i) → (fo_o K (K - i) p)[kk]? = some l → (∀ a c, a ≠ 47 → m a c = mi a c) → (∀ a, a < i → m 47 a = nI ((mb u 10).getD (p.getD a 0) 0)) → EV none 0 0 0 mX6_tell 13 [some (pv_r 29), some (pv_i (nI u)), some (pv_i (nI K)), some (pv_i p3), some (pv_i p4), some (pv_i (nI w)), some (pv_i (nI kk)), some (pv_i (nI (fa (K - i)))), some (pv_i (nI i)), none, none] [] sh m mr (fun v_ sh_ mi_ mr_ => v_ = none ∧ sh_ = sh ∧ mr_ = mr ∧ (∀ a c, a ≠ 47 → mi_ a c = mi a c) ∧ ∀ i, i < K → mi_ 47 i = nI ((mb u 10).getD (l.getD i 0) 0)) := by
  refine lp_i K (fun i hi ih => ?_)
  intro p w kk m hpl hp hw hwb hkk hkl hag h47
  have hkb : kk < 5041 := Nat.lt_of_lt_of_le hkk (Nat.le_trans (fa_b _ (by omega)) (by decide))
  refine ev_iload dX6_tell_13 rfl ?_
  refine ev_iload_n dX6_tell_15 rfl ?_
  refine ev_icmp_ge (tgt := 110) dX6_tell_16 rfl (fun h16 => ?_) (fun h16 => ?_)
  · have hin : i = K := by have := (nI_leI (by omega) (by omega)).mp h16; omega
    subst hin
    rw [Nat.sub_self] at hkl hkk
    have hk0 : kk = 0 := by simp only [fa] at hkk; omega
    subst hk0
    have hpl2 : p = l := by simpa [fo_o] using hkl
    subst hpl2
    exact ev_return dX6_tell_110 rfl ⟨rfl, rfl, rfl, hag, h47⟩
  · have hlt : i < K := by have := (not_congr (nI_leI (by omega) (by omega))).mp h16; omega
    obtain ⟨n, hn⟩ : ∃ n, K - i = n + 1 := ⟨K - i - 1, by omega⟩
    have hn2 : K - (i + 1) = n := by omega
    rw [hn] at hkl hkk
    have hfp := fa_pos n
    have hfb := fa_b n (by omega)
    have hfb1 := fa_b (n + 1) (by omega)
    have hfo := fo_at (K := K) (n := n) (k := kk) (p := p) (by omega) hp hkk
    have hx : ((rm_o K p 0).getD (kk / fa n) 0) ∈ rm_o K p 0 := by rw [List.getD_eq_getElem?_getD, List.getElem?_eq_getElem hfo.2]; exact List.getElem_mem _
    have ht10 := mb_at (u := u) (n := 10) (x := ((rm_o K p 0).getD (kk / fa n) 0)) (by have := rm_lt hx; omega)
    refine ev_iload dX6_tell_19 rfl ?_
    refine ev_iload_n dX6_tell_21 rfl ?_
    refine ev_iload dX6_tell_22 rfl ?_
    refine ev_isub dX6_tell_24 ?_
    rw [pk_sub (by omega), hn]
    refine ev_idiv dX6_tell_25 (nI_ne0 (by omega) (by omega)) ?_
    rw [pk_div (by omega) (by omega) (by omega), fa_d]
    refine ev_istore dX6_tell_26 (by decide) ?_
    refine ev_iload dX6_tell_28 rfl ?_
    refine ev_iload dX6_tell_30 rfl ?_
    refine ev_idiv dX6_tell_32 (nI_ne0 hfp (by omega)) ?_
    rw [pk_div (by omega) hfp (by omega)]
    refine ev_istore dX6_tell_33 (by decide) ?_
    refine ev_iload dX6_tell_35 rfl ?_
    refine ev_iload dX6_tell_37 rfl ?_
    refine ev_irem dX6_tell_39 (nI_ne0 hfp (by omega)) ?_
    rw [pk_rem (by omega) hfp (by omega)]
    refine ev_istore dX6_tell_40 (by decide) ?_
    refine ev_iconst (v := 0) dX6_tell_42 rfl ?_
    refine ev_istore dX6_tell_43 (by decide) ?_
    refine lp_X6_ts hB u w K ((mb u 10).getD ((rm_o K p 0).getD (kk / fa n) 0) 0) _ _ _ _ _ hu hw ?_ 0 (by decide) (kk / fa n) (by rw [← rm_fr hK hp hwb, List.length_map]; exact hfo.2) (by rw [← rm_fr hK hp hwb, mp_at hfo.2])
    refine ev_aload_n dX6_tell_86 rfl ?_
    refine ev_getq dX6_tell_87 fl_X6_62 rfl (hB.1 29 _ rfl) (hB.2 29 21 _ rfl) ?_
    refine ev_iload dX6_tell_90 rfl ?_
    refine ev_iload dX6_tell_92 rfl ?_
    refine ev_iast dX6_tell_94 (hB.1 47 _ rfl) (j := i) rfl (by omega) (by decide) ?_
    refine ev_iload dX6_tell_95 rfl ?_
    refine ev_iconst (v := 1) dX6_tell_97 rfl ?_
    refine ev_iload dX6_tell_98 rfl ?_
    refine ev_ishl dX6_tell_100 ?_
    refine ev_ior dX6_tell_101 ?_
    refine ev_istore dX6_tell_102 (by decide) ?_
    refine ev_iincN dX6_tell_104 rfl (by decide) ?_
    refine ev_goto (tgt := 13) dX6_tell_107 rfl ?_
    rw [or_10 _ ht10.1 _ hw]
    refine ev_fg 10 (ev_fg 9 ?_)
    have q := ih hlt (p ++ [((rm_o K p 0).getD (kk / fa n) 0)]) (w ||| 2 ^ ((mb u 10).getD ((rm_o K p 0).getD (kk / fa n) 0) 0)) (kk % fa n) (up_2 m 47 i (nI ((mb u 10).getD ((rm_o K p 0).getD (kk / fa n) 0) 0))) (by simp [hpl]) (od_snoc hp hx) (Nat.or_lt_two_pow (n := 10) hw (Nat.pow_lt_pow_right (by decide) ht10.1)) ?_ (by rw [hn2]; exact Nat.mod_lt _ hfp) (by rw [hn2, ← hfo.1]; exact hkl) (fun a c g => (up_ne (Or.inl g)).trans (hag a c g)) ?_
    · rw [hn2] at q
      exact q
    · intro b hb
      rw [bit_or, hwb b hb]
      constructor
      · rintro (⟨x, h1, h2⟩ | h1)
        · exact ⟨x, by simp [h1], h2⟩
        · exact ⟨_, List.mem_append.mpr (Or.inr (List.mem_singleton.mpr rfl)), h1.symm⟩
      · rintro ⟨x, h1, h2⟩
        rcases List.mem_append.mp h1 with e | e
        · exact Or.inl ⟨x, e, h2⟩
        · rw [List.mem_singleton.mp e] at h2
          exact Or.inr h2.symm
    · intro a ha
      by_cases e : a = i
      · subst e
        rw [up_at, ← hpl, gd_r]
      · rw [up_ne (Or.inr e), gd_l (by omega)]
        exact h47 a (by omega)
set_option maxRecDepth 100000 in
set_option maxHeartbeats 4000000 in
theorem t_X6_tell {sh : SH} {mi : MI} {mr : MR} (hB : ba_c sh mr) (u K : Nat) (hu : u < 1024) (hK : (mb u 10).length = K) (hK7 : K ≤ 7) (l : List Nat) (k : Nat) (hk : k < fa K) (hkl : (fo_o K K [])[k]? = some l) : EV none 0 0 0 mX6_tell 0 (en_l mX6_tell [pv_r 29, pv_i (nI u), pv_i (nI K), pv_i (nI (fa K)), pv_i (nI k)]) [] sh mi mr (fun v_ sh_ mi_ mr_ => v_ = none ∧ sh_ = sh ∧ mr_ = mr ∧ (∀ a c, a ≠ 47 → mi_ a c = mi a c) ∧ ∀ i, i < K → mi_ 47 i = nI ((mb u 10).getD (l.getD i 0) 0)) := by
  show EV none 0 0 0 mX6_tell 0 [some (pv_r 29), some (pv_i (nI u)), some (pv_i (nI K)), some (pv_i (nI (fa K))), some (pv_i (nI k)), none, none, none, none, none, none] [] sh mi mr _
  refine ev_iconst (v := 0) dX6_tell_0 rfl ?_
  refine ev_istore dX6_tell_1 (by decide) ?_
  refine ev_iload dX6_tell_3 rfl ?_
  refine ev_istore dX6_tell_5 (by decide) ?_
  refine ev_iload_n dX6_tell_7 rfl ?_
  refine ev_istore dX6_tell_8 (by decide) ?_
  refine ev_iconst (v := 0) dX6_tell_10 rfl ?_
  refine ev_istore dX6_tell_11 (by decide) ?_
  exact lp_X6_tell hB u K hu hK hK7 l _ _ 0 (Nat.zero_le _) [] 0 k mi rfl od_nil (by decide) (fun b hb => by simp) hk hkl (fun _ _ _ => rfl) (fun a ha => by cases ha)
