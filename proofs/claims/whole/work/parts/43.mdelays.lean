theorem da_bit {nu : Nat → Nat} {nd : Nat → Nat → Nat} {dr : Nat → Nat} {l : List Nat} {f t : Nat} : ∀ i, ((da nu nd dr l f i).testBit t = true ↔ ∃ j, j < i ∧ j ≠ f ∧ cl_o nd dr (l.take (j + 1)) 4 < cl_o nd dr (qo l f j ++ [l.getD j 0]) 4 ∧ t = nu (l.getD j 0))
  | 0 => by simp [da]
  | i + 1 => by
    have ih := da_bit (nu := nu) (nd := nd) (dr := dr) (l := l) (f := f) (t := t) i
    simp only [da]
    split
    · rename_i h
      rw [bit_or, ih]
      constructor
      · rintro (⟨j, h1, h2⟩ | h1)
        · exact ⟨j, by omega, h2⟩
        · exact ⟨i, by omega, h.1, h.2, h1⟩
      · rintro ⟨j, h1, h2, h3, h4⟩
        by_cases e : j = i
        · subst e
          exact Or.inr h4
        · exact Or.inl ⟨j, by omega, h2, h3, h4⟩
    · rename_i h
      rw [ih]
      constructor
      · rintro ⟨j, h1, h2⟩
        exact ⟨j, by omega, h2⟩
      · rintro ⟨j, h1, h2, h3, h4⟩
        by_cases e : j = i
        · subst e
          exact absurd ⟨h2, h3⟩ h
        · exact ⟨j, by omega, h2, h3, h4⟩
theorem qo_pre {l : List Nat} {f i : Nat} : ∀ n, (qo l f (i + n)).take (qo l f i).length = qo l f i
  | 0 => by rw [Nat.add_zero, List.take_of_length_le (Nat.le_refl _)]
  | n + 1 => by
    have ih := qo_pre (l := l) (f := f) (i := i) n
    have h1 : (qo l f i).length ≤ (qo l f (i + n)).length := by
      have := congrArg List.length ih
      rw [List.length_take] at this
      omega
    rw [← Nat.add_assoc]
    simp only [qo]
    split
    · exact ih
    · rw [List.take_append_of_le_length h1]
      exact ih
theorem qo_mem {l : List Nat} {f x : Nat} : ∀ i, x ∈ qo l f i → x = l.getD f 0 ∨ ∃ a, a < i ∧ a ≠ f ∧ x = l.getD a 0
  | 0, h => Or.inl (by simpa [qo] using h)
  | i + 1, h => by
    simp only [qo] at h
    split at h
    · rcases qo_mem i h with e | ⟨a, h1, h2⟩
      · exact Or.inl e
      · exact Or.inr ⟨a, by omega, h2⟩
    · rename_i hif
      rcases List.mem_append.mp h with e | e
      · rcases qo_mem i e with e | ⟨a, h1, h2⟩
        · exact Or.inl e
        · exact Or.inr ⟨a, by omega, h2⟩
      · exact Or.inr ⟨i, by omega, hif, List.mem_singleton.mp e⟩
theorem qo_nd {l : List Nat} {f : Nat} (h : l.Nodup) (hf : f < l.length) : ∀ i, i ≤ l.length → (qo l f i).Nodup
  | 0, _ => by simp [qo]
  | i + 1, hi => by
    have ih := qo_nd h hf i (by omega)
    simp only [qo]
    split
    · exact ih
    · rename_i hif
      rw [List.nodup_append]
      refine ⟨ih, by simp, fun a ha b hb e => ?_⟩
      rw [List.mem_singleton.mp hb] at e
      rcases qo_mem i ha with e1 | ⟨c, h1, h2, h3⟩
      · exact hif (nd_inj h (by omega) hf (e.symm.trans e1))
      · have := nd_inj h (x := i) (y := c) (by omega) (by omega) (e.symm.trans h3)
        omega
theorem qo_at {l : List Nat} {f j K : Nat} (hl : l.length = K) (hf : f < K) (hj : j < K) (hjf : j ≠ f) : (qo l f j).length < K ∧ (qo l f K).getD (qo l f j).length 0 = l.getD j 0 ∧ (qo l f K).take ((qo l f j).length + 1) = qo l f j ++ [l.getD j 0] := by
  have h1 : qo l f (j + 1) = qo l f j ++ [l.getD j 0] := by simp only [qo]; rw [if_neg hjf]
  have h2 := qo_pre (l := l) (f := f) (i := j + 1) (K - (j + 1))
  rw [show j + 1 + (K - (j + 1)) = K by omega, h1] at h2
  have h3 : (qo l f j ++ [l.getD j 0]).length = (qo l f j).length + 1 := by simp
  rw [h3] at h2
  have hq := qo_len (l := l) (f := f) j
  have hlt : (qo l f j).length < K := by rw [hq]; split <;> omega
  have hqK : (qo l f K).length = K := by rw [qo_len, if_neg (by omega)]
  refine ⟨hlt, ?_, h2⟩
  have h4 : (qo l f j ++ [l.getD j 0]).getD (qo l f j).length 0 = l.getD j 0 := gd_r
  rw [← h2] at h4
  rw [List.getD_eq_getElem?_getD, List.getElem?_take, if_pos (by omega)] at h4
  rw [List.getD_eq_getElem?_getD]
  exact h4
theorem cl_one {nd : Nat → Nat → Nat} {dr : Nat → Nat} {p : List Nat} {j : Nat} : cl_o nd dr [j] 4 ≤ cl_o nd dr (p ++ [j]) 4 := by
  rw [cl_snoc]
  exact lf_m (fun k hk => Nat.zero_le _) 5 (by decide)
/-- whom the model finds delayed -/
def wm (nu : Nat → Nat) (nd : Nat → Nat → Nat) (dr : Nat → Nat) (l : List Nat) (f K i j : Nat) : Prop := nu (l.getD j 0) = nu ((qo l f K).getD i 0) ∧ cl_o nd dr (l.take (j + 1)) 4 < cl_o nd dr ((qo l f K).take (i + 1)) 4
def DM (nu : Nat → Nat) (nd : Nat → Nat → Nat) (dr : Nat → Nat) (l : List Nat) (f K i j D : Nat) : Prop := D < 1024 ∧ ∀ t, (D.testBit t = true ↔ ∃ a b, a < K ∧ b < K ∧ (a < i ∨ (a = i ∧ b < j)) ∧ wm nu nd dr l f K a b ∧ t = nu ((qo l f K).getD a 0))
theorem DM_K {nu : Nat → Nat} {nd : Nat → Nat → Nat} {dr : Nat → Nat} {l : List Nat} {f K i D : Nat} (h : DM nu nd dr l f K i K D) : DM nu nd dr l f K (i + 1) 0 D := by
  refine ⟨h.1, fun t => (h.2 t).trans ?_⟩
  constructor
  · rintro ⟨a, b, h1, h2, h3, h4⟩
    exact ⟨a, b, h1, h2, by omega, h4⟩
  · rintro ⟨a, b, h1, h2, h3, h4⟩
    exact ⟨a, b, h1, h2, by omega, h4⟩
theorem DM_n {nu : Nat → Nat} {nd : Nat → Nat → Nat} {dr : Nat → Nat} {l : List Nat} {f K i j D : Nat} (h : DM nu nd dr l f K i j D) (hw : ¬ wm nu nd dr l f K i j) : DM nu nd dr l f K i (j + 1) D := by
  refine ⟨h.1, fun t => (h.2 t).trans ?_⟩
  constructor
  · rintro ⟨a, b, h1, h2, h3, h4⟩
    exact ⟨a, b, h1, h2, by omega, h4⟩
  · rintro ⟨a, b, h1, h2, h3, h4, h5⟩
    refine ⟨a, b, h1, h2, ?_, h4, h5⟩
    by_cases e : a = i ∧ b = j
    · rw [e.1, e.2] at h4
      exact absurd h4 hw
    · omega
theorem DM_y {nu : Nat → Nat} {nd : Nat → Nat → Nat} {dr : Nat → Nat} {l : List Nat} {f K i j D : Nat} (h : DM nu nd dr l f K i j D) (hi : i < K) (hj : j < K) (hn : nu ((qo l f K).getD i 0) < 10) (hw : wm nu nd dr l f K i j) : DM nu nd dr l f K i (j + 1) (D ||| 2 ^ nu ((qo l f K).getD i 0)) := by
  refine ⟨Nat.or_lt_two_pow (n := 10) h.1 (Nat.pow_lt_pow_right (by decide) hn), fun t => ?_⟩
  rw [bit_or, h.2 t]
  constructor
  · rintro (⟨a, b, h1, h2, h3, h4⟩ | e)
    · exact ⟨a, b, h1, h2, by omega, h4⟩
    · exact ⟨i, j, hi, hj, by omega, hw, e⟩
  · rintro ⟨a, b, h1, h2, h3, h4, h5⟩
    by_cases e : a = i ∧ b = j
    · rw [e.1] at h5
      exact Or.inr h5
    · exact Or.inl ⟨a, b, h1, h2, by omega, h4, h5⟩
theorem DM_e {nu : Nat → Nat} {nd : Nat → Nat → Nat} {dr : Nat → Nat} {l : List Nat} {f K D : Nat} (hl : l.length = K) (ho : od_o K l) (hf : f < K) (hinj : ∀ x y, x < K → y < K → nu x = nu y → x = y) (h : DM nu nd dr l f K K 0 D) : D = da nu nd dr l f K := by
  apply Nat.eq_of_testBit_eq
  intro t
  rw [Bool.eq_iff_iff, h.2 t, da_bit]
  have hqK : (qo l f K).length = K := by rw [qo_len, if_neg (by omega)]
  have hqn := qo_nd ho.1 (f := f) (by omega) K (by omega)
  have hq0 : (qo l f K).getD 0 0 = l.getD f 0 ∧ (qo l f K).take 1 = [l.getD f 0] := by
    have h2 := qo_pre (l := l) (f := f) (i := 0) K
    rw [Nat.zero_add] at h2
    simp only [qo, List.length_singleton] at h2
    refine ⟨?_, h2⟩
    have h4 : ([l.getD f 0] : List Nat).getD 0 0 = l.getD f 0 := rfl
    rw [← h2] at h4
    rw [List.getD_eq_getElem?_getD, List.getElem?_take, if_pos (by omega)] at h4
    rw [List.getD_eq_getElem?_getD]
    exact h4
  constructor
  · rintro ⟨a, b, h1, h2, -, ⟨h4, h5⟩, h6⟩
    have hla := gd_lt ho (i := b) (by omega)
    have hqm : (qo l f K).getD a 0 ∈ qo l f K := by rw [List.getD_eq_getElem?_getD, List.getElem?_eq_getElem (by omega)]; exact List.getElem_mem _
    have hqa : (qo l f K).getD a 0 < K := qo_in ho (by omega) K (by omega) _ hqm
    have e := hinj _ _ hla hqa h4
    by_cases hbf : b = f
    · subst hbf
      have ha : a = 0 := nd_inj hqn (by omega) (by omega) (by rw [← e, hq0.1])
      subst ha
      rw [Nat.zero_add, hq0.2, tk_sn (by omega)] at h5
      have := cl_one (nd := nd) (dr := dr) (p := l.take b) (j := l.getD b 0)
      omega
    · obtain ⟨q1, q2, q3⟩ := qo_at hl hf h2 hbf
      have ha : a = (qo l f b).length := nd_inj hqn (by omega) (by omega) (by rw [← e, q2])
      subst ha
      rw [q3] at h5
      exact ⟨b, h2, hbf, h5, by rw [h6, q2]⟩
  · rintro ⟨b, h1, h2, h3, h4⟩
    obtain ⟨q1, q2, q3⟩ := qo_at hl hf h1 h2
    exact ⟨_, b, q1, h1, Or.inl q1, ⟨by rw [q2], by rw [q3]; exact h3⟩, by rw [q2]; exact h4⟩
/-- the plan that stands, in the model -/
def MS_c (mi : MI) (K : Nat) (nu : Nat → Nat) (Hs : Nat → Nat → Nat) (Ds : Nat → Nat) (l : List Nat) : Prop := mi 29 16 = nI K ∧ K ≤ 7 ∧ l.length = K ∧ od_o K l ∧ (∀ j, j < K → nu j < 10) ∧ (∀ x y, x < K → y < K → nu x = nu y → x = y) ∧ bd_o 10 Hs Ds (fun _ => 0) (fun _ => 0) ∧ (∀ b, b < 10 → (∀ k, k < 5 → mi 45 (5 * b + k) = nI (Hs b k)) ∧ mi 46 b = nI (Ds b)) ∧ ∀ i, i < K → mi 43 i = nI (nu (l.getD i 0)) ∧ mi 44 i = nI (cl_o (fun j => Hs (nu j)) (fun j => Ds (nu j)) (l.take (i + 1)) 4)
section MSL
variable {mi : MI} {K : Nat} {nu : Nat → Nat} {Hs : Nat → Nat → Nat} {Ds : Nat → Nat} {l : List Nat}
theorem MS_bd (h : MS_c mi K nu Hs Ds l) : bd_o K (fun j => Hs (nu j)) (fun j => Ds (nu j)) (fun _ => 0) (fun _ => 0) := fun j hj => h.2.2.2.2.2.2.1 _ (h.2.2.2.2.1 j hj)
theorem MS_n (h : MS_c mi K nu Hs Ds l) {i : Nat} (hi : i < K) : l.getD i 0 < K ∧ nu (l.getD i 0) < 10 := ⟨gd_lt h.2.2.2.1 (by rw [h.2.2.1]; exact hi), h.2.2.2.2.1 _ (gd_lt h.2.2.2.1 (by rw [h.2.2.1]; exact hi))⟩
theorem MS_if (h : MS_c mi K nu Hs Ds l) {i f : Nat} (hi : i < K) (hf : f < K) (e : nu (l.getD i 0) = nu (l.getD f 0)) : i = f :=
  nd_inj h.2.2.2.1.1 (by rw [h.2.2.1]; exact hi) (by rw [h.2.2.1]; exact hf) (h.2.2.2.2.2.1 _ _ (MS_n h hi).1 (MS_n h hf).1 e)
theorem MS_c2 (h : MS_c mi K nu Hs Ds l) {i : Nat} (hi : i < K) : cl_o (fun j => Hs (nu j)) (fun j => Ds (nu j)) (l.take (i + 1)) 4 ≤ 3000 := cl_b2 (MS_bd h) _ (by have := h.2.1; have := h.2.2.1; simp; omega) (fun x hx => h.2.2.2.1.2 x (List.mem_of_mem_take hx)) 4 (by decide)
theorem MS_q (h : MS_c mi K nu Hs Ds l) {f : Nat} (hf : f < K) : (qo l f K).length = K ∧ ∀ x ∈ qo l f K, x < K := ⟨by rw [qo_len, if_neg (by omega)], qo_in h.2.2.2.1 (by rw [h.2.2.1]; exact hf) K (by rw [h.2.2.1]; exact Nat.le_refl _)⟩
theorem MS_c3 (h : MS_c mi K nu Hs Ds l) {f i : Nat} (hf : f < K) (hi : i < K) : cl_o (fun j => Hs (nu j)) (fun j => Ds (nu j)) ((qo l f K).take (i + 1)) 4 ≤ 3000 := cl_b2 (MS_bd h) _ (by have := h.2.1; have := (MS_q h hf).1; simp; omega) (fun x hx => (MS_q h hf).2 x (List.mem_of_mem_take hx)) 4 (by decide)
end MSL
set_option maxRecDepth 100000 in
set_option maxHeartbeats 4000000 in
theorem t_X6_delays_u {sh : SH} {mi : MI} {mr : MR} (hB : ba_c sh mr) (p1 : Int32) (hu : ¬ (0 ≤ p1 ∧ p1 ≤ (mi 29 1) - 1)) : EV none 2 0 0 mX6_delays 0 (en_l mX6_delays [pv_r 29, pv_i p1]) [] sh mi mr (ok_r sh mr (-2) mi) := by
  show EV none 2 0 0 mX6_delays 0 [some (pv_r 29), some (pv_i p1), none, none, none, none, none] [] sh mi mr _
  refine ev_aload_n dX6_delays_0 rfl ?_
  refine ev_iload_n dX6_delays_1 rfl ?_
  refine ev_v1i dX6_delays_2 cv_X6_133 (hB.1 29 _ rfl) (Nat.le_of_ble_eq_true rfl) (by decide) (t_X6_isBook hB _) ?_
  refine ev_if_ne_f (tgt := 11) dX6_delays_5 rfl (bi_f hu) ?_
  refine ev_bipush (v := (-2)) dX6_delays_8 rfl ?_
  exact ev_ireturn (ty := .int) dX6_delays_10 rfl rfl ⟨rfl, rfl, rfl, rfl⟩
set_option maxRecDepth 100000 in
set_option maxHeartbeats 4000000 in
theorem lp_X6_delays_n {sh : SH} {mi : MI} {mr : MR} (hB : ba_c sh mr) (K : Nat) (nu : Nat → Nat) (Hs : Nat → Nat → Nat) (Ds : Nat → Nat) (l : List Nat) (hS : MS_c mi K nu Hs Ds l) (b : Nat) (hb10 : b < 10) (hf3 : ∀ i, i < K → nu (l.getD i 0) ≠ b) : ∀ i, i ≤ K → EV none 2 0 0 mX6_delays 18 [some (pv_r 29), some (pv_i (nI b)), some (pv_i 0), some (pv_i 0), some (pv_i (nI i)), none, none] [] sh mi mr (ok_r sh mr (-4) mi) := by
  refine lp_i K (fun i hi ih => ?_)
  refine ev_iload dX6_delays_18 rfl ?_
  refine ev_aload_n dX6_delays_20 rfl ?_
  refine ev_geti dX6_delays_21 fl_X6_162 rfl (hB.1 29 _ rfl) ?_
  refine ev_icmp_ge (tgt := 54) dX6_delays_24 rfl (fun h24 => ?_) (fun h24 => ?_)
  · have hin : i = K := by have := (nl_le hS.1 (b := i) rfl (by have := hS.2.1; omega) (by have := hS.2.1; omega)).mp h24; omega
    refine ev_iload_n dX6_delays_54 rfl ?_
    refine ev_if_ne_f (tgt := 61) dX6_delays_55 rfl (by decide) ?_
    refine ev_bipush (v := (-4)) dX6_delays_58 rfl ?_
    exact ev_ireturn (ty := .int) dX6_delays_60 rfl rfl ⟨rfl, rfl, rfl, rfl⟩
  · have hlt : i < K := by have := (not_congr (nl_le hS.1 (b := i) rfl (by have := hS.2.1; omega) (by have := hS.2.1; omega))).mp h24; omega
    have hn := MS_n hS hlt
    refine ev_iload_n dX6_delays_27 rfl ?_
    refine ev_if_ne_f (tgt := 42) dX6_delays_28 rfl (by decide) ?_
    refine ev_aload_n dX6_delays_31 rfl ?_
    refine ev_getq dX6_delays_32 fl_X6_50 rfl (hB.1 29 _ rfl) (hB.2 29 17 _ rfl) ?_
    refine ev_iload dX6_delays_35 rfl ?_
    refine ev_iald dX6_delays_37 (hB.1 43 _ rfl) (j := i) rfl (by have := hS.2.1; omega) (by decide) ?_
    refine ev_iload_n dX6_delays_38 rfl ?_
    refine ev_icmp_ne (tgt := 46) dX6_delays_39 rfl (fun h39 => ?_) (fun h39 => ?_)
    · refine ev_iconst (v := 0) dX6_delays_46 rfl ?_
      refine ev_istore_n dX6_delays_47 (by decide) ?_
      refine ev_iincN dX6_delays_48 rfl (by decide) ?_
      refine ev_goto (tgt := 18) dX6_delays_51 rfl ?_
      exact ih hlt
    · exact absurd ((nl_eq (hS.2.2.2.2.2.2.2.2 i hlt).1 rfl (by omega) (by omega)).mp h39) (hf3 i hlt)
set_option maxRecDepth 100000 in
set_option maxHeartbeats 4000000 in
theorem t_X6_delays_n {sh : SH} {mi : MI} {mr : MR} (hB : ba_c sh mr) (nb : Nat) (hnb : mi 29 1 = nI nb) (hnb10 : nb ≤ 10) (b : Nat) (hb : b < nb) (K : Nat) (nu : Nat → Nat) (Hs : Nat → Nat → Nat) (Ds : Nat → Nat) (l : List Nat) (hS : MS_c mi K nu Hs Ds l) (hf3 : ∀ i, i < K → nu (l.getD i 0) ≠ b) : EV none 2 0 0 mX6_delays 0 (en_l mX6_delays [pv_r 29, pv_i (nI b)]) [] sh mi mr (ok_r sh mr (-4) mi) := by
  show EV none 2 0 0 mX6_delays 0 [some (pv_r 29), some (pv_i (nI b)), none, none, none, none, none] [] sh mi mr _
  refine ev_aload_n dX6_delays_0 rfl ?_
  refine ev_iload_n dX6_delays_1 rfl ?_
  refine ev_v1i dX6_delays_2 cv_X6_133 (hB.1 29 _ rfl) (Nat.le_of_ble_eq_true rfl) (by decide) (t_X6_isBook hB _) ?_
  refine ev_if_ne_t (tgt := 11) dX6_delays_5 rfl (by rw [bi_1 (by rw [hnb]; exact (i_cases (by omega)).mpr ⟨b, hb, rfl⟩)]; decide) ?_
  refine ev_iconst (v := 0) dX6_delays_11 rfl ?_
  refine ev_istore_n dX6_delays_12 (by decide) ?_
  refine ev_iconst (v := 0) dX6_delays_13 rfl ?_
  refine ev_istore_n dX6_delays_14 (by decide) ?_
  refine ev_iconst (v := 0) dX6_delays_15 rfl ?_
  refine ev_istore dX6_delays_16 (by decide) ?_
  exact lp_X6_delays_n hB K nu Hs Ds l hS b (by omega) hf3 0 (Nat.zero_le K)
set_option maxRecDepth 100000 in
set_option maxHeartbeats 4000000 in
theorem lp_X6_dj {sh : SH} {mi : MI} {mr : MR} (hB : ba_c sh mr) (K : Nat) (nu : Nat → Nat) (Hs : Nat → Nat → Nat) (Ds : Nat → Nat) (l : List Nat) (hS : MS_c mi K nu Hs Ds l) (b f : Nat) (hb10 : b < 10) (hf : f < K) (hf2 : nu (l.getD f 0) = b) (p3 : Int32) (i : Nat) (hi : i < K) (m : MI) (h47 : ∀ a, a < K → m 47 a = nI (nu ((qo l f K).getD a 0))) (h48 : ∀ a, a < K → m 48 a = nI (cl_o (fun j => Hs (nu j)) (fun j => Ds (nu j)) ((qo l f K).take (a + 1)) 4)) (hag : ∀ a c, a ≠ 47 → a ≠ 48 → a ≠ 49 → m a c = mi a c) {Po : PO} (hk : ∀ D, DM nu (fun j => Hs (nu j)) (fun j => Ds (nu j)) l f K i K D → EV none 2 0 0 mX6_delays 199 [some (pv_r 29), some (pv_i (nI b)), some (pv_i (nI K)), some (pv_i p3), some (pv_i (nI D)), some (pv_i (nI i)), some (pv_i (nI K))] [] sh m mr Po) : ∀ j, j ≤ K → ∀ D, DM nu (fun j => Hs (nu j)) (fun j => Ds (nu j)) l f K i j D → EV none 2 0 0 mX6_delays 135 [some (pv_r 29), some (pv_i (nI b)), some (pv_i (nI K)), some (pv_i p3), some (pv_i (nI D)), some (pv_i (nI i)), some (pv_i (nI j))] [] sh m mr Po := by
  have hK7 := hS.2.1
  have hqq := MS_q hS hf
  have hqi : (qo l f K).getD i 0 < K := hqq.2 _ (by rw [List.getD_eq_getElem?_getD, List.getElem?_eq_getElem (by omega)]; exact List.getElem_mem _)
  have hqn : nu ((qo l f K).getD i 0) < 10 := hS.2.2.2.2.1 _ hqi
  have hc3 := MS_c3 hS hf hi
  refine lp_i K (fun j hj ih => ?_)
  intro D hD
  refine ev_iload dX6_delays_135 rfl ?_
  refine ev_iload_n dX6_delays_137 rfl ?_
  refine ev_icmp_ge (tgt := 199) dX6_delays_138 rfl (fun h138 => ?_) (fun h138 => ?_)
  · have hin : j = K := by have := (nI_leI (by omega) (by omega)).mp h138; omega
    subst hin
    exact hk D hD
  · have hjt : j < K := by have := (not_congr (nI_leI (by omega) (by omega))).mp h138; omega
    have h43 : m 43 j = nI (nu (l.getD j 0)) := (hag 43 j (by decide) (by decide) (by decide)).trans (hS.2.2.2.2.2.2.2.2 j hjt).1
    have h44 : m 44 j = nI (cl_o (fun j => Hs (nu j)) (fun j => Ds (nu j)) (l.take (j + 1)) 4) := (hag 44 j (by decide) (by decide) (by decide)).trans (hS.2.2.2.2.2.2.2.2 j hjt).2
    have hnj := MS_n hS hjt
    have hc2 := MS_c2 hS hjt
    refine ev_iload dX6_delays_141 rfl ?_
    refine ev_aload_n dX6_delays_143 rfl ?_
    refine ev_getq dX6_delays_144 fl_X6_50 rfl (hB.1 29 _ rfl) (hB.2 29 17 _ rfl) ?_
    refine ev_iload dX6_delays_147 rfl ?_
    refine ev_iald dX6_delays_149 (hB.1 43 _ rfl) (j := j) rfl (by omega) (by decide) ?_
    refine ev_aload_n dX6_delays_150 rfl ?_
    refine ev_getq dX6_delays_151 fl_X6_62 rfl (hB.1 29 _ rfl) (hB.2 29 21 _ rfl) ?_
    refine ev_iload dX6_delays_154 rfl ?_
    refine ev_iald dX6_delays_156 (hB.1 47 _ rfl) (j := i) rfl (by omega) (by decide) ?_
    refine ev_icmp_ne (tgt := 189) dX6_delays_157 rfl (fun h157 => ?_) (fun h157 => ?_)
    · refine ev_iconst (v := 0) dX6_delays_189 rfl ?_
      refine ev_ior dX6_delays_190 ?_
      refine ev_istore dX6_delays_191 (by decide) ?_
      refine ev_iincN dX6_delays_193 rfl (by decide) ?_
      refine ev_goto (tgt := 135) dX6_delays_196 rfl ?_
      rw [Int32.or_zero]
      exact ih hjt D (DM_n hD (fun e => h157 (by rw [h43, h47 i hi, e.1])))
    · refine ev_aload_n dX6_delays_160 rfl ?_
      refine ev_getq dX6_delays_161 fl_X6_65 rfl (hB.1 29 _ rfl) (hB.2 29 22 _ rfl) ?_
      refine ev_iload dX6_delays_164 rfl ?_
      refine ev_iald dX6_delays_166 (hB.1 48 _ rfl) (j := i) rfl (by omega) (by decide) ?_
      refine ev_aload_n dX6_delays_167 rfl ?_
      refine ev_getq dX6_delays_168 fl_X6_53 rfl (hB.1 29 _ rfl) (hB.2 29 18 _ rfl) ?_
      refine ev_iload dX6_delays_171 rfl ?_
      refine ev_iald dX6_delays_173 (hB.1 44 _ rfl) (j := j) rfl (by omega) (by decide) ?_
      refine ev_icmp_le (tgt := 189) dX6_delays_174 rfl (fun h174 => ?_) (fun h174 => ?_)
      · refine ev_iconst (v := 0) dX6_delays_189 rfl ?_
        refine ev_ior dX6_delays_190 ?_
        refine ev_istore dX6_delays_191 (by decide) ?_
        refine ev_iincN dX6_delays_193 rfl (by decide) ?_
        refine ev_goto (tgt := 135) dX6_delays_196 rfl ?_
        rw [Int32.or_zero]
        rw [h48 i hi, h44] at h174
        exact ih hjt D (DM_n hD (fun e => absurd ((nI_leI (by omega) (by omega)).mp h174) (by have := e.2; omega)))
      · refine ev_iconst (v := 1) dX6_delays_177 rfl ?_
        refine ev_aload_n dX6_delays_178 rfl ?_
        refine ev_getq dX6_delays_179 fl_X6_62 rfl (hB.1 29 _ rfl) (hB.2 29 21 _ rfl) ?_
        refine ev_iload dX6_delays_182 rfl ?_
        refine ev_iald dX6_delays_184 (hB.1 47 _ rfl) (j := i) rfl (by omega) (by decide) ?_
        refine ev_ishl dX6_delays_185 ?_
        refine ev_goto (tgt := 190) dX6_delays_186 rfl ?_
        refine ev_ior dX6_delays_190 ?_
        refine ev_istore dX6_delays_191 (by decide) ?_
        refine ev_iincN dX6_delays_193 rfl (by decide) ?_
        refine ev_goto (tgt := 135) dX6_delays_196 rfl ?_
        rw [h47 i hi, or_10 _ hqn _ hD.1]
        rw [h48 i hi, h44] at h174
        rw [h43, h47 i hi] at h157
        exact ih hjt _ (DM_y hD hi hjt hqn ⟨(nI_eq (by omega) (by omega)).mp h157, by have := (not_congr (nI_leI (by omega) (by omega))).mp h174; omega⟩)
set_option maxRecDepth 100000 in
set_option maxHeartbeats 4000000 in
theorem lp_X6_di {sh : SH} {mi : MI} {mr : MR} (hB : ba_c sh mr) (K : Nat) (nu : Nat → Nat) (Hs : Nat → Nat → Nat) (Ds : Nat → Nat) (l : List Nat) (hS : MS_c mi K nu Hs Ds l) (b f : Nat) (hb10 : b < 10) (hf : f < K) (hf2 : nu (l.getD f 0) = b) (p3 : Int32) (m : MI) (h47 : ∀ a, a < K → m 47 a = nI (nu ((qo l f K).getD a 0))) (h48 : ∀ a, a < K → m 48 a = nI (cl_o (fun j => Hs (nu j)) (fun j => Ds (nu j)) ((qo l f K).take (a + 1)) 4)) (hag : ∀ a c, a ≠ 47 → a ≠ 48 → a ≠ 49 → m a c = mi a c) : ∀ i, i ≤ K → ∀ D, DM nu (fun j => Hs (nu j)) (fun j => Ds (nu j)) l f K i 0 D → EV none 2 0 0 mX6_delays 126 [some (pv_r 29), some (pv_i (nI b)), some (pv_i (nI K)), some (pv_i p3), some (pv_i (nI D)), some (pv_i (nI i)), none] [] sh m mr (fun v_ sh_ mi_ mr_ => v_ = some (pv_i (nI (da nu (fun j => Hs (nu j)) (fun j => Ds (nu j)) l f K))) ∧ sh_ = sh ∧ mr_ = mr ∧ ∀ a c, a ≠ 47 → a ≠ 48 → a ≠ 49 → mi_ a c = mi a c) := by
  have hK7 := hS.2.1
  refine lp_i K (fun i hi ih => ?_)
  intro D hD
  refine ev_iload dX6_delays_126 rfl ?_
  refine ev_iload_n dX6_delays_128 rfl ?_
  refine ev_icmp_ge (tgt := 205) dX6_delays_129 rfl (fun h129 => ?_) (fun h129 => ?_)
  · have hin : i = K := by have := (nI_leI (by omega) (by omega)).mp h129; omega
    subst hin
    refine ev_iload dX6_delays_205 rfl ?_
    exact ev_ireturn (ty := .int) dX6_delays_207 rfl rfl ⟨by rw [DM_e hS.2.2.1 hS.2.2.2.1 hf hS.2.2.2.2.2.1 hD], rfl, rfl, hag⟩
  · have hlt : i < K := by have := (not_congr (nI_leI (by omega) (by omega))).mp h129; omega
    refine ev_iconst (v := 0) dX6_delays_132 rfl ?_
    refine ev_istore dX6_delays_133 (by decide) ?_
    refine lp_X6_dj hB K nu Hs Ds l hS b f hb10 hf hf2 _ i hlt m h47 h48 hag (fun D2 hD2 => ?_) 0 (Nat.zero_le K) D hD
    refine ev_iincN dX6_delays_199 rfl (by decide) ?_
    refine ev_goto (tgt := 126) dX6_delays_202 rfl ?_
    exact ev_fg 6 (ih hlt D2 (DM_K hD2))
set_option maxRecDepth 100000 in
set_option maxHeartbeats 4000000 in
theorem lp_X6_dr {sh : SH} {mi : MI} {mr : MR} (hB : ba_c sh mr) (K : Nat) (nu : Nat → Nat) (Hs : Nat → Nat → Nat) (Ds : Nat → Nat) (l : List Nat) (hS : MS_c mi K nu Hs Ds l) (b f : Nat) (hb10 : b < 10) (hf : f < K) (hf2 : nu (l.getD f 0) = b) (p3 : Int32) : ∀ i, i ≤ K → ∀ m : MI, (∀ a c, a ≠ 47 → m a c = mi a c) → (∀ a, a < (qo l f i).length → m 47 a = nI (nu ((qo l f i).getD a 0))) → EV none 2 0 0 mX6_delays 73 [some (pv_r 29), some (pv_i (nI b)), some (pv_i (nI (qo l f i).length)), some (pv_i p3), some (pv_i (nI i)), none, none] [] sh m mr (fun v_ sh_ mi_ mr_ => v_ = some (pv_i (nI (da nu (fun j => Hs (nu j)) (fun j => Ds (nu j)) l f K))) ∧ sh_ = sh ∧ mr_ = mr ∧ ∀ a c, a ≠ 47 → a ≠ 48 → a ≠ 49 → mi_ a c = mi a c) := by
  have hK7 := hS.2.1
  refine lp_i K (fun i hi ih => ?_)
  intro m hag hrw
  refine ev_iload dX6_delays_73 rfl ?_
  refine ev_aload_n dX6_delays_75 rfl ?_
  refine ev_geti dX6_delays_76 fl_X6_162 rfl (hB.1 29 _ rfl) ?_
  refine ev_icmp_ge (tgt := 115) dX6_delays_79 rfl (fun h79 => ?_) (fun h79 => ?_)
  · have hin : K = i := by have := (nl_le ((hag 29 16 (by decide)).trans hS.1) (b := i) rfl (by omega) (by omega)).mp h79; omega
    subst hin
    have hql : (qo l f K).length = K := (MS_q hS hf).1
    rw [hql]
    refine ev_aload_n dX6_delays_115 rfl ?_
    refine ev_iload_n dX6_delays_116 rfl ?_
    refine ev_callv (av := [pv_i (nI K)]) dX6_delays_117 cv_X6_158 (hB.1 29 _ rfl) rfl rfl (Nat.le_of_ble_eq_true rfl) (by decide) (Or.inl (fun v_ s_ m_ r_ h_ => by rw [h_.2.1])) (Nat.zero_add _) (Nat.zero_add _) (t_X6_findEnds_n hB hS.2.2.2.2.2.2.1 ((qo l f K).map nu) K (by rw [List.length_map, hql]) hK7 (fun x hx => by obtain ⟨y, h1, h2⟩ := List.mem_map.mp hx; rw [← h2]; exact hS.2.2.2.2.1 y ((MS_q hS hf).2 y h1)) (fun i hi => by rw [mp_at (by omega)]; exact hrw i (by omega)) (fun b hb => ⟨fun k hk => (hag 45 _ (by decide)).trans ((hS.2.2.2.2.2.2.2.1 b hb).1 k hk), (hag 46 _ (by decide)).trans (hS.2.2.2.2.2.2.2.1 b hb).2⟩)) ?_
    rintro v_ sh_ m2 mr_ ⟨e1_, e2_, e3_, hF1, hF2⟩
    subst e1_
    have e2_ := e2_.symm
    subst e2_
    have e3_ := e3_.symm
    subst e3_
    refine ev_iconst (v := 0) dX6_delays_120 rfl ?_
    refine ev_istore dX6_delays_121 (by decide) ?_
    refine ev_iconst (v := 0) dX6_delays_123 rfl ?_
    refine ev_istore dX6_delays_124 (by decide) ?_
    exact lp_X6_di hB K nu Hs Ds l hS b f hb10 hf hf2 _ m2 (fun a ha => (hF1 47 a (by decide) (by decide)).trans (hrw a (by omega))) (fun a ha => by rw [hF2 a ha, ← List.map_take, cl_mp]) (fun a c g1 g2 g3 => (hF1 a c g2 g3).trans (hag a c g1)) 0 (Nat.zero_le K) 0 ⟨by decide, fun t => ⟨fun e => by simp at e, fun ⟨a, b, h1, h2, h3, h4⟩ => by omega⟩⟩
  · have hlt : i < K := by have := (not_congr (nl_le ((hag 29 16 (by decide)).trans hS.1) (b := i) rfl (by omega) (by omega))).mp h79; omega
    have h43 : m 43 i = nI (nu (l.getD i 0)) := (hag 43 i (by decide)).trans (hS.2.2.2.2.2.2.2.2 i hlt).1
    have hn := MS_n hS hlt
    refine ev_aload_n dX6_delays_82 rfl ?_
    refine ev_getq dX6_delays_83 fl_X6_50 rfl (hB.1 29 _ rfl) (hB.2 29 17 _ rfl) ?_
    refine ev_iload dX6_delays_86 rfl ?_
    refine ev_iald dX6_delays_88 (hB.1 43 _ rfl) (j := i) rfl (by omega) (by decide) ?_
    refine ev_iload_n dX6_delays_89 rfl ?_
    refine ev_icmp_eq (tgt := 109) dX6_delays_90 rfl (fun h90 => ?_) (fun h90 => ?_)
    · refine ev_iincN dX6_delays_109 rfl (by decide) ?_
      refine ev_goto (tgt := 73) dX6_delays_112 rfl ?_
      have hif : i = f := MS_if hS hlt hf (by rw [hf2]; exact (nl_eq (h43) rfl (by omega) (by omega)).mp h90)
      have q := ih hlt m hag (by simp only [qo]; rw [if_pos hif]; exact hrw)
      simp only [qo] at q
      rw [if_pos hif] at q
      exact q
    · have hif : ¬ i = f := fun e => h90 (by rw [h43, e, hf2])
      have hD : (qo l f i).length < 7 := by rw [qo_len]; split <;> omega
      refine ev_aload_n dX6_delays_93 rfl ?_
      refine ev_getq dX6_delays_94 fl_X6_62 rfl (hB.1 29 _ rfl) (hB.2 29 21 _ rfl) ?_
      refine ev_iload_n dX6_delays_97 rfl ?_
      refine ev_aload_n dX6_delays_98 rfl ?_
      refine ev_getq dX6_delays_99 fl_X6_50 rfl (hB.1 29 _ rfl) (hB.2 29 17 _ rfl) ?_
      refine ev_iload dX6_delays_102 rfl ?_
      refine ev_iald dX6_delays_104 (hB.1 43 _ rfl) (j := i) rfl (by omega) (by decide) ?_
      refine ev_iast dX6_delays_105 (hB.1 47 _ rfl) (j := (qo l f i).length) rfl hD (by decide) ?_
      refine ev_iincN dX6_delays_106 rfl (by decide) ?_
      refine ev_iincN dX6_delays_109 rfl (by decide) ?_
      refine ev_goto (tgt := 73) dX6_delays_112 rfl ?_
      rw [h43]
      have q := ih hlt (up_2 m 47 (qo l f i).length (nI (nu (l.getD i 0)))) (fun a c g => (up_ne (Or.inl g)).trans (hag a c g)) ?_
      · simp only [qo] at q
        rw [if_neg hif, List.length_append, List.length_singleton] at q
        exact q
      · simp only [qo]
        rw [if_neg hif]
        intro a ha
        rw [List.length_append, List.length_singleton] at ha
        by_cases e : a = (qo l f i).length
        · subst e
          rw [up_at, gd_r]
        · rw [up_ne (Or.inr e), gd_l (by omega)]
          exact hrw a (by omega)
set_option maxRecDepth 100000 in
set_option maxHeartbeats 4000000 in
theorem lp_X6_df {sh : SH} {mi : MI} {mr : MR} (hB : ba_c sh mr) (K : Nat) (nu : Nat → Nat) (Hs : Nat → Nat → Nat) (Ds : Nat → Nat) (l : List Nat) (hS : MS_c mi K nu Hs Ds l) (b f : Nat) (hb10 : b < 10) (hf : f < K) (hf2 : nu (l.getD f 0) = b) : ∀ i, i ≤ K → EV none 2 0 0 mX6_delays 18 [some (pv_r 29), some (pv_i (nI b)), some (pv_i 0), some (pv_i (bi (f < i))), some (pv_i (nI i)), none, none] [] sh mi mr (fun v_ sh_ mi_ mr_ => v_ = some (pv_i (nI (da nu (fun j => Hs (nu j)) (fun j => Ds (nu j)) l f K))) ∧ sh_ = sh ∧ mr_ = mr ∧ ∀ a c, a ≠ 47 → a ≠ 48 → a ≠ 49 → mi_ a c = mi a c) := by
  have hK7 := hS.2.1
  refine lp_i K (fun i hi ih => ?_)
  refine ev_iload dX6_delays_18 rfl ?_
  refine ev_aload_n dX6_delays_20 rfl ?_
  refine ev_geti dX6_delays_21 fl_X6_162 rfl (hB.1 29 _ rfl) ?_
  refine ev_icmp_ge (tgt := 54) dX6_delays_24 rfl (fun h24 => ?_) (fun h24 => ?_)
  · have hin : i = K := by have := (nl_le hS.1 (b := i) rfl (by have := hS.2.1; omega) (by have := hS.2.1; omega)).mp h24; omega
    have hin := hin.symm
    subst hin
    refine ev_iload_n dX6_delays_54 rfl ?_
    refine ev_if_ne_t (tgt := 61) dX6_delays_55 rfl (by rw [bi_1 hf]; decide) ?_
    refine ev_aload_n dX6_delays_61 rfl ?_
    refine ev_getq dX6_delays_62 fl_X6_62 rfl (hB.1 29 _ rfl) (hB.2 29 21 _ rfl) ?_
    refine ev_iconst (v := 0) dX6_delays_65 rfl ?_
    refine ev_iload_n dX6_delays_66 rfl ?_
    refine ev_iast dX6_delays_67 (hB.1 47 _ rfl) (j := 0) (by decide) (by decide) (by decide) ?_
    refine ev_iconst (v := 1) dX6_delays_68 rfl ?_
    refine ev_istore_n dX6_delays_69 (by decide) ?_
    refine ev_iconst (v := 0) dX6_delays_70 rfl ?_
    refine ev_istore dX6_delays_71 (by decide) ?_
    exact lp_X6_dr hB K nu Hs Ds l hS b f hb10 hf hf2 _ 0 (Nat.zero_le K) _ (fun a c g => up_ne (Or.inl g)) (fun a ha => by
      have : a = 0 := by simp [qo] at ha; omega
      subst this
      exact up_at.trans (by show nI b = nI (nu (l.getD f 0)); rw [hf2]))
  · have hlt : i < K := by have := (not_congr (nl_le hS.1 (b := i) rfl (by have := hS.2.1; omega) (by have := hS.2.1; omega))).mp h24; omega
    have hn := MS_n hS hlt
    refine ev_iload_n dX6_delays_27 rfl ?_
    refine ev_ifb_ne (tgt := 42) dX6_delays_28 rfl (fun h28 => ?_) (fun h28 => ?_)
    · refine ev_iconst (v := 1) dX6_delays_42 rfl ?_
      refine ev_goto (tgt := 47) dX6_delays_43 rfl ?_
      refine ev_istore_n dX6_delays_47 (by decide) ?_
      refine ev_iincN dX6_delays_48 rfl (by decide) ?_
      refine ev_goto (tgt := 18) dX6_delays_51 rfl ?_
      have q := ih hlt
      rw [bi_1 (show f < i + 1 by omega)] at q
      exact q
    · refine ev_aload_n dX6_delays_31 rfl ?_
      refine ev_getq dX6_delays_32 fl_X6_50 rfl (hB.1 29 _ rfl) (hB.2 29 17 _ rfl) ?_
      refine ev_iload dX6_delays_35 rfl ?_
      refine ev_iald dX6_delays_37 (hB.1 43 _ rfl) (j := i) rfl (by have := hS.2.1; omega) (by decide) ?_
      refine ev_iload_n dX6_delays_38 rfl ?_
      refine ev_icmp_ne (tgt := 46) dX6_delays_39 rfl (fun h39 => ?_) (fun h39 => ?_)
      · refine ev_iconst (v := 0) dX6_delays_46 rfl ?_
        refine ev_istore_n dX6_delays_47 (by decide) ?_
        refine ev_iincN dX6_delays_48 rfl (by decide) ?_
        refine ev_goto (tgt := 18) dX6_delays_51 rfl ?_
        have hif : ¬ i = f := fun e => h39 (by rw [(hS.2.2.2.2.2.2.2.2 i hlt).1, e, hf2])
        have q := ih hlt
        rw [bi_f (show ¬ f < i + 1 by omega)] at q
        exact q
      · refine ev_iconst (v := 1) dX6_delays_42 rfl ?_
        refine ev_goto (tgt := 47) dX6_delays_43 rfl ?_
        refine ev_istore_n dX6_delays_47 (by decide) ?_
        refine ev_iincN dX6_delays_48 rfl (by decide) ?_
        refine ev_goto (tgt := 18) dX6_delays_51 rfl ?_
        have hif : i = f := MS_if hS hlt hf (by rw [hf2]; exact (nl_eq (hS.2.2.2.2.2.2.2.2 i hlt).1 rfl (by omega) (by omega)).mp h39)
        have q := ih hlt
        rw [bi_1 (show f < i + 1 by omega)] at q
        exact q
set_option maxRecDepth 100000 in
set_option maxHeartbeats 4000000 in
theorem t_X6_delays_k {sh : SH} {mi : MI} {mr : MR} (hB : ba_c sh mr) (nb : Nat) (hnb : mi 29 1 = nI nb) (hnb10 : nb ≤ 10) (b : Nat) (hb : b < nb) (K : Nat) (nu : Nat → Nat) (Hs : Nat → Nat → Nat) (Ds : Nat → Nat) (l : List Nat) (hS : MS_c mi K nu Hs Ds l) (f : Nat) (hf : f < K) (hf2 : nu (l.getD f 0) = b) : EV none 2 0 0 mX6_delays 0 (en_l mX6_delays [pv_r 29, pv_i (nI b)]) [] sh mi mr (fun v_ sh_ mi_ mr_ => v_ = some (pv_i (nI (da nu (fun j => Hs (nu j)) (fun j => Ds (nu j)) l f K))) ∧ sh_ = sh ∧ mr_ = mr ∧ ∀ a c, a ≠ 47 → a ≠ 48 → a ≠ 49 → mi_ a c = mi a c) := by
  show EV none 2 0 0 mX6_delays 0 [some (pv_r 29), some (pv_i (nI b)), none, none, none, none, none] [] sh mi mr _
  refine ev_aload_n dX6_delays_0 rfl ?_
  refine ev_iload_n dX6_delays_1 rfl ?_
  refine ev_v1i dX6_delays_2 cv_X6_133 (hB.1 29 _ rfl) (Nat.le_of_ble_eq_true rfl) (by decide) (t_X6_isBook hB _) ?_
  refine ev_if_ne_t (tgt := 11) dX6_delays_5 rfl (by rw [bi_1 (by rw [hnb]; exact (i_cases (by omega)).mpr ⟨b, hb, rfl⟩)]; decide) ?_
  refine ev_iconst (v := 0) dX6_delays_11 rfl ?_
  refine ev_istore_n dX6_delays_12 (by decide) ?_
  refine ev_iconst (v := 0) dX6_delays_13 rfl ?_
  refine ev_istore_n dX6_delays_14 (by decide) ?_
  refine ev_iconst (v := 0) dX6_delays_15 rfl ?_
  refine ev_istore dX6_delays_16 (by decide) ?_
  have q := lp_X6_df hB K nu Hs Ds l hS b f (by omega) hf hf2 0 (Nat.zero_le K)
  rw [bi_f (Nat.not_lt_zero f)] at q
  exact q
