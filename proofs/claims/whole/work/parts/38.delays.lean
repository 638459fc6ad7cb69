/-- the plan that stands: K members with numbers nu, hours nd, drying dr, in the order l -/
def PL_c (mi : MI) (K : Nat) (nu : Nat → Nat) (nd : Nat → Nat → Nat) (dr : Nat → Nat) (l : List Nat) : Prop := mi 2 9 = nI K ∧ K ≤ 7 ∧ (∀ k, k < 5 → mi 11 k = 0) ∧ l.length = K ∧ od_o K l ∧ (∀ j, j < K → mi 4 j = nI (nu j) ∧ nu j < 10 ∧ (∀ k, k < 5 → mi 5 (j * 5 + k) = nI (nd j k)) ∧ (∀ k, k < 5 → nd j k ≤ 50) ∧ mi 6 j = nI (dr j) ∧ dr j ≤ 30) ∧ ∀ i, i < K → mi 10 i = nI (l.getD i 0) ∧ mi 3 i = nI (cl_o nd dr (l.take (i + 1)) 4)
theorem gd_lt {K : Nat} {l : List Nat} {i : Nat} (h : od_o K l) (hi : i < l.length) : l.getD i 0 < K := h.2 _ (by rw [List.getD_eq_getElem?_getD, List.getElem?_eq_getElem hi]; exact List.getElem_mem _)
theorem PL_n {mi : MI} {K : Nat} {nu : Nat → Nat} {nd : Nat → Nat → Nat} {dr : Nat → Nat} {l : List Nat} (h : PL_c mi K nu nd dr l) {i : Nat} (hi : i < K) : mi 10 i = nI (l.getD i 0) ∧ l.getD i 0 < K ∧ mi 4 (l.getD i 0) = nI (nu (l.getD i 0)) ∧ nu (l.getD i 0) < 10 :=
  have hj : l.getD i 0 < K := gd_lt h.2.2.2.2.1 (by rw [h.2.2.2.1]; exact hi)
  ⟨(h.2.2.2.2.2.2 i hi).1, hj, (h.2.2.2.2.2.1 _ hj).1, (h.2.2.2.2.2.1 _ hj).2.1⟩
theorem PL_b {mi : MI} {K : Nat} {nu : Nat → Nat} {nd : Nat → Nat → Nat} {dr : Nat → Nat} {l : List Nat} (h : PL_c mi K nu nd dr l) : bd_o K nd dr (fun _ => 0) (fun _ => 0) := fun j hj => ⟨(h.2.2.2.2.2.1 j hj).2.2.2.1, (h.2.2.2.2.2.1 j hj).2.2.2.2.2, by simp, by simp⟩
/-- the order when place f moves ahead: its first members; whom that delays -/
def qo (l : List Nat) (f : Nat) : Nat → List Nat
  | 0 => [l.getD f 0]
  | i + 1 => if i = f then qo l f i else qo l f i ++ [l.getD i 0]
def da (nu : Nat → Nat) (nd : Nat → Nat → Nat) (dr : Nat → Nat) (l : List Nat) (f : Nat) : Nat → Nat
  | 0 => 0
  | i + 1 => if i ≠ f ∧ cl_o nd dr (l.take (i + 1)) 4 < cl_o nd dr (qo l f i ++ [l.getD i 0]) 4 then da nu nd dr l f i ||| 2 ^ nu (l.getD i 0) else da nu nd dr l f i
theorem qo_len {l : List Nat} {f : Nat} : ∀ i, (qo l f i).length = if i ≤ f then i + 1 else i
  | 0 => by simp [qo]
  | i + 1 => by
    have ih := qo_len (l := l) (f := f) i
    simp only [qo]
    by_cases e : i = f
    · rw [if_pos e, ih, if_pos (by omega), if_neg (by omega)]
    · rw [if_neg e, List.length_append, ih]
      simp only [List.length_singleton]
      split <;> split <;> omega
theorem qo_in {K : Nat} {l : List Nat} {f : Nat} (h : od_o K l) (hf : f < l.length) : ∀ i, i ≤ l.length → ∀ x ∈ qo l f i, x < K
  | 0, _, x, hx => by
    simp only [qo, List.mem_singleton] at hx
    rw [hx]
    exact gd_lt h hf
  | i + 1, hi, x, hx => by
    simp only [qo] at hx
    split at hx
    · exact qo_in h hf i (by omega) x hx
    · rcases List.mem_append.mp hx with e | e
      · exact qo_in h hf i (by omega) x e
      · rw [List.mem_singleton.mp e]
        exact gd_lt h (by omega)
theorem da_lt {nu : Nat → Nat} {nd : Nat → Nat → Nat} {dr : Nat → Nat} {l : List Nat} {f K : Nat} (h : ∀ i, i < K → nu (l.getD i 0) < 10) : ∀ i, i ≤ K → da nu nd dr l f i < 1024
  | 0, _ => by simp [da]
  | i + 1, hi => by
    have ih := da_lt (nd := nd) (dr := dr) (f := f) h i (by omega)
    simp only [da]
    split
    · exact Nat.or_lt_two_pow (n := 10) ih (Nat.pow_lt_pow_right (by decide) (h i (by omega)))
    · exact ih
set_option maxRecDepth 100000 in
theorem or_10 : ∀ j, j < 10 → ∀ u, u < 1024 → nI u ||| ((1 : Int32) <<< (nI j &&& 31)) = nI (u ||| 2 ^ j) := by decide +kernel
set_option maxRecDepth 100000 in
set_option maxHeartbeats 4000000 in
theorem t_X2_hasPlace {sh : SH} {mi : MI} {mr : MR} (hB : ba_c sh mr) (p1 : Int32) : EV none 1 0 0 mX2_hasPlace 0 (en_l mX2_hasPlace [pv_r 2, pv_i p1]) [] sh mi mr (ok_r sh mr (bi (0 ≤ p1 ∧ p1 ≤ ((mi 2 9) - 1))) mi) := by
  show EV none 1 0 0 mX2_hasPlace 0 [some (pv_r 2), some (pv_i p1)] [] sh mi mr _
  refine ev_iload_n dX2_hasPlace_0 rfl ?_
  refine ev_iconst (v := 0) dX2_hasPlace_1 rfl ?_
  refine ev_aload_n dX2_hasPlace_2 rfl ?_
  refine ev_geti dX2_hasPlace_3 fl_X2_39 rfl (hB.1 2 _ rfl) ?_
  refine ev_iconst (v := 1) dX2_hasPlace_6 rfl ?_
  refine ev_isub dX2_hasPlace_7 ?_
  refine ev_t3i dX2_hasPlace_8 cn_X2_68 (Nat.le_of_ble_eq_true rfl) (by decide) (t_X5_within _ _ _) ?_
  exact ev_ireturn (ty := .boolean) dX2_hasPlace_11 rfl bi_nar ⟨rfl, rfl, rfl, rfl⟩
set_option maxRecDepth 100000 in
set_option maxHeartbeats 4000000 in
theorem t_X2_numberAt {sh : SH} {mi : MI} {mr : MR} (hB : ba_c sh mr) {K : Nat} {nu : Nat → Nat} {nd : Nat → Nat → Nat} {dr : Nat → Nat} {l : List Nat} (hP : PL_c mi K nu nd dr l) (i : Nat) (hi : i < K) : EV none 0 0 0 mX2_numberAt 0 (en_l mX2_numberAt [pv_r 2, pv_i (nI i)]) [] sh mi mr (ok_r sh mr (nI (nu (l.getD i 0))) mi) := by
  show EV none 0 0 0 mX2_numberAt 0 [some (pv_r 2), some (pv_i (nI i))] [] sh mi mr _
  refine ev_aload_n dX2_numberAt_0 rfl ?_
  refine ev_getq dX2_numberAt_1 fl_X2_15 rfl (hB.1 2 _ rfl) (hB.2 2 1 _ rfl) ?_
  refine ev_aload_n dX2_numberAt_4 rfl ?_
  refine ev_getq dX2_numberAt_5 fl_X2_33 rfl (hB.1 2 _ rfl) (hB.2 2 7 _ rfl) ?_
  refine ev_iload_n dX2_numberAt_8 rfl ?_
  refine ev_iald dX2_numberAt_9 (hB.1 10 _ rfl) (j := i) rfl (by have := hP.2.1; omega) (by decide) ?_
  refine ev_iald dX2_numberAt_10 (hB.1 4 _ rfl) (j := l.getD i 0) (PL_n hP hi).1 (by have := hP.2.1; have := (PL_n hP hi).2.1; omega) (by decide) ?_
  exact ev_ireturn (ty := .int) dX2_numberAt_11 rfl rfl ⟨by rw [(PL_n hP hi).2.2.1], rfl, rfl, rfl⟩
set_option maxRecDepth 100000 in
set_option maxHeartbeats 4000000 in
theorem lp_X2_placeOf_k {sh : SH} {mi : MI} {mr : MR} (hB : ba_c sh mr) {K : Nat} {nu : Nat → Nat} {nd : Nat → Nat → Nat} {dr : Nat → Nat} {l : List Nat} (hP : PL_c mi K nu nd dr l) (b f : Nat) (hb : b < 10) (hf : f < K) (hf2 : nu (l.getD f 0) = b) (hf3 : ∀ i, i < f → nu (l.getD i 0) ≠ b) : ∀ i, i ≤ f → EV none 1 0 0 mX2_placeOf 2 [some (pv_r 2), some (pv_i (nI b)), some (pv_i (nI i))] [] sh mi mr (ok_r sh mr (nI f) mi) := by
  refine lp_i f (fun i hi ih => ?_)
  refine ev_iload_n dX2_placeOf_2 rfl ?_
  refine ev_aload_n dX2_placeOf_3 rfl ?_
  refine ev_geti dX2_placeOf_4 fl_X2_39 rfl (hB.1 2 _ rfl) ?_
  refine ev_icmp_ge (tgt := 27) dX2_placeOf_7 rfl (fun h7 => ?_) (fun h7 => ?_)
  · exact absurd hf (by have := (nl_le hP.1 (b := i) rfl (by have := hP.2.1; omega) (by have := hP.2.1; omega)).mp h7; omega)
  · have hlt : i < K := by have := (not_congr (nl_le hP.1 (b := i) rfl (by have := hP.2.1; omega) (by have := hP.2.1; omega))).mp h7; omega
    have hn10 := (PL_n hP hlt).2.2.2
    refine ev_aload_n dX2_placeOf_10 rfl ?_
    refine ev_iload_n dX2_placeOf_11 rfl ?_
    refine ev_v1i dX2_placeOf_12 cv_X2_72 (hB.1 2 _ rfl) (Nat.le_of_ble_eq_true rfl) (by decide) (t_X2_numberAt hB hP i hlt) ?_
    refine ev_iload_n dX2_placeOf_15 rfl ?_
    refine ev_icmp_ne (tgt := 21) dX2_placeOf_16 rfl (fun h16 => ?_) (fun h16 => ?_)
    · have hif : i < f := Nat.lt_of_le_of_ne hi (fun e => h16 (by rw [e, hf2]))
      refine ev_iincN dX2_placeOf_21 rfl (by decide) ?_
      refine ev_goto (tgt := 2) dX2_placeOf_24 rfl ?_
      exact ih hif
    · have hif : i = f := Nat.le_antisymm hi (Nat.le_of_not_lt (fun e => hf3 i e ((nI_eq (by omega) (by omega)).mp h16)))
      refine ev_iload_n dX2_placeOf_19 rfl ?_
      exact ev_ireturn (ty := .int) dX2_placeOf_20 rfl rfl ⟨by rw [hif], rfl, rfl, rfl⟩
set_option maxRecDepth 100000 in
set_option maxHeartbeats 4000000 in
theorem lp_X2_placeOf_n {sh : SH} {mi : MI} {mr : MR} (hB : ba_c sh mr) {K : Nat} {nu : Nat → Nat} {nd : Nat → Nat → Nat} {dr : Nat → Nat} {l : List Nat} (hP : PL_c mi K nu nd dr l) (b : Nat) (hb : b < 10) (hf3 : ∀ i, i < K → nu (l.getD i 0) ≠ b) : ∀ i, i ≤ K → EV none 1 0 0 mX2_placeOf 2 [some (pv_r 2), some (pv_i (nI b)), some (pv_i (nI i))] [] sh mi mr (ok_r sh mr (-1) mi) := by
  refine lp_i K (fun i hi ih => ?_)
  refine ev_iload_n dX2_placeOf_2 rfl ?_
  refine ev_aload_n dX2_placeOf_3 rfl ?_
  refine ev_geti dX2_placeOf_4 fl_X2_39 rfl (hB.1 2 _ rfl) ?_
  refine ev_icmp_ge (tgt := 27) dX2_placeOf_7 rfl (fun h7 => ?_) (fun h7 => ?_)
  · have hin : i = K := by have := (nl_le hP.1 (b := i) rfl (by have := hP.2.1; omega) (by have := hP.2.1; omega)).mp h7; omega
    refine ev_iconst (v := (-1)) dX2_placeOf_27 rfl ?_
    exact ev_ireturn (ty := .int) dX2_placeOf_28 rfl rfl ⟨rfl, rfl, rfl, rfl⟩
  · have hlt : i < K := by have := (not_congr (nl_le hP.1 (b := i) rfl (by have := hP.2.1; omega) (by have := hP.2.1; omega))).mp h7; omega
    have hn10 := (PL_n hP hlt).2.2.2
    refine ev_aload_n dX2_placeOf_10 rfl ?_
    refine ev_iload_n dX2_placeOf_11 rfl ?_
    refine ev_v1i dX2_placeOf_12 cv_X2_72 (hB.1 2 _ rfl) (Nat.le_of_ble_eq_true rfl) (by decide) (t_X2_numberAt hB hP i hlt) ?_
    refine ev_iload_n dX2_placeOf_15 rfl ?_
    refine ev_icmp_ne (tgt := 21) dX2_placeOf_16 rfl (fun h16 => ?_) (fun h16 => ?_)
    · refine ev_iincN dX2_placeOf_21 rfl (by decide) ?_
      refine ev_goto (tgt := 2) dX2_placeOf_24 rfl ?_
      exact ih hlt
    · exact absurd ((nI_eq (by omega) (by omega)).mp h16) (hf3 i hlt)
set_option maxRecDepth 100000 in
set_option maxHeartbeats 4000000 in
theorem t_X2_placeOf_k {sh : SH} {mi : MI} {mr : MR} (hB : ba_c sh mr) {K : Nat} {nu : Nat → Nat} {nd : Nat → Nat → Nat} {dr : Nat → Nat} {l : List Nat} (hP : PL_c mi K nu nd dr l) (b f : Nat) (hb : b < 10) (hf : f < K) (hf2 : nu (l.getD f 0) = b) (hf3 : ∀ i, i < f → nu (l.getD i 0) ≠ b) : EV none 1 0 0 mX2_placeOf 0 (en_l mX2_placeOf [pv_r 2, pv_i (nI b)]) [] sh mi mr (ok_r sh mr (nI f) mi) := by
  show EV none 1 0 0 mX2_placeOf 0 [some (pv_r 2), some (pv_i (nI b)), none] [] sh mi mr _
  refine ev_iconst (v := 0) dX2_placeOf_0 rfl ?_
  refine ev_istore_n dX2_placeOf_1 (by decide) ?_
  exact lp_X2_placeOf_k hB hP b f hb hf hf2 hf3 0 (Nat.zero_le f)
set_option maxRecDepth 100000 in
set_option maxHeartbeats 4000000 in
theorem t_X2_placeOf_n {sh : SH} {mi : MI} {mr : MR} (hB : ba_c sh mr) {K : Nat} {nu : Nat → Nat} {nd : Nat → Nat → Nat} {dr : Nat → Nat} {l : List Nat} (hP : PL_c mi K nu nd dr l) (b : Nat) (hb : b < 10) (hf3 : ∀ i, i < K → nu (l.getD i 0) ≠ b) : EV none 1 0 0 mX2_placeOf 0 (en_l mX2_placeOf [pv_r 2, pv_i (nI b)]) [] sh mi mr (ok_r sh mr (-1) mi) := by
  show EV none 1 0 0 mX2_placeOf 0 [some (pv_r 2), some (pv_i (nI b)), none] [] sh mi mr _
  refine ev_iconst (v := 0) dX2_placeOf_0 rfl ?_
  refine ev_istore_n dX2_placeOf_1 (by decide) ?_
  exact lp_X2_placeOf_n hB hP b hb hf3 0 (Nat.zero_le K)
theorem PL_ag {mi m : MI} {K : Nat} {nu : Nat → Nat} {nd : Nat → Nat → Nat} {dr : Nat → Nat} {l : List Nat} (hag : ∀ a c, ¬ (a = 11 ∧ 5 ≤ c) → m a c = mi a c) (h : PL_c mi K nu nd dr l) : PL_c m K nu nd dr l :=
  ⟨(hag 2 9 (by omega)).trans h.1, h.2.1, fun k hk => (hag 11 k (by omega)).trans (h.2.2.1 k hk), h.2.2.2.1, h.2.2.2.2.1, fun j hj => ⟨(hag 4 j (by omega)).trans (h.2.2.2.2.2.1 j hj).1, (h.2.2.2.2.2.1 j hj).2.1, fun k hk => (hag 5 _ (by omega)).trans ((h.2.2.2.2.2.1 j hj).2.2.1 k hk), (h.2.2.2.2.2.1 j hj).2.2.2.1, (hag 6 j (by omega)).trans (h.2.2.2.2.2.1 j hj).2.2.2.2.1, (h.2.2.2.2.2.1 j hj).2.2.2.2.2⟩, fun i hi => ⟨(hag 10 i (by omega)).trans (h.2.2.2.2.2.2 i hi).1, (hag 3 i (by omega)).trans (h.2.2.2.2.2.2 i hi).2⟩⟩
theorem PL_w {m : MI} {K : Nat} {nu : Nat → Nat} {nd : Nat → Nat → Nat} {dr : Nat → Nat} {l : List Nat} {D n : Nat} {f : Nat → Nat} (h : PL_c m K nu nd dr l) : PL_c (wk_m m D f n) K nu nd dr l := PL_ag (fun a c g => wk_o (by omega)) h
set_option maxRecDepth 100000 in
set_option maxHeartbeats 4000000 in
theorem lp_X2_delayedBy {sh : SH} {mi : MI} {mr : MR} (hB : ba_c sh mr) {K : Nat} {nu : Nat → Nat} {nd : Nat → Nat → Nat} {dr : Nat → Nat} {l : List Nat} (hP : PL_c mi K nu nd dr l) (f : Nat) (hf : f < K) : ∀ i, i ≤ K → ∀ m, (∀ a c, ¬ (a = 11 ∧ 5 ≤ c) → m a c = mi a c) → (∀ k, k < 5 → m 11 ((qo l f i).length * 5 + k) = nI (cl_o nd dr (qo l f i) k)) → EV none 2 0 0 mX2_delayedBy 19 [some (pv_r 2), some (pv_i (nI f)), some (pv_i (nI (da nu nd dr l f i))), some (pv_i (nI (qo l f i).length)), some (pv_i (nI i)), none] [] sh m mr (fun v_ sh_ mi_ mr_ => v_ = some (pv_i (nI (da nu nd dr l f K))) ∧ sh_ = sh ∧ mr_ = mr ∧ ∀ a c, ¬ (a = 11 ∧ 5 ≤ c) → mi_ a c = mi a c) := by
  have hbd := PL_b hP
  have hK7 := hP.2.1
  have hll := hP.2.2.2.1
  refine lp_i K (fun i hi ih => ?_)
  intro m hag hcl
  have hPm := PL_ag hag hP
  refine ev_iload dX2_delayedBy_19 rfl ?_
  refine ev_aload_n dX2_delayedBy_21 rfl ?_
  refine ev_geti dX2_delayedBy_22 fl_X2_39 rfl (hB.1 2 _ rfl) ?_
  refine ev_icmp_ge (tgt := 84) dX2_delayedBy_25 rfl (fun h25 => ?_) (fun h25 => ?_)
  · have hin : i = K := by have := (nl_le ((hag 2 9 (by omega)).trans hP.1) (b := i) rfl (by omega) (by omega)).mp h25; omega
    refine ev_iload_n dX2_delayedBy_84 rfl ?_
    exact ev_ireturn (ty := .int) dX2_delayedBy_85 rfl rfl ⟨by rw [hin], rfl, rfl, hag⟩
  · have hlt : i < K := by have := (not_congr (nl_le ((hag 2 9 (by omega)).trans hP.1) (b := i) rfl (by omega) (by omega))).mp h25; omega
    have hn := PL_n hPm hlt
    have hPi := hPm.2.2.2.2.2.1 _ hn.2.1
    refine ev_iload dX2_delayedBy_28 rfl ?_
    refine ev_iload_n dX2_delayedBy_30 rfl ?_
    refine ev_icmp_eq (tgt := 78) dX2_delayedBy_31 rfl (fun h31 => ?_) (fun h31 => ?_)
    · refine ev_iincN dX2_delayedBy_78 rfl (by decide) ?_
      refine ev_goto (tgt := 19) dX2_delayedBy_81 rfl ?_
      have hif : i = f := (nI_eq (by omega) (by omega)).mp h31
      have q := ih hlt m hag (by simp only [qo]; rw [if_pos hif]; exact hcl)
      simp only [qo, da] at q
      rw [if_pos hif, if_neg (fun e => e.1 hif)] at q
      exact q
    · have hql := qo_len (l := l) (f := f) i
      have hD : (qo l f i).length < 7 := by
        have : ¬ i = f := fun e => h31 (by rw [e])
        rw [hql]; split <;> omega
      have hcb : ∀ k, k < 5 → cl_o nd dr (qo l f i) k ≤ 100000 := fun k hk => Nat.le_trans (cl_b2 hbd _ (by omega) (qo_in hP.2.2.2.2.1 (by omega) i (by omega)) k hk) (by decide)
      refine ev_aload_n dX2_delayedBy_34 rfl ?_
      refine ev_iload_n dX2_delayedBy_35 rfl ?_
      refine ev_aload_n dX2_delayedBy_36 rfl ?_
      refine ev_getq dX2_delayedBy_37 fl_X2_33 rfl (hB.1 2 _ rfl) (hB.2 2 7 _ rfl) ?_
      refine ev_iload dX2_delayedBy_40 rfl ?_
      refine ev_iald dX2_delayedBy_42 (hB.1 10 _ rfl) (j := i) rfl (by omega) (by decide) ?_
      rw [hn.1]
      refine ev_v2i dX2_delayedBy_43 cv_X2_64 (hB.1 2 _ rfl) (Nat.le_of_ble_eq_true rfl) (by decide) (t_X2_work hB (qo l f i).length (l.getD i 0) (nd (l.getD i 0)) (cl_o nd dr (qo l f i)) (dr (l.getD i 0)) hD (by omega) hPi.2.2.1 hPi.2.2.2.2.1 hcl hPi.2.2.2.1 hPi.2.2.2.2.2 hcb) ?_
      refine ev_istore dX2_delayedBy_46 (by decide) ?_
      refine ev_iincN dX2_delayedBy_48 rfl (by decide) ?_
      refine ev_iload_n dX2_delayedBy_51 rfl ?_
      refine ev_iload dX2_delayedBy_52 rfl ?_
      refine ev_aload_n dX2_delayedBy_54 rfl ?_
      refine ev_getq dX2_delayedBy_55 fl_X2_9 rfl (hB.1 2 _ rfl) (hB.2 2 0 _ rfl) ?_
      refine ev_iload dX2_delayedBy_58 rfl ?_
      refine ev_iald dX2_delayedBy_60 (hB.1 3 _ rfl) (j := i) rfl (by omega) (by decide) ?_
      refine ev_icmp_le (tgt := 75) dX2_delayedBy_61 rfl (fun h61 => ?_) (fun h61 => ?_)
      · refine ev_iconst (v := 0) dX2_delayedBy_75 rfl ?_
        refine ev_ior dX2_delayedBy_76 ?_
        refine ev_istore_n dX2_delayedBy_77 (by decide) ?_
        refine ev_iincN dX2_delayedBy_78 rfl (by decide) ?_
        refine ev_goto (tgt := 19) dX2_delayedBy_81 rfl ?_
        have hif : ¬ i = f := fun e => h31 (by rw [e])
        have e5 : cl_o nd dr (qo l f i ++ [l.getD i 0]) 4 = lf (nd (l.getD i 0)) (dr (l.getD i 0)) (cl_o nd dr (qo l f i)) 5 := by rw [cl_snoc]; rfl
        have hb5 : lf (nd (l.getD i 0)) (dr (l.getD i 0)) (cl_o nd dr (qo l f i)) 5 ≤ 3000 := by
          rw [← e5]
          exact cl_b2 hbd _ (by simp; omega) (fun x hx => (List.mem_append.mp hx).elim (fun e => qo_in hP.2.2.2.2.1 (by omega) i (by omega) x e) (fun e => by rw [List.mem_singleton.mp e]; exact hn.2.1)) 4 (by decide)
        have he3 : wk_m m (qo l f i).length (ck (nd (l.getD i 0)) (dr (l.getD i 0)) (cl_o nd dr (qo l f i))) 5 3 i = nI (cl_o nd dr (l.take (i + 1)) 4) := (wk_o (by omega)).trans ((hag 3 i (by omega)).trans (hP.2.2.2.2.2.2 i hlt).2)
        have hb3 : cl_o nd dr (l.take (i + 1)) 4 ≤ 3000 := cl_b2 hbd _ (by simp; omega) (fun x hx => hP.2.2.2.2.1.2 x (List.mem_of_mem_take hx)) 4 (by decide)
        rw [he3] at h61
        have q := ih hlt (wk_m m (qo l f i).length (ck (nd (l.getD i 0)) (dr (l.getD i 0)) (cl_o nd dr (qo l f i))) 5) (fun a c g => (wk_o (by omega)).trans (hag a c g)) (fun k hk => by simp only [qo]; rw [if_neg hif, List.length_append, List.length_singleton, wk_i hk, cl_snoc])
        simp only [qo, da] at q
        rw [if_neg hif, if_neg (fun e => absurd e.2 (by rw [e5]; have := (nI_leI (by omega) (by omega)).mp h61; omega)), List.length_append, List.length_singleton] at q
        rw [Int32.or_zero]
        exact ev_fg 5 q
      · refine ev_iconst (v := 1) dX2_delayedBy_64 rfl ?_
        refine ev_aload_n dX2_delayedBy_65 rfl ?_
        refine ev_iload dX2_delayedBy_66 rfl ?_
        refine ev_v1i dX2_delayedBy_68 cv_X2_72 (hB.1 2 _ rfl) (Nat.le_of_ble_eq_true rfl) (by decide) (t_X2_numberAt hB (PL_w (f := (ck (nd (l.getD i 0)) (dr (l.getD i 0)) (cl_o nd dr (qo l f i)))) (n := 5) (D := (qo l f i).length) hPm) i hlt) ?_
        refine ev_ishl dX2_delayedBy_71 ?_
        refine ev_goto (tgt := 76) dX2_delayedBy_72 rfl ?_
        refine ev_ior dX2_delayedBy_76 ?_
        refine ev_istore_n dX2_delayedBy_77 (by decide) ?_
        refine ev_iincN dX2_delayedBy_78 rfl (by decide) ?_
        refine ev_goto (tgt := 19) dX2_delayedBy_81 rfl ?_
        have hif : ¬ i = f := fun e => h31 (by rw [e])
        have e5 : cl_o nd dr (qo l f i ++ [l.getD i 0]) 4 = lf (nd (l.getD i 0)) (dr (l.getD i 0)) (cl_o nd dr (qo l f i)) 5 := by rw [cl_snoc]; rfl
        have hb5 : lf (nd (l.getD i 0)) (dr (l.getD i 0)) (cl_o nd dr (qo l f i)) 5 ≤ 3000 := by
          rw [← e5]
          exact cl_b2 hbd _ (by simp; omega) (fun x hx => (List.mem_append.mp hx).elim (fun e => qo_in hP.2.2.2.2.1 (by omega) i (by omega) x e) (fun e => by rw [List.mem_singleton.mp e]; exact hn.2.1)) 4 (by decide)
        have he3 : wk_m m (qo l f i).length (ck (nd (l.getD i 0)) (dr (l.getD i 0)) (cl_o nd dr (qo l f i))) 5 3 i = nI (cl_o nd dr (l.take (i + 1)) 4) := (wk_o (by omega)).trans ((hag 3 i (by omega)).trans (hP.2.2.2.2.2.2 i hlt).2)
        have hb3 : cl_o nd dr (l.take (i + 1)) 4 ≤ 3000 := cl_b2 hbd _ (by simp; omega) (fun x hx => hP.2.2.2.2.1.2 x (List.mem_of_mem_take hx)) 4 (by decide)
        rw [he3] at h61
        have q := ih hlt (wk_m m (qo l f i).length (ck (nd (l.getD i 0)) (dr (l.getD i 0)) (cl_o nd dr (qo l f i))) 5) (fun a c g => (wk_o (by omega)).trans (hag a c g)) (fun k hk => by simp only [qo]; rw [if_neg hif, List.length_append, List.length_singleton, wk_i hk, cl_snoc])
        simp only [qo, da] at q
        rw [if_neg hif, if_pos ⟨hif, by rw [e5]; have := (not_congr (nI_leI (by omega) (by omega))).mp h61; omega⟩, List.length_append, List.length_singleton, ← or_10 _ hn.2.2.2 _ (da_lt (K := K) (fun a ha => (PL_n hP ha).2.2.2) i (by omega))] at q
        exact ev_fg 5 q
set_option maxRecDepth 100000 in
set_option maxHeartbeats 4000000 in
theorem t_X2_delayedBy {sh : SH} {mi : MI} {mr : MR} (hB : ba_c sh mr) {K : Nat} {nu : Nat → Nat} {nd : Nat → Nat → Nat} {dr : Nat → Nat} {l : List Nat} (hP : PL_c mi K nu nd dr l) (f : Nat) (hf : f < K) : EV none 2 0 0 mX2_delayedBy 0 (en_l mX2_delayedBy [pv_r 2, pv_i (nI f)]) [] sh mi mr (fun v_ sh_ mi_ mr_ => v_ = some (pv_i (nI (da nu nd dr l f K))) ∧ sh_ = sh ∧ mr_ = mr ∧ ∀ a c, ¬ (a = 11 ∧ 5 ≤ c) → mi_ a c = mi a c) := by
  show EV none 2 0 0 mX2_delayedBy 0 [some (pv_r 2), some (pv_i (nI f)), none, none, none, none] [] sh mi mr _
  have hn := PL_n hP hf
  have hPi := hP.2.2.2.2.2.1 _ hn.2.1
  have hK7 := hP.2.1
  refine ev_iconst (v := 0) dX2_delayedBy_0 rfl ?_
  refine ev_istore_n dX2_delayedBy_1 (by decide) ?_
  refine ev_iconst (v := 1) dX2_delayedBy_2 rfl ?_
  refine ev_istore_n dX2_delayedBy_3 (by decide) ?_
  refine ev_aload_n dX2_delayedBy_4 rfl ?_
  refine ev_iconst (v := 0) dX2_delayedBy_5 rfl ?_
  refine ev_aload_n dX2_delayedBy_6 rfl ?_
  refine ev_getq dX2_delayedBy_7 fl_X2_33 rfl (hB.1 2 _ rfl) (hB.2 2 7 _ rfl) ?_
  refine ev_iload_n dX2_delayedBy_10 rfl ?_
  refine ev_iald dX2_delayedBy_11 (hB.1 10 _ rfl) (j := f) rfl (by omega) (by decide) ?_
  rw [hn.1]
  refine ev_v2i dX2_delayedBy_12 cv_X2_64 (hB.1 2 _ rfl) (Nat.le_of_ble_eq_true rfl) (by decide) (t_X2_work hB 0 (l.getD f 0) (nd (l.getD f 0)) (fun _ => 0) (dr (l.getD f 0)) (by decide) (by have := hP.2.1; omega) hPi.2.2.1 hPi.2.2.2.2.1 (fun k hk => by rw [Nat.zero_mul, Nat.zero_add]; exact hP.2.2.1 k hk) hPi.2.2.2.1 hPi.2.2.2.2.2 (fun _ _ => Nat.zero_le _)) ?_
  refine ev_pop dX2_delayedBy_15 ?_
  refine ev_iconst (v := 0) dX2_delayedBy_16 rfl ?_
  refine ev_istore dX2_delayedBy_17 (by decide) ?_
  exact lp_X2_delayedBy hB hP f hf 0 (Nat.zero_le K) _ (fun a c g => wk_o (by omega)) (fun k hk => wk_i (D := 0) hk)
set_option maxRecDepth 100000 in
set_option maxHeartbeats 4000000 in
theorem t_X5_planned_u {sh : SH} {mi : MI} {mr : MR} (hB : ba_c sh mr) (p1 p2 : Int32) (hu : ¬ (0 ≤ p1 ∧ p1 ≤ ((mi 2 9) - 1))) : EV none 3 0 0 mX5_planned 0 (en_l mX5_planned [pv_r 0, pv_i p1, pv_i p2]) [] sh mi mr (ok_r sh mr (-3) mi) := by
  show EV none 3 0 0 mX5_planned 0 [some (pv_r 0), some (pv_i p1), some (pv_i p2)] [] sh mi mr _
  refine ev_aload_n dX5_planned_0 rfl ?_
  refine ev_getq dX5_planned_1 fl_X5_18 rfl (hB.1 0 _ rfl) (hB.2 0 1 _ rfl) ?_
  refine ev_iload_n dX5_planned_4 rfl ?_
  refine ev_v1i dX5_planned_5 cv_X5_141 (hB.1 2 _ rfl) (Nat.le_of_ble_eq_true rfl) (by decide) (t_X2_hasPlace hB _) ?_
  refine ev_if_ne_f (tgt := 14) dX5_planned_8 rfl (bi_f hu) ?_
  refine ev_bipush (v := (-3)) dX5_planned_11 rfl ?_
  exact ev_ireturn (ty := .int) dX5_planned_13 rfl rfl ⟨rfl, rfl, rfl, rfl⟩
set_option maxRecDepth 100000 in
set_option maxHeartbeats 4000000 in
theorem t_X5_planned_k {sh : SH} {mi : MI} {mr : MR} (hB : ba_c sh mr) {K : Nat} {nu : Nat → Nat} {nd : Nat → Nat → Nat} {dr : Nat → Nat} {l : List Nat} (hP : PL_c mi K nu nd dr l) (i : Nat) (hlt : i < K) (p2 : Int32) : EV none 3 0 0 mX5_planned 0 (en_l mX5_planned [pv_r 0, pv_i (nI i), pv_i p2]) [] sh mi mr (fun v_ sh_ mi_ mr_ => ((p2 = 0) ∧ (ok_r sh mr (nI (nu (l.getD i 0))) mi) v_ sh_ mi_ mr_) ∨ ((¬ p2 = 0) ∧ (p2 = 1) ∧ (ok_r sh mr (mi 3 i) mi) v_ sh_ mi_ mr_) ∨ ((¬ p2 = 0) ∧ (¬ p2 = 1) ∧ (ok_r sh mr (-3) mi) v_ sh_ mi_ mr_)) := by
  show EV none 3 0 0 mX5_planned 0 [some (pv_r 0), some (pv_i (nI i)), some (pv_i p2)] [] sh mi mr _
  refine ev_aload_n dX5_planned_0 rfl ?_
  refine ev_getq dX5_planned_1 fl_X5_18 rfl (hB.1 0 _ rfl) (hB.2 0 1 _ rfl) ?_
  refine ev_iload_n dX5_planned_4 rfl ?_
  refine ev_v1i dX5_planned_5 cv_X5_141 (hB.1 2 _ rfl) (Nat.le_of_ble_eq_true rfl) (by decide) (t_X2_hasPlace hB _) ?_
  refine ev_if_ne_t (tgt := 14) dX5_planned_8 rfl (by rw [bi_1 (by rw [hP.1]; exact (i_cases (by have := hP.2.1; omega)).mpr ⟨i, hlt, rfl⟩)]; decide) ?_
  refine ev_iload_n dX5_planned_14 rfl ?_
  by_cases h15_0 : p2 = 0
  · refine ev_lookup (tgt := 40) dX5_planned_15 (by decide) (by rw [h15_0] <;> rfl) rfl ?_
    refine ev_aload_n dX5_planned_40 rfl ?_
    refine ev_getq dX5_planned_41 fl_X5_18 rfl (hB.1 0 _ rfl) (hB.2 0 1 _ rfl) ?_
    refine ev_iload_n dX5_planned_44 rfl ?_
    refine ev_v1i dX5_planned_45 cv_X5_144 (hB.1 2 _ rfl) (Nat.le_of_ble_eq_true rfl) (by decide) (t_X2_numberAt hB hP i hlt) ?_
    exact ev_ireturn (ty := .int) dX5_planned_48 rfl rfl (Or.inl ⟨h15_0, rfl, rfl, rfl, rfl⟩)
  by_cases h15_1 : p2 = 1
  · refine ev_lookup (tgt := 49) dX5_planned_15 (by decide) (by rw [h15_1] <;> rfl) rfl ?_
    refine ev_aload_n dX5_planned_49 rfl ?_
    refine ev_getq dX5_planned_50 fl_X5_18 rfl (hB.1 0 _ rfl) (hB.2 0 1 _ rfl) ?_
    refine ev_getq dX5_planned_53 fl_X5_147 rfl (hB.1 2 _ rfl) (hB.2 2 0 _ rfl) ?_
    refine ev_iload_n dX5_planned_56 rfl ?_
    refine ev_iald dX5_planned_57 (hB.1 3 _ rfl) (j := i) rfl (by have := hP.2.1; omega) (by decide) ?_
    exact ev_ireturn (ty := .int) dX5_planned_58 rfl rfl (Or.inr (Or.inl ⟨h15_0, h15_1, rfl, rfl, rfl, rfl⟩))
  refine ev_lookup (tgt := 59) dX5_planned_15 (by decide) (by rw [lv_osw h15_0 (by decide), lv_osw h15_1 (by decide)] <;> rfl) rfl ?_
  refine ev_bipush (v := (-3)) dX5_planned_59 rfl ?_
  exact ev_ireturn (ty := .int) dX5_planned_61 rfl rfl (Or.inr (Or.inr ⟨h15_0, h15_1, rfl, rfl, rfl, rfl⟩))
set_option maxRecDepth 100000 in
set_option maxHeartbeats 4000000 in
theorem t_X5_delays_u {sh : SH} {mi : MI} {mr : MR} (hB : ba_c sh mr) (p1 : Int32) (hu : ¬ (0 ≤ p1 ∧ p1 ≤ (mi 0 5) - 1)) : EV none 3 0 0 mX5_delays 0 (en_l mX5_delays [pv_r 0, pv_i p1]) [] sh mi mr (ok_r sh mr (-2) mi) := by
  show EV none 3 0 0 mX5_delays 0 [some (pv_r 0), some (pv_i p1), none] [] sh mi mr _
  refine ev_aload_n dX5_delays_0 rfl ?_
  refine ev_iload_n dX5_delays_1 rfl ?_
  refine ev_v1q dX5_delays_2 cv_X5_53 (hB.1 0 _ rfl) (Nat.le_of_ble_eq_true rfl) (by decide) (t_X5_bookAt_u hB _ hu) ?_
  refine ev_ifnonnull_n (tgt := 11) dX5_delays_5 rfl ?_
  refine ev_bipush (v := (-2)) dX5_delays_8 rfl ?_
  exact ev_ireturn (ty := .int) dX5_delays_10 rfl rfl ⟨rfl, rfl, rfl, rfl⟩
set_option maxRecDepth 100000 in
set_option maxHeartbeats 4000000 in
theorem t_X5_delays_n {sh : SH} {mi : MI} {mr : MR} (hB : ba_c sh mr) (nb : Nat) (hnb : mi 0 5 = nI nb) (hnb10 : nb ≤ 10) (b : Nat) (hb : b < nb) {q : Nat} (hq : mr 1 b = some q) (hk : bk_c sh mr q) {K : Nat} {nu : Nat → Nat} {nd : Nat → Nat → Nat} {dr : Nat → Nat} {l : List Nat} (hP : PL_c mi K nu nd dr l) (hf3 : ∀ i, i < K → nu (l.getD i 0) ≠ b) : EV none 3 0 0 mX5_delays 0 (en_l mX5_delays [pv_r 0, pv_i (nI b)]) [] sh mi mr (ok_r sh mr (-4) mi) := by
  show EV none 3 0 0 mX5_delays 0 [some (pv_r 0), some (pv_i (nI b)), none] [] sh mi mr _
  refine ev_aload_n dX5_delays_0 rfl ?_
  refine ev_iload_n dX5_delays_1 rfl ?_
  refine ev_v1q dX5_delays_2 cv_X5_53 (hB.1 0 _ rfl) (Nat.le_of_ble_eq_true rfl) (by decide) (t_X5_bookAt_k hB nb hnb hnb10 b hb hq hk) ?_
  refine ev_ifnonnull_s (tgt := 11) dX5_delays_5 rfl ?_
  refine ev_aload_n dX5_delays_11 rfl ?_
  refine ev_getq dX5_delays_12 fl_X5_18 rfl (hB.1 0 _ rfl) (hB.2 0 1 _ rfl) ?_
  refine ev_iload_n dX5_delays_15 rfl ?_
  refine ev_v1i dX5_delays_16 cv_X5_150 (hB.1 2 _ rfl) (Nat.le_of_ble_eq_true rfl) (by decide) (t_X2_placeOf_n hB hP b (by omega) hf3) ?_
  refine ev_istore_n dX5_delays_19 (by decide) ?_
  refine ev_iload_n dX5_delays_20 rfl ?_
  refine ev_iconst (v := (-1)) dX5_delays_21 rfl ?_
  refine ev_icmp_ne_f (tgt := 28) dX5_delays_22 rfl (by decide) ?_
  refine ev_bipush (v := (-4)) dX5_delays_25 rfl ?_
  exact ev_ireturn (ty := .int) dX5_delays_27 rfl rfl ⟨rfl, rfl, rfl, rfl⟩
set_option maxRecDepth 100000 in
set_option maxHeartbeats 4000000 in
theorem t_X5_delays_k {sh : SH} {mi : MI} {mr : MR} (hB : ba_c sh mr) (nb : Nat) (hnb : mi 0 5 = nI nb) (hnb10 : nb ≤ 10) (b : Nat) (hb : b < nb) {q : Nat} (hq : mr 1 b = some q) (hk : bk_c sh mr q) {K : Nat} {nu : Nat → Nat} {nd : Nat → Nat → Nat} {dr : Nat → Nat} {l : List Nat} (hP : PL_c mi K nu nd dr l) (f : Nat) (hf : f < K) (hf2 : nu (l.getD f 0) = b) (hf3 : ∀ i, i < f → nu (l.getD i 0) ≠ b) : EV none 3 0 0 mX5_delays 0 (en_l mX5_delays [pv_r 0, pv_i (nI b)]) [] sh mi mr (fun v_ sh_ mi_ mr_ => v_ = some (pv_i (nI (da nu nd dr l f K))) ∧ sh_ = sh ∧ mr_ = mr ∧ ∀ a c, ¬ (a = 11 ∧ 5 ≤ c) → mi_ a c = mi a c) := by
  show EV none 3 0 0 mX5_delays 0 [some (pv_r 0), some (pv_i (nI b)), none] [] sh mi mr _
  refine ev_aload_n dX5_delays_0 rfl ?_
  refine ev_iload_n dX5_delays_1 rfl ?_
  refine ev_v1q dX5_delays_2 cv_X5_53 (hB.1 0 _ rfl) (Nat.le_of_ble_eq_true rfl) (by decide) (t_X5_bookAt_k hB nb hnb hnb10 b hb hq hk) ?_
  refine ev_ifnonnull_s (tgt := 11) dX5_delays_5 rfl ?_
  refine ev_aload_n dX5_delays_11 rfl ?_
  refine ev_getq dX5_delays_12 fl_X5_18 rfl (hB.1 0 _ rfl) (hB.2 0 1 _ rfl) ?_
  refine ev_iload_n dX5_delays_15 rfl ?_
  refine ev_v1i dX5_delays_16 cv_X5_150 (hB.1 2 _ rfl) (Nat.le_of_ble_eq_true rfl) (by decide) (t_X2_placeOf_k hB hP b f (by omega) hf hf2 hf3) ?_
  refine ev_istore_n dX5_delays_19 (by decide) ?_
  refine ev_iload_n dX5_delays_20 rfl ?_
  refine ev_iconst (v := (-1)) dX5_delays_21 rfl ?_
  refine ev_icmp_ne_t (tgt := 28) dX5_delays_22 rfl (nI_m1 (by have := hP.2.1; omega)) ?_
  refine ev_aload_n dX5_delays_28 rfl ?_
  refine ev_getq dX5_delays_29 fl_X5_18 rfl (hB.1 0 _ rfl) (hB.2 0 1 _ rfl) ?_
  refine ev_iload_n dX5_delays_32 rfl ?_
  refine ev_callv (av := [pv_i (nI f)]) dX5_delays_33 cv_X5_153 (hB.1 2 _ rfl) rfl rfl (Nat.le_of_ble_eq_true rfl) (by decide) (Or.inl (fun v_ s_ m_ r_ h_ => by rw [h_.2.1])) (Nat.zero_add _) (Nat.zero_add _) (t_X2_delayedBy hB hP f hf) ?_
  rintro v_ sh_ m2 mr_ ⟨e1_, e2_, e3_, hD⟩
  subst e1_
  have e2_ := e2_.symm
  subst e2_
  have e3_ := e3_.symm
  subst e3_
  exact ev_ireturn (ty := .int) dX5_delays_36 rfl rfl ⟨rfl, rfl, rfl, hD⟩
