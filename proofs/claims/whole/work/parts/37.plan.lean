set_option maxRecDepth 100000 in
set_option maxHeartbeats 4000000 in
theorem lp_X2_arrange {sh : SH} {mi : MI} {mr : MR} {K : Nat} {nd : Nat → Nat → Nat} {dr pm pc : Nat → Nat} (hB : ba_c sh mr) (hb : bd_o K nd dr pm pc) (hK7 : K ≤ 7) (hPM : PM_c mi K nd dr pm pc) (h0 : ∀ k, k < 5 → mi 11 k = 0) (m1 : MI) (hm1 : (m1 2 10 = nI (be_o K nd dr pm pc).1 ∧ ∀ a c, ¬ (a = 2 ∧ (c = 10 ∨ c = 11)) → a ≠ 3 → a ≠ 9 → a ≠ 10 → ¬ (a = 11 ∧ 5 ≤ c) → m1 a c = mi a c) ∧ ∀ i, i < K → m1 10 i = nI ((be_o K nd dr pm pc).2.2.getD i 0)) : ∀ i, i ≤ K → ∀ m, (∀ a c, a ≠ 3 → ¬ (a = 11 ∧ 5 ≤ c) → m a c = m1 a c) → (∀ k, k < 5 → m 11 (i * 5 + k) = nI (cl_o nd dr ((be_o K nd dr pm pc).2.2.take i) k)) → (∀ a, a < i → m 3 a = nI (cl_o nd dr ((be_o K nd dr pm pc).2.2.take (a + 1)) 4)) → EV none 10 0 0 mX2_arrange 21 [some (pv_r 2), some (pv_i (nI i))] [] sh m mr (fun v_ sh_ mi_ mr_ => v_ = some (pv_i (nI (be_o K nd dr pm pc).1)) ∧ sh_ = sh ∧ mr_ = mr ∧ (∀ a c, ¬ (a = 2 ∧ (c = 10 ∨ c = 11)) → a ≠ 3 → a ≠ 9 → a ≠ 10 → ¬ (a = 11 ∧ 5 ≤ c) → mi_ a c = mi a c) ∧ ∀ i, i < K → mi_ 10 i = nI ((be_o K nd dr pm pc).2.2.getD i 0) ∧ mi_ 3 i = nI (cl_o nd dr ((be_o K nd dr pm pc).2.2.take (i + 1)) 4)) := by
  have hok := be_ok hb hK7
  refine lp_i K (fun i hi ih => ?_)
  intro m hag hcl h3
  have hPMm : PM_c m K nd dr pm pc := by
    have hx : ∀ a c, ¬ (a = 2 ∧ (c = 10 ∨ c = 11)) → a ≠ 3 → a ≠ 9 → a ≠ 10 → ¬ (a = 11 ∧ 5 ≤ c) → m a c = mi a c := fun a c g1 g2 g3 g4 g5 => (hag a c g2 g5).trans (hm1.1.2 a c g1 g2 g3 g4 g5)
    exact ⟨(hx 2 9 (by decide) (by decide) (by decide) (by decide) (by decide)).trans hPM.1, fun j hj => ⟨fun k hk => (hx 5 _ (by omega) (by decide) (by decide) (by decide) (by omega)).trans ((hPM.2 j hj).1 k hk), (hx 6 _ (by omega) (by decide) (by decide) (by decide) (by omega)).trans (hPM.2 j hj).2.1, (hx 7 _ (by omega) (by decide) (by decide) (by decide) (by omega)).trans (hPM.2 j hj).2.2.1, (hx 8 _ (by omega) (by decide) (by decide) (by decide) (by omega)).trans (hPM.2 j hj).2.2.2⟩⟩
  have hK1 := hPMm.1
  refine ev_iload_n dX2_arrange_21 rfl ?_
  refine ev_aload_n dX2_arrange_22 rfl ?_
  refine ev_geti dX2_arrange_23 fl_X2_39 rfl (hB.1 2 _ rfl) ?_
  refine ev_icmp_ge (tgt := 52) dX2_arrange_26 rfl (fun h26 => ?_) (fun h26 => ?_)
  · have hin : i = K := by have := (nl_le hK1 (b := i) rfl (by omega) (by omega)).mp h26; omega
    refine ev_aload_n dX2_arrange_52 rfl ?_
    refine ev_geti dX2_arrange_53 fl_X2_43 rfl (hB.1 2 _ rfl) ?_
    exact ev_ireturn (ty := .int) dX2_arrange_56 rfl rfl ⟨by rw [hag 2 10 (by decide) (by omega), hm1.1.1], rfl, rfl, fun a c g1 g2 g3 g4 g5 => (hag a c g2 g5).trans (hm1.1.2 a c g1 g2 g3 g4 g5), fun a ha => ⟨(hag 10 a (by decide) (by omega)).trans (hm1.2 a ha), h3 a (by omega)⟩⟩
  · have hlt : i < K := by have := (not_congr (nl_le hK1 (b := i) rfl (by omega) (by omega))).mp h26; omega
    have hb10 : m 10 i = nI ((be_o K nd dr pm pc).2.2.getD i 0) := (hag 10 i (by decide) (by omega)).trans (hm1.2 i hlt)
    have hj : (be_o K nd dr pm pc).2.2.getD i 0 < K := hok.2.1.2 _ (by rw [List.getD_eq_getElem?_getD, List.getElem?_eq_getElem (by omega)]; exact List.getElem_mem _)
    have hPi := (hPMm).2 _ hj
    have hbi := hb _ hj
    have hcb : ∀ k, k < 5 → cl_o nd dr ((be_o K nd dr pm pc).2.2.take i) k ≤ 100000 := fun k hk => Nat.le_trans (cl_b2 hb _ (by simp; omega) (fun x hx => hok.2.1.2 x (List.mem_of_mem_take hx)) k hk) (by decide)
    refine ev_aload_n dX2_arrange_29 rfl ?_
    refine ev_getq dX2_arrange_30 fl_X2_9 rfl (hB.1 2 _ rfl) (hB.2 2 0 _ rfl) ?_
    refine ev_iload_n dX2_arrange_33 rfl ?_
    refine ev_aload_n dX2_arrange_34 rfl ?_
    refine ev_iload_n dX2_arrange_35 rfl ?_
    refine ev_aload_n dX2_arrange_36 rfl ?_
    refine ev_getq dX2_arrange_37 fl_X2_33 rfl (hB.1 2 _ rfl) (hB.2 2 7 _ rfl) ?_
    refine ev_iload_n dX2_arrange_40 rfl ?_
    refine ev_iald dX2_arrange_41 (hB.1 10 _ rfl) (j := i) rfl (by omega) (by decide) ?_
    rw [hb10]
    refine ev_v2i dX2_arrange_42 cv_X2_64 (hB.1 2 _ rfl) (Nat.le_of_ble_eq_true rfl) (by decide) (t_X2_work hB i ((be_o K nd dr pm pc).2.2.getD i 0) (nd ((be_o K nd dr pm pc).2.2.getD i 0)) (cl_o nd dr ((be_o K nd dr pm pc).2.2.take i)) (dr ((be_o K nd dr pm pc).2.2.getD i 0)) (by omega) (by omega) hPi.1 hPi.2.1 hcl hbi.1 hbi.2.1 hcb) ?_
    refine ev_iast dX2_arrange_45 (hB.1 3 _ rfl) (j := i) rfl (by omega) (by decide) ?_
    refine ev_iincN dX2_arrange_46 rfl (by decide) ?_
    refine ev_goto (tgt := 21) dX2_arrange_49 rfl ?_
    refine ih hlt _ (fun a c g1 g2 => ?_) (fun k hk => ?_) (fun a ha => ?_)
    · rw [up_ne (Or.inl g1), wk_o (by omega)]
      exact hag a c g1 g2
    · rw [up_ne (Or.inl (by decide)), wk_i hk, tk_sn (by omega), cl_snoc]
    · by_cases e : a = i
      · subst e
        rw [up_at, tk_sn (by omega), cl_snoc]
        rfl
      · rw [up_ne (Or.inr e), wk_o (by omega)]
        exact h3 a (by omega)
set_option maxRecDepth 100000 in
set_option maxHeartbeats 4000000 in
theorem t_X2_arrange {sh : SH} {mi : MI} {mr : MR} {K : Nat} {nd : Nat → Nat → Nat} {dr pm pc : Nat → Nat} (hB : ba_c sh mr) (hb : bd_o K nd dr pm pc) (hK7 : K ≤ 7) (hPM : PM_c mi K nd dr pm pc) (h0 : ∀ k, k < 5 → mi 11 k = 0) (hK0 : 1 ≤ K) : EV none 10 0 0 mX2_arrange 0 (en_l mX2_arrange [pv_r 2]) [] sh mi mr (fun v_ sh_ mi_ mr_ => v_ = some (pv_i (nI (be_o K nd dr pm pc).1)) ∧ sh_ = sh ∧ mr_ = mr ∧ (∀ a c, ¬ (a = 2 ∧ (c = 10 ∨ c = 11)) → a ≠ 3 → a ≠ 9 → a ≠ 10 → ¬ (a = 11 ∧ 5 ≤ c) → mi_ a c = mi a c) ∧ ∀ i, i < K → mi_ 10 i = nI ((be_o K nd dr pm pc).2.2.getD i 0) ∧ mi_ 3 i = nI (cl_o nd dr ((be_o K nd dr pm pc).2.2.take (i + 1)) 4)) := by
  show EV none 10 0 0 mX2_arrange 0 [some (pv_r 2), none] [] sh mi mr _
  obtain ⟨r, hr⟩ : ∃ r, r + 1 = K := ⟨K - 1, by omega⟩
  have hok := be_ok hb hK7
  refine ev_aload_n dX2_arrange_0 rfl ?_
  refine ev_ldc dX2_arrange_1 kc_X2_59 ?_
  refine ev_puti dX2_arrange_3 fl_X2_43 rfl rfl (hB.1 2 _ rfl) ?_
  refine ev_aload_n dX2_arrange_6 rfl ?_
  refine ev_ldc dX2_arrange_7 kc_X2_59 ?_
  refine ev_puti dX2_arrange_9 fl_X2_46 rfl rfl (hB.1 2 _ rfl) ?_
  refine ev_aload_n dX2_arrange_12 rfl ?_
  refine ev_iconst (v := 0) dX2_arrange_13 rfl ?_
  refine ev_iconst (v := 0) dX2_arrange_14 rfl ?_
  refine ev_iconst (v := 0) dX2_arrange_15 rfl ?_
  refine ev_callv (av := [pv_i 0, pv_i 0, pv_i 0]) dX2_arrange_16 cv_X2_60 (hB.1 2 _ rfl) rfl rfl (Nat.le_of_ble_eq_true rfl) (by omega) (Or.inl (fun v_ s_ m_ r_ h_ => by rw [h_.2.1])) (Nat.zero_add _) (Nat.zero_add _) (se_all hB hb hK7 r 0 [] 0 (up_2 (up_2 mi 2 10 1000000000) 2 11 1000000000) none (by omega) rfl (fun x hx => by cases hx) ⟨by decide, fun j hj => by simp⟩ ⟨(by simp [up_2, hPM.1]), fun j hj => by simpa [up_2] using hPM.2 j hj⟩ ⟨by simp [up_2, rc_c]; rfl, by simp [up_2, rc_e]; rfl, fun b hb2 => by cases hb2⟩ (fun i hi => by cases hi) (fun k hk => by simp only [List.length_nil, Nat.zero_mul, Nat.zero_add]; rw [up_ne (Or.inl (by decide)), up_ne (Or.inl (by decide)), h0 k hk]; rfl)) ?_
  rintro v_ sh_ m1 mr_ ⟨e1_, e2_, e3_, hF, hR⟩
  subst e1_
  have e2_ := e2_.symm
  subst e2_
  have e3_ := e3_.symm
  subst e3_
  refine ev_iconst (v := 0) dX2_arrange_19 rfl ?_
  refine ev_istore_n dX2_arrange_20 (by decide) ?_
  rw [hr, hok.1] at hR
  refine lp_X2_arrange hB hb hK7 hPM h0 m1 ⟨⟨hR.1, fun a c g1 g2 g3 g4 g5 => ?_⟩, (hR.2.2 _ rfl).2.2.2.2⟩ 0 (Nat.zero_le K) m1 (fun _ _ _ _ => rfl) (fun k hk => ?_) (fun a ha => by cases ha)
  · rw [hF a c (by omega) g4 (by omega) (by omega), up_ne (by omega), up_ne (by omega)]
  · rw [Nat.zero_mul, Nat.zero_add, hF 11 k (by omega) (by omega) (by omega) (by omega), up_ne (Or.inl (by decide)), up_ne (Or.inl (by decide)), h0 k hk]
    rfl
def el_m (mi : MI) (K q : Nat) (x : Int32) (i : Nat) : MI := fun a c => if a = 5 ∧ K * 5 ≤ c ∧ c < K * 5 + i then mi (q + 5) (c - K * 5) else if a = 4 ∧ c = K then x else mi a c
theorem el_0 {mi : MI} {K q : Nat} {x : Int32} : el_m mi K q x 0 = up_2 mi 4 K x := by
  funext a c
  simp only [el_m, up_2]
  rw [if_neg (show ¬ (a = 5 ∧ K * 5 ≤ c ∧ c < K * 5 + 0) by omega)]
theorem el_s {mi : MI} {K q i : Nat} {x : Int32} (hq : 67 ≤ q) : up_2 (el_m mi K q x i) 5 (K * 5 + i) (el_m mi K q x i (q + 5) i) = el_m mi K q x (i + 1) := by
  have e : el_m mi K q x i (q + 5) i = mi (q + 5) i := by
    simp only [el_m]
    rw [if_neg (by omega), if_neg (by omega)]
  rw [e]
  funext a c
  simp only [el_m, up_2]
  by_cases h1 : a = 5 ∧ c = K * 5 + i
  · rw [if_pos h1, if_pos (show a = 5 ∧ K * 5 ≤ c ∧ c < K * 5 + (i + 1) by omega), show c - K * 5 = i by omega]
  · rw [if_neg h1]
    by_cases h2 : a = 5 ∧ K * 5 ≤ c ∧ c < K * 5 + i
    · rw [if_pos h2, if_pos (show a = 5 ∧ K * 5 ≤ c ∧ c < K * 5 + (i + 1) by omega)]
    · rw [if_neg h2, if_neg (show ¬ (a = 5 ∧ K * 5 ≤ c ∧ c < K * 5 + (i + 1)) by omega)]
def EL_c (mi m : MI) (K q : Nat) (x : Int32) : Prop := (∀ a c, ¬ (a = 2 ∧ c = 9) → (a < 4 ∨ 8 < a) → m a c = mi a c) ∧ (∀ c, c ≠ K → m 4 c = mi 4 c ∧ m 6 c = mi 6 c ∧ m 7 c = mi 7 c ∧ m 8 c = mi 8 c) ∧ (∀ c, ¬ (K * 5 ≤ c ∧ c < K * 5 + 5) → m 5 c = mi 5 c) ∧ m 4 K = x ∧ (∀ k, k < 5 → m 5 (K * 5 + k) = mi (q + 5) k) ∧ m 6 K = mi q 8 ∧ m 7 K = mi q 9 ∧ m 8 K = mi q 10 ∧ m 2 9 = nI (K + 1)
set_option maxRecDepth 100000 in
set_option maxHeartbeats 4000000 in
theorem lp_X2_enlist {sh : SH} {mi : MI} {mr : MR} (hB : ba_c sh mr) (K : Nat) (hK : mi 2 9 = nI K) (hK7 : K < 7) (q : Nat) (hk : bk_c sh mr q) (hq : 67 ≤ q) (p1 : Int32) : ∀ i, i ≤ 5 → EV none 0 0 0 mX2_enlist 22 [some (pv_r 2), some (pv_i p1), some (pv_r q), some (pv_i (nI i))] [] sh (el_m mi K q p1 i) mr (fun v_ sh_ mi_ mr_ => v_ = none ∧ sh_ = sh ∧ mr_ = mr ∧ EL_c mi mi_ K q p1) := by
  refine lp_i 5 (fun i hi ih => ?_)
  refine ev_iload_n dX2_enlist_22 rfl ?_
  refine ev_iconst (v := 5) dX2_enlist_23 rfl ?_
  refine ev_icmp_ge (tgt := 52) dX2_enlist_24 rfl (fun h24 => ?_) (fun h24 => ?_)
  · have hin : i = 5 := by have := (nl_le n_5 rfl (by omega) (by omega)).mp h24; omega
    subst hin
    refine ev_aload_n dX2_enlist_52 rfl ?_
    refine ev_getq dX2_enlist_53 fl_X2_21 rfl (hB.1 2 _ rfl) (hB.2 2 3 _ rfl) ?_
    refine ev_aload_n dX2_enlist_56 rfl ?_
    refine ev_geti dX2_enlist_57 fl_X2_39 rfl (hB.1 2 _ rfl) ?_
    refine ev_aload_n dX2_enlist_60 rfl ?_
    refine ev_geti dX2_enlist_61 fl_X2_52 rfl hk.1 ?_
    refine ev_iast dX2_enlist_64 (hB.1 6 _ rfl) (j := K) (by simp [up_2, el_m, hK]) (by omega) (by decide) ?_
    refine ev_aload_n dX2_enlist_65 rfl ?_
    refine ev_getq dX2_enlist_66 fl_X2_24 rfl (hB.1 2 _ rfl) (hB.2 2 4 _ rfl) ?_
    refine ev_aload_n dX2_enlist_69 rfl ?_
    refine ev_geti dX2_enlist_70 fl_X2_39 rfl (hB.1 2 _ rfl) ?_
    refine ev_aload_n dX2_enlist_73 rfl ?_
    refine ev_geti dX2_enlist_74 fl_X2_54 rfl hk.1 ?_
    refine ev_iast dX2_enlist_77 (hB.1 7 _ rfl) (j := K) (by simp [up_2, el_m, hK]) (by omega) (by decide) ?_
    refine ev_aload_n dX2_enlist_78 rfl ?_
    refine ev_getq dX2_enlist_79 fl_X2_27 rfl (hB.1 2 _ rfl) (hB.2 2 5 _ rfl) ?_
    refine ev_aload_n dX2_enlist_82 rfl ?_
    refine ev_geti dX2_enlist_83 fl_X2_39 rfl (hB.1 2 _ rfl) ?_
    refine ev_aload_n dX2_enlist_86 rfl ?_
    refine ev_geti dX2_enlist_87 fl_X2_56 rfl hk.1 ?_
    refine ev_iast dX2_enlist_90 (hB.1 8 _ rfl) (j := K) (by simp [up_2, el_m, hK]) (by omega) (by decide) ?_
    refine ev_aload_n dX2_enlist_91 rfl ?_
    refine ev_dup dX2_enlist_92 ?_
    refine ev_geti dX2_enlist_93 fl_X2_39 rfl (hB.1 2 _ rfl) ?_
    refine ev_iconst (v := 1) dX2_enlist_96 rfl ?_
    refine ev_iadd dX2_enlist_97 ?_
    refine ev_puti dX2_enlist_98 fl_X2_39 rfl rfl (hB.1 2 _ rfl) ?_
    exact ev_return dX2_enlist_101 rfl ⟨rfl, rfl, rfl, fun a c g1 g2 => by simp only [up_2, el_m]; repeat rw [if_neg (by omega)],
      fun c g1 => ⟨by simp only [up_2, el_m]; repeat rw [if_neg (by omega)], by simp only [up_2, el_m]; repeat rw [if_neg (by omega)], by simp only [up_2, el_m]; repeat rw [if_neg (by omega)], by simp only [up_2, el_m]; repeat rw [if_neg (by omega)]⟩,
      fun c g1 => by simp only [up_2, el_m]; repeat rw [if_neg (by omega)],
      by simp [up_2, el_m], fun k g1 => by simp [up_2, el_m, g1],
      by simp [up_2, el_m]; repeat rw [if_neg (by omega)], by simp [up_2, el_m]; repeat rw [if_neg (by omega)], by simp [up_2, el_m]; repeat rw [if_neg (by omega)], by simp [up_2, el_m, hK, nI_1]⟩
  · have hlt : i < 5 := by have := (not_congr (nl_le n_5 rfl (by omega) (by omega))).mp h24; omega
    refine ev_aload_n dX2_enlist_27 rfl ?_
    refine ev_getq dX2_enlist_28 fl_X2_18 rfl (hB.1 2 _ rfl) (hB.2 2 2 _ rfl) ?_
    refine ev_aload_n dX2_enlist_31 rfl ?_
    refine ev_geti dX2_enlist_32 fl_X2_39 rfl (hB.1 2 _ rfl) ?_
    refine ev_iconst (v := 5) dX2_enlist_35 rfl ?_
    refine ev_imul dX2_enlist_36 ?_
    refine ev_iload_n dX2_enlist_37 rfl ?_
    refine ev_iadd dX2_enlist_38 ?_
    refine ev_aload_n dX2_enlist_39 rfl ?_
    refine ev_getq dX2_enlist_40 fl_X2_49 rfl hk.1 hk.2.1.2.2.2.2 ?_
    refine ev_iload_n dX2_enlist_43 rfl ?_
    refine ev_iald dX2_enlist_44 hk.2.2.2.2.2.2 (j := i) rfl (by omega) (by decide) ?_
    refine ev_iast dX2_enlist_45 (hB.1 5 _ rfl) (j := K * 5 + i) (by rw [(show el_m mi K q p1 i 2 9 = nI K by simp [el_m, hK]), n_5, pk_mul, nI_add]) (by omega) (by decide) ?_
    refine ev_iincN dX2_enlist_46 rfl (by decide) ?_
    refine ev_goto (tgt := 22) dX2_enlist_49 rfl ?_
    have q1 := ih hlt
    rw [← el_s hq] at q1
    exact q1
set_option maxRecDepth 100000 in
set_option maxHeartbeats 4000000 in
theorem t_X2_enlist {sh : SH} {mi : MI} {mr : MR} (hB : ba_c sh mr) (K : Nat) (hK : mi 2 9 = nI K) (hK7 : K < 7) (q : Nat) (hk : bk_c sh mr q) (hq : 67 ≤ q) (p1 : Int32) : EV none 0 0 0 mX2_enlist 0 (en_l mX2_enlist [pv_r 2, pv_i p1, pv_r q]) [] sh mi mr (fun v_ sh_ mi_ mr_ => v_ = none ∧ sh_ = sh ∧ mr_ = mr ∧ EL_c mi mi_ K q p1) := by
  show EV none 0 0 0 mX2_enlist 0 [some (pv_r 2), some (pv_i p1), some (pv_r q), none] [] sh mi mr _
  refine ev_aload_n dX2_enlist_0 rfl ?_
  refine ev_geti dX2_enlist_1 fl_X2_39 rfl (hB.1 2 _ rfl) ?_
  refine ev_bipush (v := 7) dX2_enlist_4 rfl ?_
  refine ev_icmp_lt_t (tgt := 10) dX2_enlist_6 rfl (by rw [hK]; exact nI_lt (b := 7) (by omega) (by decide)) ?_
  refine ev_aload_n dX2_enlist_10 rfl ?_
  refine ev_getq dX2_enlist_11 fl_X2_15 rfl (hB.1 2 _ rfl) (hB.2 2 1 _ rfl) ?_
  refine ev_aload_n dX2_enlist_14 rfl ?_
  refine ev_geti dX2_enlist_15 fl_X2_39 rfl (hB.1 2 _ rfl) ?_
  refine ev_iload_n dX2_enlist_18 rfl ?_
  refine ev_iast dX2_enlist_19 (hB.1 4 _ rfl) (j := K) hK (by omega) (by decide) ?_
  refine ev_iconst (v := 0) dX2_enlist_20 rfl ?_
  refine ev_istore_n dX2_enlist_21 (by decide) ?_
  have q1 := lp_X2_enlist hB K hK hK7 q hk hq p1 0 (by decide)
  rw [el_0] at q1
  exact q1
set_option maxRecDepth 100000 in
set_option maxHeartbeats 4000000 in
theorem t_X2_clear {sh : SH} {mi : MI} {mr : MR} (hB : ba_c sh mr) : EV none 0 0 0 mX2_clear 0 (en_l mX2_clear [pv_r 2]) [] sh mi mr (ok_n sh mr (up_2 mi 2 9 0)) := by
  show EV none 0 0 0 mX2_clear 0 [some (pv_r 2)] [] sh mi mr _
  refine ev_aload_n dX2_clear_0 rfl ?_
  refine ev_iconst (v := 0) dX2_clear_1 rfl ?_
  refine ev_puti dX2_clear_2 fl_X2_39 rfl rfl (hB.1 2 _ rfl) ?_
  exact ev_return dX2_clear_5 rfl ⟨rfl, rfl, rfl, rfl⟩
set_option maxRecDepth 100000 in
theorem bit_10 : ∀ j, j < 10 → ∀ u, u < 1024 → (((nI u >>> (nI j &&& 31)) &&& 1) = 1 ↔ u.testBit j = true) := by decide +kernel
set_option maxRecDepth 100000 in
theorem bc_10 : ∀ u, u < 1024 → bc (nI u) = nI (mb u 10).length ∧ mn (nI u) 16 = nI (mb u 10).length := by decide +kernel
theorem p2_10 : ∀ n, n ≤ 10 → 2 ^ n ≤ 1024 := by decide
theorem mb_up {u n : Nat} (h : u < 2 ^ n) : ∀ m, n ≤ m → mb u m = mb u n
  | 0, hm => by rw [show n = 0 by omega]
  | m + 1, hm => by
    by_cases e : n = m + 1
    · rw [e]
    · have ih := mb_up h m (by omega)
      rw [mb_no (by rw [Nat.testBit_lt_two_pow (Nat.lt_of_lt_of_le h (Nat.pow_le_pow_right (by decide) (by omega)))]; decide), ih]
set_option maxRecDepth 100000 in
theorem sh_10 : ∀ n, n ≤ 10 → ((Int32.toUInt32 (nI n) &&& Int32.toUInt32 31).toBitVec % 32).toNat = n ∧ ((nI n &&& 31).toBitVec.smod 32).toNat = n := by decide +kernel
theorem set_k {nb u : Nat} (hnb : nb ≤ 10) (hu : u < 2 ^ nb) : ((Int32.toUInt32 (nI u)) >>> (Int32.toUInt32 (nI nb) &&& Int32.toUInt32 31)).toInt32 = 0 := by
  have h1 := p2_10 nb hnb
  rw [pk_ushrN (by omega) (nI nb) nb (sh_10 nb hnb).1, Nat.div_eq_of_lt hu]
  rfl
theorem set_u {nb : Nat} {x : Int32} (hnb : nb ≤ 10) (hu : ¬ ∃ u, u < 2 ^ nb ∧ x = nI u) : ¬ ((Int32.toUInt32 x) >>> (Int32.toUInt32 (nI nb) &&& Int32.toUInt32 31)).toInt32 = 0 := by
  intro h
  have h1 := pk_ushr x (nI nb) nb (sh_10 nb hnb).1
  rw [h] at h1
  have h2 : (0 : Int32).toBitVec.toNat = 0 := by decide
  rw [h2] at h1
  have h3 := (Nat.div_eq_zero_iff).mp h1.symm
  have h4 := Nat.two_pow_pos nb
  refine hu ⟨x.toBitVec.toNat, by omega, ?_⟩
  apply Int32.toBitVec_inj.mp
  apply BitVec.eq_of_toNat_eq
  exact (pk_tn x.toBitVec.isLt).symm
theorem set_m {nb u : Nat} (hnb : nb ≤ 10) (hu : u < 2 ^ nb) : ¬ nI u < 0 ∧ nI u >>> (nI nb &&& 31) = 0 := by
  have h1 := p2_10 nb hnb
  refine ⟨nI_pos (by omega), ?_⟩
  rw [pk_shrN (by omega) _ nb (sh_10 nb hnb).2, Nat.div_eq_of_lt hu]
  rfl
theorem set_n {nb : Nat} {x : Int32} (hnb : nb ≤ 10) (h0 : ¬ x < 0) (hu : ¬ ∃ u, u < 2 ^ nb ∧ x = nI u) : ¬ x >>> (nI nb &&& 31) = 0 := by
  obtain ⟨j, hj, rfl⟩ := nI_of h0
  rw [pk_shrN hj _ nb (sh_10 nb hnb).2]
  have h4 := Nat.two_pow_pos nb
  intro h
  have h5 : j / 2 ^ nb < 2 ^ 31 := Nat.lt_of_le_of_lt (Nat.div_le_self _ _) hj
  have h6 := (nI_eq (b := 0) h5 (by decide)).mp h
  have h3 := (Nat.div_eq_zero_iff).mp h6
  exact hu ⟨j, by omega, rfl⟩
theorem mb_10 (u nb : Nat) : (mb u nb).length ≤ nb := by
  unfold mb
  have := List.length_filter_le (fun x => u.testBit x) (List.range nb)
  simpa using this
/-- the books of the class, as a plan reads them -/
def bp_c (sh : SH) (mi : MI) (mr : MR) (nb : Nat) (kb : Nat → Nat) (H : Nat → Nat → Nat) (Dr Pm Pc : Nat → Nat) : Prop := ∀ b, b < nb → (mr 1 b = some (kb b) ∧ bk_c sh mr (kb b) ∧ 67 ≤ kb b) ∧ (∀ k, k < 5 → mi (kb b + 5) k = nI (H b k)) ∧ mi (kb b) 8 = nI (Dr b) ∧ mi (kb b) 9 = nI (Pm b) ∧ mi (kb b) 10 = nI (Pc b)
def pe_c (mi m : MI) (l : List Nat) (H : Nat → Nat → Nat) (Dr Pm Pc : Nat → Nat) : Prop := (∀ a c, ¬ (a = 2 ∧ c = 9) → (a < 4 ∨ 8 < a) → m a c = mi a c) ∧ m 2 9 = nI l.length ∧ ∀ j, j < l.length → m 4 j = nI (l.getD j 0) ∧ (∀ k, k < 5 → m 5 (j * 5 + k) = nI (H (l.getD j 0) k)) ∧ m 6 j = nI (Dr (l.getD j 0)) ∧ m 7 j = nI (Pm (l.getD j 0)) ∧ m 8 j = nI (Pc (l.getD j 0))
theorem pe_s {mi m m2 : MI} {l : List Nat} {H : Nat → Nat → Nat} {Dr Pm Pc : Nat → Nat} {q x : Nat} (h : pe_c mi m l H Dr Pm Pc) (hE : EL_c m m2 l.length q (nI x)) (hq : 67 ≤ q) (h1 : ∀ k, k < 5 → mi (q + 5) k = nI (H x k)) (h2 : mi q 8 = nI (Dr x)) (h3 : mi q 9 = nI (Pm x)) (h4 : mi q 10 = nI (Pc x)) : pe_c mi m2 (l ++ [x]) H Dr Pm Pc := by
  refine ⟨fun a c g1 g2 => (hE.1 a c g1 g2).trans (h.1 a c g1 g2), by rw [hE.2.2.2.2.2.2.2.2]; simp, fun j hj => ?_⟩
  have hj2 : j < l.length + 1 := by simpa using hj
  by_cases e : j = l.length
  · subst e
    rw [gd_r]
    refine ⟨hE.2.2.2.1, fun k hk => ?_, ?_, ?_, ?_⟩
    · rw [hE.2.2.2.2.1 k hk, h.1 _ _ (by omega) (by omega), h1 k hk]
    · rw [hE.2.2.2.2.2.1, h.1 _ _ (by omega) (by omega), h2]
    · rw [hE.2.2.2.2.2.2.1, h.1 _ _ (by omega) (by omega), h3]
    · rw [hE.2.2.2.2.2.2.2.1, h.1 _ _ (by omega) (by omega), h4]
  · rw [gd_l (by omega)]
    have hh := h.2.2 j (by omega)
    have h5 := hE.2.1 j e
    refine ⟨h5.1.trans hh.1, fun k hk => (hE.2.2.1 _ (by omega)).trans (hh.2.1 k hk), h5.2.1.trans hh.2.2.1, h5.2.2.1.trans hh.2.2.2.1, h5.2.2.2.trans hh.2.2.2.2⟩
set_option maxRecDepth 100000 in
set_option maxHeartbeats 4000000 in
theorem lp_X5_plan {sh : SH} {mi : MI} {mr : MR} (hB : ba_c sh mr) (nb : Nat) (hnb : mi 0 5 = nI nb) (hnb10 : nb ≤ 10) (kb : Nat → Nat) (H : Nat → Nat → Nat) (Dr Pm Pc : Nat → Nat) (hbp : bp_c sh mi mr nb kb H Dr Pm Pc) (hbd : bd_o 10 H Dr Pm Pc) (h0 : ∀ k, k < 5 → mi 11 k = 0) (u : Nat) (hu : u < 2 ^ nb) (hu1 : 1 ≤ (mb u nb).length) (hu7 : (mb u nb).length ≤ 7) : ∀ i, i ≤ nb → ∀ m, pe_c mi m (mb u i) H Dr Pm Pc → EV none 11 0 0 mX5_plan 37 [some (pv_r 0), some (pv_i (nI u)), some (pv_i (nI i)), none] [] sh m mr (fun v_ sh_ mi_ mr_ => v_ = some (pv_i (nI (be_o (mb u nb).length (fun j => H ((mb u nb).getD j 0)) (fun j => Dr ((mb u nb).getD j 0)) (fun j => Pm ((mb u nb).getD j 0)) (fun j => Pc ((mb u nb).getD j 0))).1)) ∧ sh_ = sh ∧ mr_ = mr ∧ (∀ a c, (a < 2 ∨ 11 < a) → mi_ a c = mi a c) ∧ (∀ k, k < 5 → mi_ 11 k = 0) ∧ mi_ 2 9 = nI (mb u nb).length ∧ (∀ j, j < (mb u nb).length → mi_ 4 j = nI ((mb u nb).getD j 0) ∧ (∀ k, k < 5 → mi_ 5 (j * 5 + k) = nI (H ((mb u nb).getD j 0) k)) ∧ mi_ 6 j = nI (Dr ((mb u nb).getD j 0))) ∧ ∀ i, i < (mb u nb).length → mi_ 10 i = nI ((be_o (mb u nb).length (fun j => H ((mb u nb).getD j 0)) (fun j => Dr ((mb u nb).getD j 0)) (fun j => Pm ((mb u nb).getD j 0)) (fun j => Pc ((mb u nb).getD j 0))).2.2.getD i 0) ∧ mi_ 3 i = nI (cl_o (fun j => H ((mb u nb).getD j 0)) (fun j => Dr ((mb u nb).getD j 0)) ((be_o (mb u nb).length (fun j => H ((mb u nb).getD j 0)) (fun j => Dr ((mb u nb).getD j 0)) (fun j => Pm ((mb u nb).getD j 0)) (fun j => Pc ((mb u nb).getD j 0))).2.2.take (i + 1)) 4)) := by
  have hu10 : u < 1024 := Nat.lt_of_lt_of_le hu (p2_10 nb hnb10)
  have hbd2 : bd_o (mb u nb).length (fun j => H ((mb u nb).getD j 0)) (fun j => Dr ((mb u nb).getD j 0)) (fun j => Pm ((mb u nb).getD j 0)) (fun j => Pc ((mb u nb).getD j 0)) := fun j hj => hbd _ (Nat.lt_of_lt_of_le (mb_lt (u := u) (n := nb) (x := (mb u nb).getD j 0) (by rw [List.getD_eq_getElem?_getD, List.getElem?_eq_getElem hj]; exact List.getElem_mem _)).1 hnb10)
  refine lp_i nb (fun i hi ih => ?_)
  intro m hI
  refine ev_iload_n dX5_plan_37 rfl ?_
  refine ev_aload_n dX5_plan_38 rfl ?_
  refine ev_geti dX5_plan_39 fl_X5_42 rfl (hB.1 0 _ rfl) ?_
  refine ev_icmp_ge (tgt := 79) dX5_plan_42 rfl (fun h42 => ?_) (fun h42 => ?_)
  · have hin : i = nb := by have := (nl_le ((hI.1 0 5 (by omega) (by omega)).trans hnb) (b := i) rfl (by omega) (by omega)).mp h42; omega
    rw [hin] at hI
    refine ev_aload_n dX5_plan_79 rfl ?_
    refine ev_getq dX5_plan_80 fl_X5_18 rfl (hB.1 0 _ rfl) (hB.2 0 1 _ rfl) ?_
    refine ev_callv (av := []) dX5_plan_83 cv_X5_138 (hB.1 2 _ rfl) rfl rfl (Nat.le_of_ble_eq_true rfl) (by decide) (Or.inl (fun v_ s_ m_ r_ h_ => by rw [h_.2.1])) (Nat.zero_add _) (Nat.zero_add _) (t_X2_arrange (K := (mb u nb).length) (nd := (fun j => H ((mb u nb).getD j 0))) (dr := (fun j => Dr ((mb u nb).getD j 0))) (pm := (fun j => Pm ((mb u nb).getD j 0))) (pc := (fun j => Pc ((mb u nb).getD j 0))) hB hbd2 hu7 ⟨hI.2.1, fun j hj => (hI.2.2 j hj).2⟩ (fun k hk => (hI.1 11 k (by omega) (by omega)).trans (h0 k hk)) hu1) ?_
    rintro v_ sh_ m3 mr_ ⟨e1_, e2_, e3_, hA1, hA2⟩
    subst e1_
    have e2_ := e2_.symm
    subst e2_
    have e3_ := e3_.symm
    subst e3_
    exact ev_ireturn (ty := .int) dX5_plan_86 rfl rfl ⟨rfl, rfl, rfl, fun a c g => (hA1 a c (by omega) (by omega) (by omega) (by omega) (by omega)).trans (hI.1 a c (by omega) (by omega)), fun k hk => ((hA1 11 k (by omega) (by omega) (by omega) (by omega) (by omega)).trans (hI.1 11 k (by omega) (by omega))).trans (h0 k hk), (hA1 2 9 (by omega) (by omega) (by omega) (by omega) (by omega)).trans hI.2.1, fun j hj => ⟨(hA1 4 j (by omega) (by omega) (by omega) (by omega) (by omega)).trans (hI.2.2 j hj).1, fun k hk => (hA1 5 _ (by omega) (by omega) (by omega) (by omega) (by omega)).trans ((hI.2.2 j hj).2.1 k hk), (hA1 6 j (by omega) (by omega) (by omega) (by omega) (by omega)).trans (hI.2.2 j hj).2.2.1⟩, hA2⟩
  · have hlt : i < nb := by have := (not_congr (nl_le ((hI.1 0 5 (by omega) (by omega)).trans hnb) (b := i) rfl (by omega) (by omega))).mp h42; omega
    have hkb := (hbp i hlt).1.2.1
    refine ev_aload_n dX5_plan_45 rfl ?_
    refine ev_iload_n dX5_plan_46 rfl ?_
    refine ev_v1q dX5_plan_47 cv_X5_53 (hB.1 0 _ rfl) (Nat.le_of_ble_eq_true rfl) (by decide) (t_X5_bookAt_k hB nb ((hI.1 0 5 (by omega) (by omega)).trans hnb) hnb10 i hlt (hbp i hlt).1.1 hkb) ?_
    refine ev_astore_n dX5_plan_50 (by decide) ?_
    refine ev_aload_n dX5_plan_51 rfl ?_
    refine ev_ifnull_s (tgt := 73) dX5_plan_52 rfl ?_
    refine ev_iload_n dX5_plan_55 rfl ?_
    refine ev_iload_n dX5_plan_56 rfl ?_
    refine ev_ishr dX5_plan_57 ?_
    refine ev_iconst (v := 1) dX5_plan_58 rfl ?_
    refine ev_iand dX5_plan_59 ?_
    refine ev_iconst (v := 1) dX5_plan_60 rfl ?_
    refine ev_icmp_ne (tgt := 73) dX5_plan_61 rfl (fun h61 => ?_) (fun h61 => ?_)
    · refine ev_iincN dX5_plan_73 rfl (by decide) ?_
      refine ev_goto (tgt := 37) dX5_plan_76 rfl ?_
      rw [← mb_no (fun e => h61 ((bit_10 i (by omega) u hu10).mpr e))] at hI
      exact ev_fg 3 (ih hlt m hI)
    · have hbit := (bit_10 i (by omega) u hu10).mp h61
      refine ev_aload_n dX5_plan_64 rfl ?_
      refine ev_getq dX5_plan_65 fl_X5_18 rfl (hB.1 0 _ rfl) (hB.2 0 1 _ rfl) ?_
      refine ev_iload_n dX5_plan_68 rfl ?_
      refine ev_aload_n dX5_plan_69 rfl ?_
      refine ev_callv (av := [pv_i (nI i), pv_r (kb i)]) dX5_plan_70 cv_X5_134 (hB.1 2 _ rfl) rfl rfl (Nat.le_of_ble_eq_true rfl) (by decide) (Or.inl (fun v_ s_ m_ r_ h_ => by rw [h_.2.1])) (Nat.zero_add _) (Nat.zero_add _) (t_X2_enlist hB (mb u i).length hI.2.1 (by have := mb_le (u := u) (n := i + 1) (m := nb) (by omega); rw [mb_in hbit] at this; simp at this; omega) (kb i) hkb (hbp i hlt).1.2.2 (nI i)) ?_
      rintro v_ sh_ m2 mr_ ⟨e1_, e2_, e3_, hE⟩
      subst e1_
      have e2_ := e2_.symm
      subst e2_
      have e3_ := e3_.symm
      subst e3_
      refine ev_iincN dX5_plan_73 rfl (by decide) ?_
      refine ev_goto (tgt := 37) dX5_plan_76 rfl ?_
      have hI2 := pe_s hI hE (hbp i hlt).1.2.2 (hbp i hlt).2.1 (hbp i hlt).2.2.1 (hbp i hlt).2.2.2.1 (hbp i hlt).2.2.2.2
      rw [← mb_in hbit] at hI2
      exact ev_fg 3 (ih hlt m2 hI2)
set_option maxRecDepth 100000 in
set_option maxHeartbeats 4000000 in
theorem t_X5_plan_k {sh : SH} {mi : MI} {mr : MR} (hB : ba_c sh mr) (nb : Nat) (hnb : mi 0 5 = nI nb) (hnb10 : nb ≤ 10) (kb : Nat → Nat) (H : Nat → Nat → Nat) (Dr Pm Pc : Nat → Nat) (hbp : bp_c sh mi mr nb kb H Dr Pm Pc) (hbd : bd_o 10 H Dr Pm Pc) (h0 : ∀ k, k < 5 → mi 11 k = 0) (u : Nat) (hu : u < 2 ^ nb) (hu1 : 1 ≤ (mb u nb).length) (hu7 : (mb u nb).length ≤ 7) : EV none 11 0 0 mX5_plan 0 (en_l mX5_plan [pv_r 0, pv_i (nI u)]) [] sh mi mr (fun v_ sh_ mi_ mr_ => v_ = some (pv_i (nI (be_o (mb u nb).length (fun j => H ((mb u nb).getD j 0)) (fun j => Dr ((mb u nb).getD j 0)) (fun j => Pm ((mb u nb).getD j 0)) (fun j => Pc ((mb u nb).getD j 0))).1)) ∧ sh_ = sh ∧ mr_ = mr ∧ (∀ a c, (a < 2 ∨ 11 < a) → mi_ a c = mi a c) ∧ (∀ k, k < 5 → mi_ 11 k = 0) ∧ mi_ 2 9 = nI (mb u nb).length ∧ (∀ j, j < (mb u nb).length → mi_ 4 j = nI ((mb u nb).getD j 0) ∧ (∀ k, k < 5 → mi_ 5 (j * 5 + k) = nI (H ((mb u nb).getD j 0) k)) ∧ mi_ 6 j = nI (Dr ((mb u nb).getD j 0))) ∧ ∀ i, i < (mb u nb).length → mi_ 10 i = nI ((be_o (mb u nb).length (fun j => H ((mb u nb).getD j 0)) (fun j => Dr ((mb u nb).getD j 0)) (fun j => Pm ((mb u nb).getD j 0)) (fun j => Pc ((mb u nb).getD j 0))).2.2.getD i 0) ∧ mi_ 3 i = nI (cl_o (fun j => H ((mb u nb).getD j 0)) (fun j => Dr ((mb u nb).getD j 0)) ((be_o (mb u nb).length (fun j => H ((mb u nb).getD j 0)) (fun j => Dr ((mb u nb).getD j 0)) (fun j => Pm ((mb u nb).getD j 0)) (fun j => Pc ((mb u nb).getD j 0))).2.2.take (i + 1)) 4)) := by
  show EV none 11 0 0 mX5_plan 0 [some (pv_r 0), some (pv_i (nI u)), none, none] [] sh mi mr _
  refine ev_iload_n dX5_plan_0 rfl ?_
  refine ev_aload_n dX5_plan_1 rfl ?_
  refine ev_geti dX5_plan_2 fl_X5_42 rfl (hB.1 0 _ rfl) ?_
  refine ev_iushr dX5_plan_5 ?_
  refine ev_if_eq_t (tgt := 12) dX5_plan_6 rfl (by rw [hnb]; exact set_k hnb10 hu) ?_
  refine ev_iload_n dX5_plan_12 rfl ?_
  refine ev_s1i dX5_plan_13 cs_X5_126 (Nat.le_of_ble_eq_true rfl) (by decide) (t_J6_bitCount _) ?_
  refine ev_iconst (v := 1) dX5_plan_16 rfl ?_
  refine ev_bipush (v := 7) dX5_plan_17 rfl ?_
  refine ev_s3i dX5_plan_19 cs_X5_57 (Nat.le_of_ble_eq_true rfl) (by decide) (t_X5_within _ _ _) ?_
  refine ev_if_ne_t (tgt := 28) dX5_plan_22 rfl (by rw [bi_1 (by rw [(bc_10 u (Nat.lt_of_lt_of_le hu (p2_10 nb hnb10))).1, mb_up hu 10 hnb10]; exact i_lh (lo := 1) (hi := 7) hu1 hu7 (by decide))]; decide) ?_
  refine ev_aload_n dX5_plan_28 rfl ?_
  refine ev_getq dX5_plan_29 fl_X5_18 rfl (hB.1 0 _ rfl) (hB.2 0 1 _ rfl) ?_
  refine ev_v0n dX5_plan_32 cv_X5_131 (hB.1 2 _ rfl) (Nat.le_of_ble_eq_true rfl) (by decide) (t_X2_clear hB) ?_
  refine ev_iconst (v := 0) dX5_plan_35 rfl ?_
  refine ev_istore_n dX5_plan_36 (by decide) ?_
  exact lp_X5_plan hB nb hnb hnb10 kb H Dr Pm Pc hbp hbd h0 u hu hu1 hu7 0 (Nat.zero_le nb) _ ⟨fun a c g1 g2 => up_ne (by omega), up_at, fun j hj => by cases hj⟩
set_option maxRecDepth 100000 in
set_option maxHeartbeats 4000000 in
theorem t_X5_plan_u {sh : SH} {mi : MI} {mr : MR} (hB : ba_c sh mr) (nb : Nat) (hnb : mi 0 5 = nI nb) (hnb10 : nb ≤ 10) (p1 : Int32) (hu : ¬ ∃ u, u < 2 ^ nb ∧ p1 = nI u) : EV none 11 0 0 mX5_plan 0 (en_l mX5_plan [pv_r 0, pv_i p1]) [] sh mi mr (ok_r sh mr (-2) mi) := by
  show EV none 11 0 0 mX5_plan 0 [some (pv_r 0), some (pv_i p1), none, none] [] sh mi mr _
  refine ev_iload_n dX5_plan_0 rfl ?_
  refine ev_aload_n dX5_plan_1 rfl ?_
  refine ev_geti dX5_plan_2 fl_X5_42 rfl (hB.1 0 _ rfl) ?_
  refine ev_iushr dX5_plan_5 ?_
  refine ev_if_eq_f (tgt := 12) dX5_plan_6 rfl (by rw [hnb]; exact set_u hnb10 hu) ?_
  refine ev_bipush (v := (-2)) dX5_plan_9 rfl ?_
  exact ev_ireturn (ty := .int) dX5_plan_11 rfl rfl ⟨rfl, rfl, rfl, rfl⟩
set_option maxRecDepth 100000 in
set_option maxHeartbeats 4000000 in
theorem t_X5_plan_o {sh : SH} {mi : MI} {mr : MR} (hB : ba_c sh mr) (nb : Nat) (hnb : mi 0 5 = nI nb) (hnb10 : nb ≤ 10) (u : Nat) (hu : u < 2 ^ nb) (hu1 : ¬ (1 ≤ (mb u nb).length ∧ (mb u nb).length ≤ 7)) : EV none 11 0 0 mX5_plan 0 (en_l mX5_plan [pv_r 0, pv_i (nI u)]) [] sh mi mr (ok_r sh mr (-3) mi) := by
  show EV none 11 0 0 mX5_plan 0 [some (pv_r 0), some (pv_i (nI u)), none, none] [] sh mi mr _
  refine ev_iload_n dX5_plan_0 rfl ?_
  refine ev_aload_n dX5_plan_1 rfl ?_
  refine ev_geti dX5_plan_2 fl_X5_42 rfl (hB.1 0 _ rfl) ?_
  refine ev_iushr dX5_plan_5 ?_
  refine ev_if_eq_t (tgt := 12) dX5_plan_6 rfl (by rw [hnb]; exact set_k hnb10 hu) ?_
  refine ev_iload_n dX5_plan_12 rfl ?_
  refine ev_s1i dX5_plan_13 cs_X5_126 (Nat.le_of_ble_eq_true rfl) (by decide) (t_J6_bitCount _) ?_
  refine ev_iconst (v := 1) dX5_plan_16 rfl ?_
  refine ev_bipush (v := 7) dX5_plan_17 rfl ?_
  refine ev_s3i dX5_plan_19 cs_X5_57 (Nat.le_of_ble_eq_true rfl) (by decide) (t_X5_within _ _ _) ?_
  refine ev_if_ne_f (tgt := 28) dX5_plan_22 rfl (bi_f (by rw [(bc_10 u (Nat.lt_of_lt_of_le hu (p2_10 nb hnb10))).1, mb_up hu 10 hnb10]; exact fun e => hu1 ⟨(nI_leI (a := 1) (by decide) (by have := mb_10 u nb; omega)).mp e.1, (nI_leI (b := 7) (by have := mb_10 u nb; omega) (by decide)).mp e.2⟩)) ?_
  refine ev_bipush (v := (-3)) dX5_plan_25 rfl ?_
  exact ev_ireturn (ty := .int) dX5_plan_27 rfl rfl ⟨rfl, rfl, rfl, rfl⟩
