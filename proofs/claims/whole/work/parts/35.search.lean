def wk_m (mi : MI) (D : Nat) (f : Nat → Nat) (i : Nat) : MI := fun a b => if a = 11 ∧ (D + 1) * 5 ≤ b ∧ b < (D + 1) * 5 + i then nI (f (b - (D + 1) * 5)) else mi a b
theorem wk_0 {mi : MI} {D : Nat} {f : Nat → Nat} : wk_m mi D f 0 = mi := by
  funext a b
  simp only [wk_m]
  rw [if_neg (by omega)]
theorem wk_s {mi : MI} {D i : Nat} {f : Nat → Nat} : up_2 (wk_m mi D f i) 11 ((D + 1) * 5 + i) (nI (f i)) = wk_m mi D f (i + 1) := by
  funext a b
  simp only [wk_m, up_2]
  by_cases h1 : a = 11 ∧ b = (D + 1) * 5 + i
  · rw [if_pos h1, if_pos (by omega), show b - (D + 1) * 5 = i by omega]
  · rw [if_neg h1]
    by_cases h2 : a = 11 ∧ (D + 1) * 5 ≤ b ∧ b < (D + 1) * 5 + i
    · rw [if_pos h2, if_pos (by omega)]
    · rw [if_neg h2, if_neg (by omega)]
theorem wk_o {mi : MI} {D i a b : Nat} {f : Nat → Nat} (h : ¬ (a = 11 ∧ (D + 1) * 5 ≤ b)) : wk_m mi D f i a b = mi a b := by
  simp only [wk_m]
  rw [if_neg (by omega)]
theorem wk_i {mi : MI} {D i k : Nat} {f : Nat → Nat} (h : k < i) : wk_m mi D f i 11 ((D + 1) * 5 + k) = nI (f k) := by
  simp only [wk_m]
  rw [if_pos ⟨trivial, by omega, by omega⟩, show (D + 1) * 5 + k - (D + 1) * 5 = k by omega]
def kt_m (mi : MI) (x y : Int32) (i : Nat) : MI := fun a b => if a = 10 ∧ b < i then mi 9 b else if a = 2 ∧ b = 10 then x else if a = 2 ∧ b = 11 then y else mi a b
theorem kt_s {mi : MI} {x y : Int32} {i : Nat} : up_2 (kt_m mi x y i) 10 i (kt_m mi x y i 9 i) = kt_m mi x y (i + 1) := by
  funext a b
  have e : kt_m mi x y i 9 i = mi 9 i := by simp [kt_m]
  rw [e]
  simp only [kt_m, up_2]
  by_cases h1 : a = 10 ∧ b = i
  · rw [if_pos h1, if_pos (by omega), h1.2]
  · rw [if_neg h1]
    by_cases h2 : a = 10 ∧ b < i
    · rw [if_pos h2, if_pos (show a = 10 ∧ b < i + 1 by omega)]
    · rw [if_neg h2, if_neg (show ¬ (a = 10 ∧ b < i + 1) by omega)]
theorem kt_0 {mi : MI} {x y : Int32} : kt_m mi x y 0 = up_2 (up_2 mi 2 10 x) 2 11 y := by
  funext a b
  simp only [kt_m, up_2]
  rw [if_neg (show ¬ (a = 10 ∧ b < 0) by omega)]
  by_cases h1 : a = 2 ∧ b = 10
  · rw [if_pos h1, if_neg (show ¬ (a = 2 ∧ b = 11) by omega), if_pos h1]
  · rw [if_neg h1, if_neg h1]
set_option maxRecDepth 100000 in
set_option maxHeartbeats 4000000 in
theorem lp_X2_work {sh : SH} {mi : MI} {mr : MR} (hB : ba_c sh mr) (D j : Nat) (n c : Nat → Nat) (dr : Nat) (hD : D < 7) (hj : j < 7) (h1 : ∀ k, k < 5 → mi 5 (j * 5 + k) = nI (n k)) (h2 : mi 6 j = nI dr) (h3 : ∀ k, k < 5 → mi 11 (D * 5 + k) = nI (c k)) (b1 : ∀ k, k < 5 → n k ≤ 50) (b2 : dr ≤ 30) (b3 : ∀ k, k < 5 → c k ≤ 100000) : ∀ i, i ≤ 5 → EV none 1 0 0 mX2_work 5 [some (pv_r 2), some (pv_i (nI D)), some (pv_i (nI j)), some (pv_i (nI (lf n dr c i))), some (pv_i (nI i)), none] [] sh (wk_m mi D (ck n dr c) i) mr (ok_r sh mr (nI (lf n dr c 5)) (wk_m mi D (ck n dr c) 5)) := by
  refine lp_i 5 (fun i hi ih => ?_)
  refine ev_iload dX2_work_5 rfl ?_
  refine ev_iconst (v := 5) dX2_work_7 rfl ?_
  refine ev_icmp_ge (tgt := 78) dX2_work_8 rfl (fun h8 => ?_) (fun h8 => ?_)
  · have hin : i = 5 := by have := (nl_le n_5 rfl (by omega) (by omega)).mp h8; omega
    subst hin
    refine ev_iload_n dX2_work_78 rfl ?_
    exact ev_ireturn (ty := .int) dX2_work_79 rfl rfl ⟨rfl, rfl, rfl, rfl⟩
  · have hlt : i < 5 := by have := (not_congr (nl_le n_5 rfl (by omega) (by omega))).mp h8; omega
    refine ev_iload dX2_work_11 rfl ?_
    refine ev_iconst (v := 3) dX2_work_13 rfl ?_
    refine ev_icmp_ne (tgt := 26) dX2_work_14 rfl (fun h14 => ?_) (fun h14 => ?_)
    · refine ev_iload_n dX2_work_26 rfl ?_
      refine ev_aload_n dX2_work_27 rfl ?_
      refine ev_getq dX2_work_28 fl_X2_36 rfl (hB.1 2 _ rfl) (hB.2 2 8 _ rfl) ?_
      refine ev_iload_n dX2_work_31 rfl ?_
      refine ev_iconst (v := 5) dX2_work_32 rfl ?_
      refine ev_imul dX2_work_33 ?_
      refine ev_iload dX2_work_34 rfl ?_
      refine ev_iadd dX2_work_36 ?_
      refine ev_iald dX2_work_37 (hB.1 11 _ rfl) (j := (D * 5) + i) (by simp [up_2, pk_mul, nI_add, n_5, n_6, n_12, n_144]) (by omega) (by decide) ?_
      refine ev_max dX2_work_38 mx_X2_76 (by decide) (Nat.le_of_ble_eq_true rfl) ?_
      refine ev_istore dX2_work_41 (by decide) ?_
      refine ev_iload dX2_work_43 rfl ?_
      refine ev_aload_n dX2_work_45 rfl ?_
      refine ev_getq dX2_work_46 fl_X2_18 rfl (hB.1 2 _ rfl) (hB.2 2 2 _ rfl) ?_
      refine ev_iload_n dX2_work_49 rfl ?_
      refine ev_iconst (v := 5) dX2_work_50 rfl ?_
      refine ev_imul dX2_work_51 ?_
      refine ev_iload dX2_work_52 rfl ?_
      refine ev_iadd dX2_work_54 ?_
      refine ev_iald dX2_work_55 (hB.1 5 _ rfl) (j := (j * 5) + i) (by simp [up_2, pk_mul, nI_add, n_5, n_6, n_12, n_144]) (by omega) (by decide) ?_
      refine ev_iadd dX2_work_56 ?_
      refine ev_istore_n dX2_work_57 (by decide) ?_
      refine ev_aload_n dX2_work_58 rfl ?_
      refine ev_getq dX2_work_59 fl_X2_36 rfl (hB.1 2 _ rfl) (hB.2 2 8 _ rfl) ?_
      refine ev_iload_n dX2_work_62 rfl ?_
      refine ev_iconst (v := 1) dX2_work_63 rfl ?_
      refine ev_iadd dX2_work_64 ?_
      refine ev_iconst (v := 5) dX2_work_65 rfl ?_
      refine ev_imul dX2_work_66 ?_
      refine ev_iload dX2_work_67 rfl ?_
      refine ev_iadd dX2_work_69 ?_
      refine ev_iload_n dX2_work_70 rfl ?_
      refine ev_iast dX2_work_71 (hB.1 11 _ rfl) (j := (D + 1) * 5 + i) (by rw [nI_1, n_5, pk_mul, nI_add]) (by omega) (by decide) ?_
      refine ev_iincN dX2_work_72 rfl (by decide) ?_
      refine ev_goto (tgt := 5) dX2_work_75 rfl ?_
      have hb := lf_b b1 b2 b3 i (by omega)
      have hc := b3 i hlt
      have e3 : ¬ i = 3 := fun e => h14 (by rw [e]; rfl)
      have e : ((if (nI (lf n dr c i)) < ((wk_m mi D (ck n dr c) i) 11 ((D * 5) + i)) then ((wk_m mi D (ck n dr c) i) 11 ((D * 5) + i)) else (nI (lf n dr c i))) + ((wk_m mi D (ck n dr c) i) 5 ((j * 5) + i))) = nI (lf n dr c (i + 1)) := by
        rw [wk_o (by omega), wk_o (by omega), h3 i hlt, h1 i hlt, i_mx (by split at hb <;> omega) (by omega), nI_add]
        simp only [lf]
        rw [if_neg e3, Nat.add_zero]
      rw [e]
      have q := ih hlt
      rw [← wk_s] at q
      exact ev_fg 5 q
    · refine ev_iload_n dX2_work_17 rfl ?_
      refine ev_aload_n dX2_work_18 rfl ?_
      refine ev_getq dX2_work_19 fl_X2_21 rfl (hB.1 2 _ rfl) (hB.2 2 3 _ rfl) ?_
      refine ev_iload_n dX2_work_22 rfl ?_
      refine ev_iald dX2_work_23 (hB.1 6 _ rfl) (j := j) rfl (by omega) (by decide) ?_
      refine ev_iadd dX2_work_24 ?_
      refine ev_istore_n dX2_work_25 (by decide) ?_
      refine ev_iload_n dX2_work_26 rfl ?_
      refine ev_aload_n dX2_work_27 rfl ?_
      refine ev_getq dX2_work_28 fl_X2_36 rfl (hB.1 2 _ rfl) (hB.2 2 8 _ rfl) ?_
      refine ev_iload_n dX2_work_31 rfl ?_
      refine ev_iconst (v := 5) dX2_work_32 rfl ?_
      refine ev_imul dX2_work_33 ?_
      refine ev_iload dX2_work_34 rfl ?_
      refine ev_iadd dX2_work_36 ?_
      refine ev_iald dX2_work_37 (hB.1 11 _ rfl) (j := (D * 5) + i) (by simp [up_2, pk_mul, nI_add, n_5, n_6, n_12, n_144]) (by omega) (by decide) ?_
      refine ev_max dX2_work_38 mx_X2_76 (by decide) (Nat.le_of_ble_eq_true rfl) ?_
      refine ev_istore dX2_work_41 (by decide) ?_
      refine ev_iload dX2_work_43 rfl ?_
      refine ev_aload_n dX2_work_45 rfl ?_
      refine ev_getq dX2_work_46 fl_X2_18 rfl (hB.1 2 _ rfl) (hB.2 2 2 _ rfl) ?_
      refine ev_iload_n dX2_work_49 rfl ?_
      refine ev_iconst (v := 5) dX2_work_50 rfl ?_
      refine ev_imul dX2_work_51 ?_
      refine ev_iload dX2_work_52 rfl ?_
      refine ev_iadd dX2_work_54 ?_
      refine ev_iald dX2_work_55 (hB.1 5 _ rfl) (j := (j * 5) + i) (by simp [up_2, pk_mul, nI_add, n_5, n_6, n_12, n_144]) (by omega) (by decide) ?_
      refine ev_iadd dX2_work_56 ?_
      refine ev_istore_n dX2_work_57 (by decide) ?_
      refine ev_aload_n dX2_work_58 rfl ?_
      refine ev_getq dX2_work_59 fl_X2_36 rfl (hB.1 2 _ rfl) (hB.2 2 8 _ rfl) ?_
      refine ev_iload_n dX2_work_62 rfl ?_
      refine ev_iconst (v := 1) dX2_work_63 rfl ?_
      refine ev_iadd dX2_work_64 ?_
      refine ev_iconst (v := 5) dX2_work_65 rfl ?_
      refine ev_imul dX2_work_66 ?_
      refine ev_iload dX2_work_67 rfl ?_
      refine ev_iadd dX2_work_69 ?_
      refine ev_iload_n dX2_work_70 rfl ?_
      refine ev_iast dX2_work_71 (hB.1 11 _ rfl) (j := (D + 1) * 5 + i) (by rw [nI_1, n_5, pk_mul, nI_add]) (by omega) (by decide) ?_
      refine ev_iincN dX2_work_72 rfl (by decide) ?_
      refine ev_goto (tgt := 5) dX2_work_75 rfl ?_
      have hb := lf_b b1 b2 b3 i (by omega)
      have hc := b3 i hlt
      have e3 : i = 3 := by have := (nl_eq (x := nI i) rfl (y := 3) (b := 3) rfl (by omega) (by decide)).mp h14; omega
      have e : ((if ((nI (lf n dr c i)) + ((wk_m mi D (ck n dr c) i) 6 j)) < ((wk_m mi D (ck n dr c) i) 11 ((D * 5) + i)) then ((wk_m mi D (ck n dr c) i) 11 ((D * 5) + i)) else ((nI (lf n dr c i)) + ((wk_m mi D (ck n dr c) i) 6 j))) + ((wk_m mi D (ck n dr c) i) 5 ((j * 5) + i))) = nI (lf n dr c (i + 1)) := by
        rw [wk_o (by omega), wk_o (by omega), wk_o (by omega), h2, h3 i hlt, h1 i hlt, nI_add, i_mx (by split at hb <;> omega) (by omega), nI_add]
        simp only [lf]
        rw [if_pos e3]
      rw [e]
      have q := ih hlt
      rw [← wk_s] at q
      exact ev_fg 5 q
set_option maxRecDepth 100000 in
set_option maxHeartbeats 4000000 in
theorem t_X2_work {sh : SH} {mi : MI} {mr : MR} (hB : ba_c sh mr) (D j : Nat) (n c : Nat → Nat) (dr : Nat) (hD : D < 7) (hj : j < 7) (h1 : ∀ k, k < 5 → mi 5 (j * 5 + k) = nI (n k)) (h2 : mi 6 j = nI dr) (h3 : ∀ k, k < 5 → mi 11 (D * 5 + k) = nI (c k)) (b1 : ∀ k, k < 5 → n k ≤ 50) (b2 : dr ≤ 30) (b3 : ∀ k, k < 5 → c k ≤ 100000) : EV none 1 0 0 mX2_work 0 (en_l mX2_work [pv_r 2, pv_i (nI D), pv_i (nI j)]) [] sh mi mr (ok_r sh mr (nI (lf n dr c 5)) (wk_m mi D (ck n dr c) 5)) := by
  show EV none 1 0 0 mX2_work 0 [some (pv_r 2), some (pv_i (nI D)), some (pv_i (nI j)), none, none, none] [] sh mi mr _
  refine ev_iconst (v := 0) dX2_work_0 rfl ?_
  refine ev_istore_n dX2_work_1 (by decide) ?_
  refine ev_iconst (v := 0) dX2_work_2 rfl ?_
  refine ev_istore dX2_work_3 (by decide) ?_
  have q := lp_X2_work hB D j n c dr hD hj h1 h2 h3 b1 b2 b3 0 (by decide)
  rw [wk_0] at q
  exact q
set_option maxRecDepth 100000 in
set_option maxHeartbeats 4000000 in
theorem lp_X2_keepTrial {sh : SH} {mi : MI} {mr : MR} (hB : ba_c sh mr) (p1 p2 : Int32) (K : Nat) (hK : mi 2 9 = nI K) (hK7 : K ≤ 7) : ∀ i, i ≤ K → EV none 0 0 0 mX2_keepTrial 12 [some (pv_r 2), some (pv_i p1), some (pv_i p2), some (pv_i (nI i))] [] sh (kt_m mi p1 p2 i) mr (ok_n sh mr (kt_m mi p1 p2 K)) := by
  refine lp_i K (fun i hi ih => ?_)
  refine ev_iload_n dX2_keepTrial_12 rfl ?_
  refine ev_aload_n dX2_keepTrial_13 rfl ?_
  refine ev_geti dX2_keepTrial_14 fl_X2_39 rfl (hB.1 2 _ rfl) ?_
  refine ev_icmp_ge (tgt := 38) dX2_keepTrial_17 rfl (fun h17 => ?_) (fun h17 => ?_)
  · have hin : i = K := by have := (nl_le (show kt_m mi p1 p2 i 2 9 = nI K by simp [kt_m, hK]) rfl (by omega) (by omega)).mp h17; omega
    subst hin
    exact ev_return dX2_keepTrial_38 rfl ⟨rfl, rfl, rfl, rfl⟩
  · have hlt : i < K := by have := (not_congr (nl_le (show kt_m mi p1 p2 i 2 9 = nI K by simp [kt_m, hK]) rfl (by omega) (by omega))).mp h17; omega
    refine ev_aload_n dX2_keepTrial_20 rfl ?_
    refine ev_getq dX2_keepTrial_21 fl_X2_33 rfl (hB.1 2 _ rfl) (hB.2 2 7 _ rfl) ?_
    refine ev_iload_n dX2_keepTrial_24 rfl ?_
    refine ev_aload_n dX2_keepTrial_25 rfl ?_
    refine ev_getq dX2_keepTrial_26 fl_X2_30 rfl (hB.1 2 _ rfl) (hB.2 2 6 _ rfl) ?_
    refine ev_iload_n dX2_keepTrial_29 rfl ?_
    refine ev_iald dX2_keepTrial_30 (hB.1 9 _ rfl) (j := i) rfl (by omega) (by decide) ?_
    refine ev_iast dX2_keepTrial_31 (hB.1 10 _ rfl) (j := i) rfl (by omega) (by decide) ?_
    refine ev_iincN dX2_keepTrial_32 rfl (by decide) ?_
    refine ev_goto (tgt := 12) dX2_keepTrial_35 rfl ?_
    have q := ih hlt
    rw [← kt_s] at q
    exact q
set_option maxRecDepth 100000 in
set_option maxHeartbeats 4000000 in
theorem t_X2_keepTrial {sh : SH} {mi : MI} {mr : MR} (hB : ba_c sh mr) (p1 p2 : Int32) (K : Nat) (hK : mi 2 9 = nI K) (hK7 : K ≤ 7) : EV none 0 0 0 mX2_keepTrial 0 (en_l mX2_keepTrial [pv_r 2, pv_i p1, pv_i p2]) [] sh mi mr (ok_n sh mr (kt_m mi p1 p2 K)) := by
  show EV none 0 0 0 mX2_keepTrial 0 [some (pv_r 2), some (pv_i p1), some (pv_i p2), none] [] sh mi mr _
  refine ev_aload_n dX2_keepTrial_0 rfl ?_
  refine ev_iload_n dX2_keepTrial_1 rfl ?_
  refine ev_puti dX2_keepTrial_2 fl_X2_43 rfl rfl (hB.1 2 _ rfl) ?_
  refine ev_aload_n dX2_keepTrial_5 rfl ?_
  refine ev_iload_n dX2_keepTrial_6 rfl ?_
  refine ev_puti dX2_keepTrial_7 fl_X2_46 rfl rfl (hB.1 2 _ rfl) ?_
  refine ev_iconst (v := 0) dX2_keepTrial_10 rfl ?_
  refine ev_istore_n dX2_keepTrial_11 (by decide) ?_
  have q := lp_X2_keepTrial hB p1 p2 K hK hK7 0 (Nat.zero_le K)
  rw [kt_0] at q
  exact q
theorem gd_l {p q : List Nat} {a : Nat} (h : a < p.length) : (p ++ q).getD a 0 = p.getD a 0 := by
  simp only [List.getD, List.getElem?_append_left h]
theorem gd_r {p : List Nat} {x : Nat} : (p ++ [x]).getD p.length 0 = x := by
  simp
/-- the members of a plan; the record, the prefix under trial, its clocks; what a search leaves alone -/
def PM_c (mi : MI) (K : Nat) (nd : Nat → Nat → Nat) (dr pm pc : Nat → Nat) : Prop := mi 2 9 = nI K ∧ ∀ j, j < K → (∀ k, k < 5 → mi 5 (j * 5 + k) = nI (nd j k)) ∧ mi 6 j = nI (dr j) ∧ mi 7 j = nI (pm j) ∧ mi 8 j = nI (pc j)
def RC_c (K : Nat) (mi : MI) (r : Option (Nat × Nat × List Nat)) : Prop := mi 2 10 = nI (rc_c r) ∧ mi 2 11 = nI (rc_e r) ∧ ∀ b, r = some b → b.1 ≤ 2000000 ∧ b.2.1 ≤ 2000 ∧ b.2.2.length = K ∧ (∀ x ∈ b.2.2, x < K) ∧ ∀ i, i < K → mi 10 i = nI (b.2.2.getD i 0)
def tr_c (mi : MI) (p : List Nat) : Prop := ∀ i, i < p.length → mi 9 i = nI (p.getD i 0)
def cl_c (nd : Nat → Nat → Nat) (dr pm pc : Nat → Nat) (mi : MI) (p : List Nat) : Prop := ∀ k, k < 5 → mi 11 (p.length * 5 + k) = nI ((ev_o nd dr pm pc p).1 k)
def tk_c (t : Nat) (p : List Nat) : Prop := t < 128 ∧ ∀ j, j < 7 → (t.testBit j = true ↔ j ∈ p)
def FR_c (D : Nat) (mi m : MI) : Prop := ∀ a b, ¬ (a = 2 ∧ (b = 10 ∨ b = 11)) → a ≠ 10 → ¬ (a = 9 ∧ D ≤ b) → ¬ (a = 11 ∧ (D + 1) * 5 ≤ b) → m a b = mi a b
theorem FR_tr {D E : Nat} {mi m m2 : MI} (h : FR_c D mi m) (h2 : FR_c E m m2) (hE : D ≤ E) : FR_c D mi m2 := fun a b h1 h3 h4 h5 => (h2 a b h1 h3 (fun e => h4 ⟨e.1, by omega⟩) (fun e => h5 ⟨e.1, by omega⟩)).trans (h a b h1 h3 h4 h5)
theorem PM_fr {D K : Nat} {mi m : MI} {nd : Nat → Nat → Nat} {dr pm pc : Nat → Nat} (hF : FR_c D mi m) (h : PM_c mi K nd dr pm pc) : PM_c m K nd dr pm pc :=
  ⟨(hF 2 9 (by omega) (by omega) (by omega) (by omega)).trans h.1, fun j hj => ⟨fun k hk => (hF 5 _ (by omega) (by omega) (by omega) (by omega)).trans ((h.2 j hj).1 k hk), (hF 6 _ (by omega) (by omega) (by omega) (by omega)).trans (h.2 j hj).2.1, (hF 7 _ (by omega) (by omega) (by omega) (by omega)).trans (h.2 j hj).2.2.1, (hF 8 _ (by omega) (by omega) (by omega) (by omega)).trans (h.2 j hj).2.2.2⟩⟩
theorem tr_fr {D : Nat} {mi m : MI} {p : List Nat} (hF : FR_c D mi m) (hp : p.length ≤ D) (h : tr_c mi p) : tr_c m p := fun i hi => (hF 9 i (by omega) (by omega) (by omega) (by omega)).trans (h i hi)
theorem cl_fr {D : Nat} {mi m : MI} {p : List Nat} {nd : Nat → Nat → Nat} {dr pm pc : Nat → Nat} (hF : FR_c D mi m) (hp : p.length ≤ D) (h : cl_c nd dr pm pc mi p) : cl_c nd dr pm pc m p := fun k hk => (hF 11 _ (by omega) (by omega) (by omega) (by omega)).trans (h k hk)
theorem wk_fr {D i : Nat} {m : MI} {f : Nat → Nat} : FR_c D m (wk_m m D f i) := fun a b _ _ _ h4 => wk_o h4
theorem tk_s {t m : Nat} {p : List Nat} (h : tk_c t p) (hm : m < 7) : tk_c (t ||| 2 ^ m) (p ++ [m]) := by
  refine ⟨(bit_7 m hm t h.1).2.2, fun j hj => ?_⟩
  rw [bit_or, h.2 j hj]
  simp
def SE_c (sh : SH) (mr : MR) (K : Nat) (nd : Nat → Nat → Nat) (dr pm pc : Nat → Nat) (r : Nat) : Prop := ∀ (D : Nat) (p : List Nat) (t : Nat) (mi : MI) (rec : Option (Nat × Nat × List Nat)), D + r + 1 = K → p.length = D → (∀ x ∈ p, x < K) → tk_c t p → PM_c mi K nd dr pm pc → RC_c K mi rec → tr_c mi p → cl_c nd dr pm pc mi p → EV none (r + 3) 0 0 mX2_search 0 (en_l mX2_search [pv_r 2, pv_i (nI D), pv_i (nI t), pv_i (nI (ev_o nd dr pm pc p).2)]) [] sh mi mr (fun v_ sh_ mi_ mr_ => v_ = none ∧ sh_ = sh ∧ mr_ = mr ∧ FR_c D mi mi_ ∧ RC_c K mi_ ((fo_o K (r + 1) p).foldl (up_o nd dr pm pc) rec))
theorem ev_b2 {K : Nat} {nd : Nat → Nat → Nat} {dr pm pc : Nat → Nat} (hb : bd_o K nd dr pm pc) (l : List Nat) (hl : l.length ≤ 7) (h : ∀ j ∈ l, j < K) : (∀ k, k < 5 → (ev_o nd dr pm pc l).1 k ≤ 2000) ∧ (ev_o nd dr pm pc l).2 ≤ 2000000 := by
  obtain ⟨h1, h2⟩ := ev_b hb l.length l rfl h
  refine ⟨fun k hk => by have := h1 k hk; omega, Nat.le_trans h2 ?_⟩
  have : 28000 * l.length * l.length ≤ 28000 * 7 * 7 := Nat.mul_le_mul (by omega) hl
  omega
set_option maxRecDepth 100000 in
set_option maxHeartbeats 4000000 in
theorem lp_X2_search {sh : SH} {mi : MI} {mr : MR} {K : Nat} {nd : Nat → Nat → Nat} {dr pm pc : Nat → Nat} (hB : ba_c sh mr) (hb : bd_o K nd dr pm pc) (hK7 : K ≤ 7) (r : Nat) (hS : ∀ r2, r = r2 + 1 → SE_c sh mr K nd dr pm pc r2) (D : Nat) (p : List Nat) (t : Nat) (hDK : D + r + 1 = K) (hp : p.length = D) (hpK : ∀ x ∈ p, x < K) (hk : tk_c t p) (hPM : PM_c mi K nd dr pm pc) (htm0 : tr_c mi p) (hcm : cl_c nd dr pm pc mi p) : ∀ i, i ≤ K → ∀ m r1, FR_c D mi m → RC_c K m r1 → EV none (r + 3) 0 0 mX2_search 12 [some (pv_r 2), some (pv_i (nI D)), some (pv_i (nI t)), some (pv_i (nI (ev_o nd dr pm pc p).2)), some (pv_i (nI i)), none, none] [] sh m mr (fun v_ sh_ mi_ mr_ => v_ = none ∧ sh_ = sh ∧ mr_ = mr ∧ FR_c D mi mi_ ∧ RC_c K mi_ (((rm_o K p i).flatMap (fun x => fo_o K r (p ++ [x]))).foldl (up_o nd dr pm pc) r1)) := by
  have hEp := ev_b2 hb p (by omega) hpK
  refine lp_i K (fun i hi ih => ?_)
  intro m r1 hF hR
  have hK1 : m 2 9 = nI K := (PM_fr hF hPM).1
  have htm := tr_fr hF (by omega) htm0
  have hC1 : ∀ k, k < 5 → m 11 (D * 5 + k) = nI ((ev_o nd dr pm pc p).1 k) := fun k hk2 => by have := cl_fr hF (by omega) hcm k hk2; rw [hp] at this; exact this
  have hrb : rc_c r1 ≤ 1000000000 ∧ rc_e r1 ≤ 1000000000 := by
    cases r1 with
    | none => exact ⟨Nat.le_refl _, Nat.le_refl _⟩
    | some b => have := hR.2.2 b rfl; exact ⟨by show b.1 ≤ _; omega, by show b.2.1 ≤ _; omega⟩
  have hRw : RC_c K (wk_m m D (ck (nd i) (dr i) (ev_o nd dr pm pc p).1) 5) r1 := ⟨(wk_o (by omega)).trans hR.1, (wk_o (by omega)).trans hR.2.1, fun b hb2 => ⟨(hR.2.2 b hb2).1, (hR.2.2 b hb2).2.1, (hR.2.2 b hb2).2.2.1, (hR.2.2 b hb2).2.2.2.1, fun a ha => (wk_o (by omega)).trans ((hR.2.2 b hb2).2.2.2.2 a ha)⟩⟩
  refine ev_iload dX2_search_12 rfl ?_
  refine ev_aload_n dX2_search_14 rfl ?_
  refine ev_geti dX2_search_15 fl_X2_39 rfl (hB.1 2 _ rfl) ?_
  refine ev_icmp_ge (tgt := 149) dX2_search_18 rfl (fun h18 => ?_) (fun h18 => ?_)
  · have hin : i = K := by have := (nl_le hK1 (b := i) rfl (by omega) (by omega)).mp h18; omega
    subst hin
    exact ev_return dX2_search_149 rfl ⟨rfl, rfl, rfl, hF, by rw [rm_K]; exact hR⟩
  · have hlt : i < K := by have := (not_congr (nl_le hK1 (b := i) rfl (by omega) (by omega))).mp h18; omega
    have hPi := (PM_fr hF hPM).2 i hlt
    have hbi := hb i hlt
    have hmem : ∀ x ∈ p ++ [i], x < K := fun x hx => by
      rcases List.mem_append.mp hx with e | e
      · exact hpK x e
      · rw [List.mem_singleton.mp e]; exact hlt
    have hEq := ev_b2 hb (p ++ [i]) (by simp; omega) hmem
    have hEq4 := hEq.1 4 (by decide)
    have hEq2 := hEq.2
    refine ev_iload_n dX2_search_21 rfl ?_
    refine ev_iload dX2_search_22 rfl ?_
    refine ev_ishr dX2_search_24 ?_
    refine ev_iconst (v := 1) dX2_search_25 rfl ?_
    refine ev_iand dX2_search_26 ?_
    refine ev_iconst (v := 1) dX2_search_27 rfl ?_
    refine ev_icmp_ne (tgt := 34) dX2_search_28 rfl (fun h28 => ?_) (fun h28 => ?_)
    · refine ev_aload_n dX2_search_34 rfl ?_
      refine ev_iload_n dX2_search_35 rfl ?_
      refine ev_iload dX2_search_36 rfl ?_
      refine ev_v2i dX2_search_38 cv_X2_64 (hB.1 2 _ rfl) (Nat.le_of_ble_eq_true rfl) (by omega) (t_X2_work hB D i (nd i) (ev_o nd dr pm pc p).1 (dr i) (by omega) (by omega) (hPi.1) hPi.2.1 hC1 hbi.1 hbi.2.1 (fun k hk => Nat.le_trans (hEp.1 k hk) (by decide))) ?_
      refine ev_istore dX2_search_41 (by decide) ?_
      refine ev_iload_n dX2_search_43 rfl ?_
      refine ev_aload_n dX2_search_44 rfl ?_
      refine ev_getq dX2_search_45 fl_X2_27 rfl (hB.1 2 _ rfl) (hB.2 2 5 _ rfl) ?_
      refine ev_iload dX2_search_48 rfl ?_
      refine ev_iald dX2_search_50 (hB.1 8 _ rfl) (j := i) rfl (by omega) (by decide) ?_
      refine ev_iconst (v := 0) dX2_search_51 rfl ?_
      refine ev_iload dX2_search_52 rfl ?_
      refine ev_aload_n dX2_search_54 rfl ?_
      refine ev_getq dX2_search_55 fl_X2_24 rfl (hB.1 2 _ rfl) (hB.2 2 4 _ rfl) ?_
      refine ev_iload dX2_search_58 rfl ?_
      refine ev_iald dX2_search_60 (hB.1 7 _ rfl) (j := i) rfl (by omega) (by decide) ?_
      refine ev_isub dX2_search_61 ?_
      refine ev_max dX2_search_62 mx_X2_76 (by omega) (Nat.le_of_ble_eq_true rfl) ?_
      refine ev_imul dX2_search_65 ?_
      refine ev_iadd dX2_search_66 ?_
      refine ev_istore dX2_search_67 (by decide) ?_
      have e6 : ((nI (ev_o nd dr pm pc p).2) + (((wk_m m D (ck (nd i) (dr i) (ev_o nd dr pm pc p).1) 5) 8 i) * (if 0 < ((nI (lf (nd i) (dr i) (ev_o nd dr pm pc p).1 5)) - ((wk_m m D (ck (nd i) (dr i) (ev_o nd dr pm pc p).1) 5) 7 i)) then ((nI (lf (nd i) (dr i) (ev_o nd dr pm pc p).1 5)) - ((wk_m m D (ck (nd i) (dr i) (ev_o nd dr pm pc p).1) 5) 7 i)) else 0))) = (nI (ev_o nd dr pm pc (p ++ [i])).2) := by
        rw [wk_o (by omega), wk_o (by omega), hPi.2.2.1, hPi.2.2.2, i_ms (by have := hEq.1 4 (by decide); rw [ev_snoc] at this; exact Nat.lt_of_le_of_lt this (by decide)) (by omega), pk_mul, nI_add, ev_snoc]
        rfl
      rw [e6]
      have e5 : (nI (lf (nd i) (dr i) (ev_o nd dr pm pc p).1 5)) = (nI ((ev_o nd dr pm pc (p ++ [i])).1 4)) := by rw [ev_snoc]; rfl
      rw [e5]
      have h10 : wk_m m D (ck (nd i) (dr i) (ev_o nd dr pm pc p).1) 5 2 10 = nI (rc_c r1) := (wk_o (by omega)).trans hR.1
      have h11 : wk_m m D (ck (nd i) (dr i) (ev_o nd dr pm pc p).1) 5 2 11 = nI (rc_e r1) := (wk_o (by omega)).trans hR.2.1
      refine ev_iload dX2_search_69 rfl ?_
      refine ev_aload_n dX2_search_71 rfl ?_
      refine ev_geti dX2_search_72 fl_X2_43 rfl (hB.1 2 _ rfl) ?_
      refine ev_icmp_gt (tgt := 143) dX2_search_75 rfl (fun h75 => ?_) (fun h75 => ?_)
      · refine ev_iincN dX2_search_143 rfl (by decide) ?_
        refine ev_goto (tgt := 12) dX2_search_146 rfl ?_
        have hni : i ∉ p := fun e => h28 ((bit_7 i (by omega) t hk.1).1.mpr ((hk.2 i (by omega)).mpr e))
        rw [rm_in hlt hni, List.flatMap_cons, List.foldl_append]
        rw [cut_o (by unfold bt_o; rw [h10] at h75; have := (nl_lt (x := nI (rc_c r1)) rfl (b := (ev_o nd dr pm pc (p ++ [i])).2) rfl (by omega) (by omega)).mp h75; omega)]
        exact ev_fg 5 (ev_fg 6 (ih hlt _ r1 (FR_tr hF wk_fr (Nat.le_refl D)) hRw))
      · refine ev_iload dX2_search_78 rfl ?_
        refine ev_aload_n dX2_search_80 rfl ?_
        refine ev_geti dX2_search_81 fl_X2_43 rfl (hB.1 2 _ rfl) ?_
        refine ev_icmp_ne (tgt := 99) dX2_search_84 rfl (fun h84 => ?_) (fun h84 => ?_)
        · refine ev_aload_n dX2_search_99 rfl ?_
          refine ev_getq dX2_search_100 fl_X2_30 rfl (hB.1 2 _ rfl) (hB.2 2 6 _ rfl) ?_
          refine ev_iload_n dX2_search_103 rfl ?_
          refine ev_iload dX2_search_104 rfl ?_
          refine ev_iast dX2_search_106 (hB.1 9 _ rfl) (j := D) rfl (by omega) (by decide) ?_
          refine ev_iload_n dX2_search_107 rfl ?_
          refine ev_iconst (v := 1) dX2_search_108 rfl ?_
          refine ev_iadd dX2_search_109 ?_
          refine ev_aload_n dX2_search_110 rfl ?_
          refine ev_geti dX2_search_111 fl_X2_39 rfl (hB.1 2 _ rfl) ?_
          have hbt : bt_o nd dr pm pc r1 (p ++ [i]) := by
            unfold bt_o
            rw [h10] at h75 h84
            have e1 := (not_congr (nl_lt (x := nI (rc_c r1)) rfl (b := (ev_o nd dr pm pc (p ++ [i])).2) rfl (by omega) (by omega))).mp h75
            have e2 := (not_congr (nI_eq (by omega) (by omega))).mp h84
            omega
          have hFt : FR_c D mi (up_2 (wk_m m D (ck (nd i) (dr i) (ev_o nd dr pm pc p).1) 5) 9 D (nI i)) := fun a b g1 g2 g3 g4 => (up_ne (by omega)).trans ((wk_o g4).trans (hF a b g1 g2 g3 g4))
          have hl9 : (p ++ [i]).length = D + 1 := by simp [hp]
          refine ev_icmp_ne (tgt := 128) dX2_search_114 rfl (fun h114 => ?_) (fun h114 => ?_)
          · have hr1 : ∃ r2, r = r2 + 1 := ⟨r - 1, by
              have h115 : ¬ D + 1 = K := fun e => h114 (by rw [nI_1, up_ne (Or.inl (by decide)), wk_o (by omega), hK1, e])
              omega⟩
            obtain ⟨r2, hr2⟩ := hr1
            subst hr2
            have htr : tr_c (up_2 (wk_m m D (ck (nd i) (dr i) (ev_o nd dr pm pc p).1) 5) 9 D (nI i)) (p ++ [i]) := fun a ha => by
              rw [hl9] at ha
              by_cases e : a = D
              · subst e; rw [up_at, ← hp, gd_r]
              · rw [up_ne (Or.inr e), wk_o (by omega), htm a (by omega), gd_l (by omega)]
            have hcl : cl_c nd dr pm pc (up_2 (wk_m m D (ck (nd i) (dr i) (ev_o nd dr pm pc p).1) 5) 9 D (nI i)) (p ++ [i]) := fun k hk2 => by
              rw [hl9, up_ne (Or.inl (by decide)), wk_i hk2, ev_snoc]
              rfl
            have hPMt : PM_c (up_2 (wk_m m D (ck (nd i) (dr i) (ev_o nd dr pm pc p).1) 5) 9 D (nI i)) K nd dr pm pc := PM_fr hFt hPM
            have hRt : RC_c K (up_2 (wk_m m D (ck (nd i) (dr i) (ev_o nd dr pm pc p).1) 5) 9 D (nI i)) r1 := ⟨(up_ne (Or.inl (by decide))).trans h10, (up_ne (Or.inl (by decide))).trans h11, fun b hb2 => ⟨(hR.2.2 b hb2).1, (hR.2.2 b hb2).2.1, (hR.2.2 b hb2).2.2.1, (hR.2.2 b hb2).2.2.2.1, fun a ha => ((up_ne (Or.inl (by decide))).trans (wk_o (by omega))).trans ((hR.2.2 b hb2).2.2.2.2 a ha)⟩⟩
            refine ev_aload_n dX2_search_128 rfl ?_
            refine ev_iload_n dX2_search_129 rfl ?_
            refine ev_iconst (v := 1) dX2_search_130 rfl ?_
            refine ev_iadd dX2_search_131 ?_
            refine ev_iload_n dX2_search_132 rfl ?_
            refine ev_iconst (v := 1) dX2_search_133 rfl ?_
            refine ev_iload dX2_search_134 rfl ?_
            refine ev_ishl dX2_search_136 ?_
            refine ev_ior dX2_search_137 ?_
            refine ev_iload dX2_search_138 rfl ?_
            rw [(bit_7 i (by omega) t hk.1).2.1, nI_1]
            refine ev_callv (av := [pv_i (nI (D + 1)), pv_i (nI (t ||| 2 ^ i)), pv_i (nI (ev_o nd dr pm pc (p ++ [i])).2)]) dX2_search_140 cv_X2_60 (hB.1 2 _ rfl) rfl rfl (Nat.le_of_ble_eq_true rfl) (by omega) (Or.inl (fun v_ s_ m_ r_ h_ => by rw [h_.2.1])) (Nat.zero_add _) (Nat.zero_add _) (hS r2 rfl (D + 1) (p ++ [i]) (t ||| 2 ^ i) (up_2 (wk_m m D (ck (nd i) (dr i) (ev_o nd dr pm pc p).1) 5) 9 D (nI i)) r1 (by omega) hl9 hmem (tk_s hk (by omega)) hPMt hRt htr hcl) ?_
            rintro v_ sh_ m9 mr_ ⟨e1_, e2_, e3_, hF9, hR9⟩
            subst e1_
            have e2_ := e2_.symm
            subst e2_
            have e3_ := e3_.symm
            subst e3_
            refine ev_iincN dX2_search_143 rfl (by decide) ?_
            refine ev_goto (tgt := 12) dX2_search_146 rfl ?_
            have hni : i ∉ p := fun e => h28 ((bit_7 i (by omega) t hk.1).1.mpr ((hk.2 i (by omega)).mpr e))
            rw [rm_in hlt hni, List.flatMap_cons, List.foldl_append]
            exact ev_fg 5 (ev_fg 6 (ih hlt m9 _ (FR_tr hFt hF9 (by omega)) hR9))
          · have hr0 : r = 0 := by rw [nI_1, up_ne (Or.inl (by decide)), wk_o (by omega), hK1] at h114; have := (nI_eq (by omega) (by omega)).mp h114; omega
            subst hr0
            have hfo : List.foldl (up_o nd dr pm pc) r1 (fo_o K 0 (p ++ [i])) = some ((ev_o nd dr pm pc (p ++ [i])).2, (ev_o nd dr pm pc (p ++ [i])).1 4, p ++ [i]) := if_pos hbt
            have htr : tr_c (up_2 (wk_m m D (ck (nd i) (dr i) (ev_o nd dr pm pc p).1) 5) 9 D (nI i)) (p ++ [i]) := fun a ha => by
              rw [hl9] at ha
              by_cases e : a = D
              · subst e; rw [up_at, ← hp, gd_r]
              · rw [up_ne (Or.inr e), wk_o (by omega), htm a (by omega), gd_l (by omega)]
            have hFk : FR_c D mi (kt_m (up_2 (wk_m m D (ck (nd i) (dr i) (ev_o nd dr pm pc p).1) 5) 9 D (nI i)) (nI (ev_o nd dr pm pc (p ++ [i])).2) (nI ((ev_o nd dr pm pc (p ++ [i])).1 4)) K) := fun a b g1 g2 g3 g4 => by
              rw [← hFt a b g1 g2 g3 g4]
              simp only [kt_m]
              rw [if_neg (by omega), if_neg (by omega), if_neg (by omega)]
            have hRk : RC_c K (kt_m (up_2 (wk_m m D (ck (nd i) (dr i) (ev_o nd dr pm pc p).1) 5) 9 D (nI i)) (nI (ev_o nd dr pm pc (p ++ [i])).2) (nI ((ev_o nd dr pm pc (p ++ [i])).1 4)) K) (some ((ev_o nd dr pm pc (p ++ [i])).2, (ev_o nd dr pm pc (p ++ [i])).1 4, p ++ [i])) := ⟨by simp [kt_m, rc_c], by simp [kt_m, rc_e], fun b hb2 => by
              cases hb2
              exact ⟨hEq.2, hEq.1 4 (by decide), hl9.trans (by omega), hmem, fun a ha => by
                rw [← htr a (by omega)]
                simp only [kt_m]
                rw [if_pos ⟨trivial, ha⟩]⟩⟩
            refine ev_aload_n dX2_search_117 rfl ?_
            refine ev_iload dX2_search_118 rfl ?_
            refine ev_iload dX2_search_120 rfl ?_
            refine ev_v2n dX2_search_122 cv_X2_81 (hB.1 2 _ rfl) (Nat.le_of_ble_eq_true rfl) (by omega) (t_X2_keepTrial hB _ _ K ((up_ne (Or.inl (by decide))).trans ((wk_o (by omega)).trans hK1)) hK7) ?_
            refine ev_goto (tgt := 143) dX2_search_125 rfl ?_
            refine ev_iincN dX2_search_143 rfl (by decide) ?_
            refine ev_goto (tgt := 12) dX2_search_146 rfl ?_
            have hni : i ∉ p := fun e => h28 ((bit_7 i (by omega) t hk.1).1.mpr ((hk.2 i (by omega)).mpr e))
            rw [rm_in hlt hni, List.flatMap_cons, List.foldl_append]
            rw [hfo]
            exact ev_fg 5 (ev_fg 6 (ih hlt _ _ hFk hRk))
        · refine ev_iload dX2_search_87 rfl ?_
          refine ev_aload_n dX2_search_89 rfl ?_
          refine ev_geti dX2_search_90 fl_X2_46 rfl (hB.1 2 _ rfl) ?_
          refine ev_icmp_lt (tgt := 99) dX2_search_93 rfl (fun h93 => ?_) (fun h93 => ?_)
          · refine ev_aload_n dX2_search_99 rfl ?_
            refine ev_getq dX2_search_100 fl_X2_30 rfl (hB.1 2 _ rfl) (hB.2 2 6 _ rfl) ?_
            refine ev_iload_n dX2_search_103 rfl ?_
            refine ev_iload dX2_search_104 rfl ?_
            refine ev_iast dX2_search_106 (hB.1 9 _ rfl) (j := D) rfl (by omega) (by decide) ?_
            refine ev_iload_n dX2_search_107 rfl ?_
            refine ev_iconst (v := 1) dX2_search_108 rfl ?_
            refine ev_iadd dX2_search_109 ?_
            refine ev_aload_n dX2_search_110 rfl ?_
            refine ev_geti dX2_search_111 fl_X2_39 rfl (hB.1 2 _ rfl) ?_
            have hbt : bt_o nd dr pm pc r1 (p ++ [i]) := by
              unfold bt_o
              rw [h10] at h84
              rw [h11] at h93
              have e1 := (nI_eq (by omega) (by omega)).mp h84
              have e2 := (nI_ltI (by omega) (by omega)).mp h93
              omega
            have hFt : FR_c D mi (up_2 (wk_m m D (ck (nd i) (dr i) (ev_o nd dr pm pc p).1) 5) 9 D (nI i)) := fun a b g1 g2 g3 g4 => (up_ne (by omega)).trans ((wk_o g4).trans (hF a b g1 g2 g3 g4))
            have hl9 : (p ++ [i]).length = D + 1 := by simp [hp]
            refine ev_icmp_ne (tgt := 128) dX2_search_114 rfl (fun h114 => ?_) (fun h114 => ?_)
            · have hr1 : ∃ r2, r = r2 + 1 := ⟨r - 1, by
                have h115 : ¬ D + 1 = K := fun e => h114 (by rw [nI_1, up_ne (Or.inl (by decide)), wk_o (by omega), hK1, e])
                omega⟩
              obtain ⟨r2, hr2⟩ := hr1
              subst hr2
              have htr : tr_c (up_2 (wk_m m D (ck (nd i) (dr i) (ev_o nd dr pm pc p).1) 5) 9 D (nI i)) (p ++ [i]) := fun a ha => by
                rw [hl9] at ha
                by_cases e : a = D
                · subst e; rw [up_at, ← hp, gd_r]
                · rw [up_ne (Or.inr e), wk_o (by omega), htm a (by omega), gd_l (by omega)]
              have hcl : cl_c nd dr pm pc (up_2 (wk_m m D (ck (nd i) (dr i) (ev_o nd dr pm pc p).1) 5) 9 D (nI i)) (p ++ [i]) := fun k hk2 => by
                rw [hl9, up_ne (Or.inl (by decide)), wk_i hk2, ev_snoc]
                rfl
              have hPMt : PM_c (up_2 (wk_m m D (ck (nd i) (dr i) (ev_o nd dr pm pc p).1) 5) 9 D (nI i)) K nd dr pm pc := PM_fr hFt hPM
              have hRt : RC_c K (up_2 (wk_m m D (ck (nd i) (dr i) (ev_o nd dr pm pc p).1) 5) 9 D (nI i)) r1 := ⟨(up_ne (Or.inl (by decide))).trans h10, (up_ne (Or.inl (by decide))).trans h11, fun b hb2 => ⟨(hR.2.2 b hb2).1, (hR.2.2 b hb2).2.1, (hR.2.2 b hb2).2.2.1, (hR.2.2 b hb2).2.2.2.1, fun a ha => ((up_ne (Or.inl (by decide))).trans (wk_o (by omega))).trans ((hR.2.2 b hb2).2.2.2.2 a ha)⟩⟩
              refine ev_aload_n dX2_search_128 rfl ?_
              refine ev_iload_n dX2_search_129 rfl ?_
              refine ev_iconst (v := 1) dX2_search_130 rfl ?_
              refine ev_iadd dX2_search_131 ?_
              refine ev_iload_n dX2_search_132 rfl ?_
              refine ev_iconst (v := 1) dX2_search_133 rfl ?_
              refine ev_iload dX2_search_134 rfl ?_
              refine ev_ishl dX2_search_136 ?_
              refine ev_ior dX2_search_137 ?_
              refine ev_iload dX2_search_138 rfl ?_
              rw [(bit_7 i (by omega) t hk.1).2.1, nI_1]
              refine ev_callv (av := [pv_i (nI (D + 1)), pv_i (nI (t ||| 2 ^ i)), pv_i (nI (ev_o nd dr pm pc (p ++ [i])).2)]) dX2_search_140 cv_X2_60 (hB.1 2 _ rfl) rfl rfl (Nat.le_of_ble_eq_true rfl) (by omega) (Or.inl (fun v_ s_ m_ r_ h_ => by rw [h_.2.1])) (Nat.zero_add _) (Nat.zero_add _) (hS r2 rfl (D + 1) (p ++ [i]) (t ||| 2 ^ i) (up_2 (wk_m m D (ck (nd i) (dr i) (ev_o nd dr pm pc p).1) 5) 9 D (nI i)) r1 (by omega) hl9 hmem (tk_s hk (by omega)) hPMt hRt htr hcl) ?_
              rintro v_ sh_ m9 mr_ ⟨e1_, e2_, e3_, hF9, hR9⟩
              subst e1_
              have e2_ := e2_.symm
              subst e2_
              have e3_ := e3_.symm
              subst e3_
              refine ev_iincN dX2_search_143 rfl (by decide) ?_
              refine ev_goto (tgt := 12) dX2_search_146 rfl ?_
              have hni : i ∉ p := fun e => h28 ((bit_7 i (by omega) t hk.1).1.mpr ((hk.2 i (by omega)).mpr e))
              rw [rm_in hlt hni, List.flatMap_cons, List.foldl_append]
              exact ev_fg 5 (ev_fg 6 (ih hlt m9 _ (FR_tr hFt hF9 (by omega)) hR9))
            · have hr0 : r = 0 := by rw [nI_1, up_ne (Or.inl (by decide)), wk_o (by omega), hK1] at h114; have := (nI_eq (by omega) (by omega)).mp h114; omega
              subst hr0
              have hfo : List.foldl (up_o nd dr pm pc) r1 (fo_o K 0 (p ++ [i])) = some ((ev_o nd dr pm pc (p ++ [i])).2, (ev_o nd dr pm pc (p ++ [i])).1 4, p ++ [i]) := if_pos hbt
              have htr : tr_c (up_2 (wk_m m D (ck (nd i) (dr i) (ev_o nd dr pm pc p).1) 5) 9 D (nI i)) (p ++ [i]) := fun a ha => by
                rw [hl9] at ha
                by_cases e : a = D
                · subst e; rw [up_at, ← hp, gd_r]
                · rw [up_ne (Or.inr e), wk_o (by omega), htm a (by omega), gd_l (by omega)]
              have hFk : FR_c D mi (kt_m (up_2 (wk_m m D (ck (nd i) (dr i) (ev_o nd dr pm pc p).1) 5) 9 D (nI i)) (nI (ev_o nd dr pm pc (p ++ [i])).2) (nI ((ev_o nd dr pm pc (p ++ [i])).1 4)) K) := fun a b g1 g2 g3 g4 => by
                rw [← hFt a b g1 g2 g3 g4]
                simp only [kt_m]
                rw [if_neg (by omega), if_neg (by omega), if_neg (by omega)]
              have hRk : RC_c K (kt_m (up_2 (wk_m m D (ck (nd i) (dr i) (ev_o nd dr pm pc p).1) 5) 9 D (nI i)) (nI (ev_o nd dr pm pc (p ++ [i])).2) (nI ((ev_o nd dr pm pc (p ++ [i])).1 4)) K) (some ((ev_o nd dr pm pc (p ++ [i])).2, (ev_o nd dr pm pc (p ++ [i])).1 4, p ++ [i])) := ⟨by simp [kt_m, rc_c], by simp [kt_m, rc_e], fun b hb2 => by
                cases hb2
                exact ⟨hEq.2, hEq.1 4 (by decide), hl9.trans (by omega), hmem, fun a ha => by
                  rw [← htr a (by omega)]
                  simp only [kt_m]
                  rw [if_pos ⟨trivial, ha⟩]⟩⟩
              refine ev_aload_n dX2_search_117 rfl ?_
              refine ev_iload dX2_search_118 rfl ?_
              refine ev_iload dX2_search_120 rfl ?_
              refine ev_v2n dX2_search_122 cv_X2_81 (hB.1 2 _ rfl) (Nat.le_of_ble_eq_true rfl) (by omega) (t_X2_keepTrial hB _ _ K ((up_ne (Or.inl (by decide))).trans ((wk_o (by omega)).trans hK1)) hK7) ?_
              refine ev_goto (tgt := 143) dX2_search_125 rfl ?_
              refine ev_iincN dX2_search_143 rfl (by decide) ?_
              refine ev_goto (tgt := 12) dX2_search_146 rfl ?_
              have hni : i ∉ p := fun e => h28 ((bit_7 i (by omega) t hk.1).1.mpr ((hk.2 i (by omega)).mpr e))
              rw [rm_in hlt hni, List.flatMap_cons, List.foldl_append]
              rw [hfo]
              exact ev_fg 5 (ev_fg 6 (ih hlt _ _ hFk hRk))
          · refine ev_goto (tgt := 143) dX2_search_96 rfl ?_
            refine ev_iincN dX2_search_143 rfl (by decide) ?_
            refine ev_goto (tgt := 12) dX2_search_146 rfl ?_
            have hni : i ∉ p := fun e => h28 ((bit_7 i (by omega) t hk.1).1.mpr ((hk.2 i (by omega)).mpr e))
            rw [rm_in hlt hni, List.flatMap_cons, List.foldl_append]
            rw [cut_o (by unfold bt_o; rw [h10] at h84; rw [h11] at h93; have e1 := (nI_eq (by omega) (by omega)).mp h84; have e2 := (not_congr (nI_ltI (by omega) (by omega))).mp h93; omega)]
            exact ev_fg 5 (ev_fg 6 (ih hlt _ r1 (FR_tr hF wk_fr (Nat.le_refl D)) hRw))
    · refine ev_goto (tgt := 143) dX2_search_31 rfl ?_
      refine ev_iincN dX2_search_143 rfl (by decide) ?_
      refine ev_goto (tgt := 12) dX2_search_146 rfl ?_
      have q := ih hlt m r1 hF hR
      rw [← rm_no hlt ((hk.2 i (by omega)).mp ((bit_7 i (by omega) t hk.1).1.mp h28))] at q
      exact q
set_option maxRecDepth 100000 in
set_option maxHeartbeats 4000000 in
theorem se_one {sh : SH} {mr : MR} {K : Nat} {nd : Nat → Nat → Nat} {dr pm pc : Nat → Nat} (hB : ba_c sh mr) (hb : bd_o K nd dr pm pc) (hK7 : K ≤ 7) (r : Nat) (hS : ∀ r2, r = r2 + 1 → SE_c sh mr K nd dr pm pc r2) : SE_c sh mr K nd dr pm pc r := by
  intro D p t mi rec hDK hp hpK hk hPM hR htm0 hcm
  show EV none (r + 3) 0 0 mX2_search 0 [some (pv_r 2), some (pv_i (nI D)), some (pv_i (nI t)), some (pv_i (nI (ev_o nd dr pm pc p).2)), none, none, none] [] sh mi mr _
  refine ev_iload_n dX2_search_0 rfl ?_
  refine ev_aload_n dX2_search_1 rfl ?_
  refine ev_geti dX2_search_2 fl_X2_39 rfl (hB.1 2 _ rfl) ?_
  refine ev_icmp_lt_t (tgt := 9) dX2_search_5 rfl (by rw [hPM.1]; exact nI_lt (by omega) (by omega)) ?_
  refine ev_iconst (v := 0) dX2_search_9 rfl ?_
  refine ev_istore dX2_search_10 (by decide) ?_
  exact lp_X2_search hB hb hK7 r hS D p t hDK hp hpK hk hPM htm0 hcm 0 (Nat.zero_le K) mi rec (fun _ _ _ _ _ _ => rfl) hR
theorem se_all {sh : SH} {mr : MR} {K : Nat} {nd : Nat → Nat → Nat} {dr pm pc : Nat → Nat} (hB : ba_c sh mr) (hb : bd_o K nd dr pm pc) (hK7 : K ≤ 7) : ∀ r, SE_c sh mr K nd dr pm pc r
  | 0 => se_one hB hb hK7 0 (fun r2 h => by omega)
  | r + 1 => se_one hB hb hK7 (r + 1) (fun r2 h => by obtain rfl : r = r2 := by omega
                                                      exact se_all hB hb hK7 r)
