/-- a skin's places as a grid: free rectangles, a rectangle filled -/
def fr_g (g : Nat → Nat → Int32) (x y w h : Nat) : Prop := ∀ i j, x ≤ i → i < x + w → y ≤ j → j < y + h → g i j = 0
def ft_g (W H : Nat) (g : Nat → Nat → Int32) (x y w h : Nat) : Prop := x + w ≤ W ∧ y + h ≤ H ∧ fr_g g x y w h
def fi_g (g : Nat → Nat → Int32) (x y w h : Nat) (v : Int32) : Nat → Nat → Int32 := fun i j => if x ≤ i ∧ i < x + w ∧ y ≤ j ∧ j < y + h then v else g i j
/-- of the filling, what is done at row r and column c -/
def pf_g (g : Nat → Nat → Int32) (x y w : Nat) (v : Int32) (r c : Nat) : Nat → Nat → Int32 := fun i j => if (x ≤ i ∧ i < x + w ∧ y ≤ j ∧ j < r) ∨ (j = r ∧ x ≤ i ∧ i < c) then v else g i j
/-- the grid g stands in cell kc by the places f; outside it nothing differs from mi -/
def gd_c (kc : Nat) (f : Nat → Nat → Nat) (W H : Nat) (g : Nat → Nat → Int32) (mi m : MI) : Prop := ag_1 kc mi m ∧ (∀ x y, x < W → y < H → m kc (f x y) = g x y) ∧ ∀ c, (∀ a b, a < W → b < H → c ≠ f a b) → m kc c = mi kc c
theorem gd_up {kc : Nat} {f : Nat → Nat → Nat} {W H : Nat} {g g2 : Nat → Nat → Int32} {mi m : MI} {i j : Nat} {v : Int32} (hf : ∀ a b, a < W → b < H → f a b = f i j → a = i ∧ b = j) (h : gd_c kc f W H g mi m) (hi : i < W) (hj : j < H) (h2 : ∀ a b, a < W → b < H → g2 a b = if a = i ∧ b = j then v else g a b) : gd_c kc f W H g2 mi (up_2 m kc (f i j) v) := by
  refine ⟨ag_up h.1, fun x y hx hy => ?_, fun c hc => ?_⟩
  · rw [h2 x y hx hy]
    by_cases e : x = i ∧ y = j
    · rw [if_pos e, e.1, e.2, up_at]
    · rw [if_neg e, up_ne (Or.inr (fun q => e (hf x y hx hy q)))]
      exact h.2.1 x y hx hy
  · rw [up_ne (Or.inr (hc i j hi hj))]
    exact h.2.2 c hc
theorem gd_eq {kc : Nat} {f : Nat → Nat → Nat} {W H : Nat} {g g2 : Nat → Nat → Int32} {mi m : MI} (h : gd_c kc f W H g mi m) (h2 : ∀ a b, a < W → b < H → g2 a b = g a b) : gd_c kc f W H g2 mi m := ⟨h.1, fun x y hx hy => (h.2.1 x y hx hy).trans (h2 x y hx hy).symm, h.2.2⟩
theorem ix_lt {W H i j : Nat} (hi : i < W) (hj : j < H) : j * W + i < W * H := by
  have h1 : (j + 1) * W ≤ H * W := Nat.mul_le_mul_right W hj
  rw [Nat.mul_comm W H]
  rw [Nat.succ_mul] at h1
  omega
theorem ix_in {W a b i j : Nat} (ha : a < W) (hi : i < W) (h : b * W + a = j * W + i) : a = i ∧ b = j := by
  have hb : b = j := by
    rcases Nat.lt_trichotomy b j with q | q | q
    · have h1 : (b + 1) * W ≤ j * W := Nat.mul_le_mul_right W q
      rw [Nat.succ_mul] at h1
      omega
    · exact q
    · have h1 : (j + 1) * W ≤ b * W := Nat.mul_le_mul_right W q
      rw [Nat.succ_mul] at h1
      omega
  subst hb
  exact ⟨by omega, rfl⟩
theorem WH_b {W H : Nat} (hW : W ≤ 12) (hH : H ≤ 12) : W * H < 2 ^ 31 := Nat.lt_of_le_of_lt (Nat.mul_le_mul hW hH) (by decide)
set_option maxRecDepth 100000 in
set_option maxHeartbeats 4000000 in
theorem t_X3_hasPlace {sh : SH} {mi : MI} {mr : MR} {q W H : Nat} (hk : sk_c sh mr q (W * H)) (p1 p2 : Int32) : EV none 1 0 0 mX3_hasPlace 0 (en_l mX3_hasPlace [pv_r q, pv_i p1, pv_i p2]) [] sh mi mr (ok_r sh mr (bi ((0 ≤ p1 ∧ p1 ≤ (mi q 1) - 1) ∧ 0 ≤ p2 ∧ p2 ≤ (mi q 2) - 1)) mi) := by
  show EV none 1 0 0 mX3_hasPlace 0 [some (pv_r q), some (pv_i p1), some (pv_i p2)] [] sh mi mr _
  refine ev_iload_n dX3_hasPlace_0 rfl ?_
  refine ev_iconst (v := 0) dX3_hasPlace_1 rfl ?_
  refine ev_aload_n dX3_hasPlace_2 rfl ?_
  refine ev_geti dX3_hasPlace_3 fl_X3_18 rfl hk.1 ?_
  refine ev_iconst (v := 1) dX3_hasPlace_6 rfl ?_
  refine ev_isub dX3_hasPlace_7 ?_
  refine ev_t3i dX3_hasPlace_8 cn_X3_31 (Nat.le_of_ble_eq_true rfl) (by decide) (t_X5_within _ _ _) ?_
  refine ev_ifb_eq (tgt := 32) dX3_hasPlace_11 rfl (fun h11 => ?_) (fun h11 => ?_)
  · refine ev_iconst (v := 0) dX3_hasPlace_32 rfl ?_
    exact ev_ireturn (ty := .boolean) dX3_hasPlace_33 rfl rfl ⟨congrArg (fun z => some (pv_i z)) (bi_f (fun q => h11 q.1)).symm, rfl, rfl, rfl⟩
  · refine ev_iload_n dX3_hasPlace_14 rfl ?_
    refine ev_iconst (v := 0) dX3_hasPlace_15 rfl ?_
    refine ev_aload_n dX3_hasPlace_16 rfl ?_
    refine ev_geti dX3_hasPlace_17 fl_X3_21 rfl hk.1 ?_
    refine ev_iconst (v := 1) dX3_hasPlace_20 rfl ?_
    refine ev_isub dX3_hasPlace_21 ?_
    refine ev_t3i dX3_hasPlace_22 cn_X3_31 (Nat.le_of_ble_eq_true rfl) (by decide) (t_X5_within _ _ _) ?_
    refine ev_ifb_eq (tgt := 32) dX3_hasPlace_25 rfl (fun h25 => ?_) (fun h25 => ?_)
    · refine ev_iconst (v := 0) dX3_hasPlace_32 rfl ?_
      exact ev_ireturn (ty := .boolean) dX3_hasPlace_33 rfl rfl ⟨congrArg (fun z => some (pv_i z)) (bi_f (fun q => h25 q.2)).symm, rfl, rfl, rfl⟩
    · refine ev_iconst (v := 1) dX3_hasPlace_28 rfl ?_
      refine ev_goto (tgt := 33) dX3_hasPlace_29 rfl ?_
      exact ev_ireturn (ty := .boolean) dX3_hasPlace_33 rfl rfl ⟨congrArg (fun z => some (pv_i z)) (bi_1 ⟨h11, h25⟩).symm, rfl, rfl, rfl⟩
set_option maxRecDepth 100000 in
set_option maxHeartbeats 4000000 in
theorem t_X3_stateOf {sh : SH} {mi : MI} {mr : MR} {q W H : Nat} (hk : sk_c sh mr q (W * H)) (hW : mi q 1 = nI W) (hH : mi q 2 = nI H) (hW12 : W ≤ 12) (hH12 : H ≤ 12) (x y : Nat) (hx : x < W) (hy : y < H) : EV none 0 0 0 mX3_stateOf 0 (en_l mX3_stateOf [pv_r q, pv_i (nI x), pv_i (nI y)]) [] sh mi mr (ok_r sh mr (mi (q + 1) (y * W + x)) mi) := by
  show EV none 0 0 0 mX3_stateOf 0 [some (pv_r q), some (pv_i (nI x)), some (pv_i (nI y))] [] sh mi mr _
  refine ev_aload_n dX3_stateOf_0 rfl ?_
  refine ev_getq dX3_stateOf_1 fl_X3_27 rfl hk.1 hk.2.1 ?_
  refine ev_iload_n dX3_stateOf_4 rfl ?_
  refine ev_aload_n dX3_stateOf_5 rfl ?_
  refine ev_geti dX3_stateOf_6 fl_X3_18 rfl hk.1 ?_
  refine ev_imul dX3_stateOf_9 ?_
  refine ev_iload_n dX3_stateOf_10 rfl ?_
  refine ev_iadd dX3_stateOf_11 ?_
  refine ev_iald dX3_stateOf_12 hk.2.2 (j := y * W + x) (by rw [hW, pk_mul, nI_add]) (ix_lt (by omega) (by omega)) (WH_b hW12 hH12) ?_
  exact ev_ireturn (ty := .int) dX3_stateOf_13 rfl rfl ⟨rfl, rfl, rfl, rfl⟩
set_option maxRecDepth 100000 in
set_option maxHeartbeats 4000000 in
theorem lp_X3_isFree2 {sh : SH} {mi : MI} {mr : MR} {q W H : Nat} (hk : sk_c sh mr q (W * H)) (hW : mi q 1 = nI W) (hH : mi q 2 = nI H) (hW12 : W ≤ 12) (hH12 : H ≤ 12) (g : Nat → Nat → Int32) (hg : ∀ x y, x < W → y < H → mi (q + 1) (y * W + x) = g x y) (x y w h : Nat) (hx : x < 12) (hy : y < 12) (hw : w ≤ 12) (hh : h ≤ 12) (hxw : x + w ≤ W) (hyh : y + h ≤ H) (r : Nat) (hr1 : y ≤ r) (hr : r < y + h) (hc : (∀ a, x ≤ a → a < x + w → g a r = 0) → EV none 0 0 0 mX3_isFree 72 [some (pv_r q), some (pv_i (nI x)), some (pv_i (nI y)), some (pv_i (nI w)), some (pv_i (nI h)), some (pv_i (nI r)), none] [] sh mi mr (fun v_ sh_ mi_ mr_ => (ft_g W H g x y w h ∧ (ok_r sh mr 1 mi) v_ sh_ mi_ mr_) ∨ (¬ ft_g W H g x y w h ∧ (ok_r sh mr 0 mi) v_ sh_ mi_ mr_))) : ∀ i, i ≤ x + w → x ≤ i → (∀ a, x ≤ a → a < i → g a r = 0) → EV none 0 0 0 mX3_isFree 38 [some (pv_r q), some (pv_i (nI x)), some (pv_i (nI y)), some (pv_i (nI w)), some (pv_i (nI h)), some (pv_i (nI r)), some (pv_i (nI i))] [] sh mi mr (fun v_ sh_ mi_ mr_ => (ft_g W H g x y w h ∧ (ok_r sh mr 1 mi) v_ sh_ mi_ mr_) ∨ (¬ ft_g W H g x y w h ∧ (ok_r sh mr 0 mi) v_ sh_ mi_ mr_)) := by
  refine lp_i (x + w) (fun i hi ih => ?_)
  intro hxi hz
  refine ev_iload dX3_isFree_38 rfl ?_
  refine ev_iload_n dX3_isFree_40 rfl ?_
  refine ev_iload_n dX3_isFree_41 rfl ?_
  refine ev_iadd dX3_isFree_42 ?_
  refine ev_icmp_ge (tgt := 72) dX3_isFree_43 rfl (fun h43 => ?_) (fun h43 => ?_)
  · have hin : x + w ≤ i := (nl_le (nI_add x w) (b := i) rfl (by omega) (by omega)).mp h43
    exact ev_fg 6 (hc (fun a h1 h2 => hz a h1 (by omega)))
  · have hlt : i < x + w := by have := (not_congr (nl_le (nI_add x w) (b := i) rfl (by omega) (by omega))).mp h43; omega
    refine ev_aload_n dX3_isFree_46 rfl ?_
    refine ev_getq dX3_isFree_47 fl_X3_27 rfl hk.1 hk.2.1 ?_
    refine ev_iload dX3_isFree_50 rfl ?_
    refine ev_aload_n dX3_isFree_52 rfl ?_
    refine ev_geti dX3_isFree_53 fl_X3_18 rfl hk.1 ?_
    refine ev_imul dX3_isFree_56 ?_
    refine ev_iload dX3_isFree_57 rfl ?_
    refine ev_iadd dX3_isFree_59 ?_
    refine ev_iald dX3_isFree_60 hk.2.2 (j := r * W + i) (by rw [hW, pk_mul, nI_add]) (ix_lt (by omega) (by omega)) (WH_b hW12 hH12) ?_
    refine ev_if_eq (tgt := 66) dX3_isFree_61 rfl (fun h61 => ?_) (fun h61 => ?_)
    · refine ev_iincN dX3_isFree_66 rfl (by decide) ?_
      refine ev_goto (tgt := 38) dX3_isFree_69 rfl ?_
      exact ih hlt (by omega) (fun a h1 h2 => by
        by_cases e : a = i
        · subst e; rw [← hg a r (by omega) (by omega)]; exact h61
        · exact hz a h1 (by omega))
    · refine ev_iconst (v := 0) dX3_isFree_64 rfl ?_
      exact ev_ireturn (ty := .boolean) dX3_isFree_65 rfl rfl (Or.inr ⟨fun q => h61 (by rw [hg i r (by omega) (by omega)]; exact q.2.2 i r hxi (by omega) hr1 (by omega)), rfl, rfl, rfl, rfl⟩)
set_option maxRecDepth 100000 in
set_option maxHeartbeats 4000000 in
theorem lp_X3_isFree1 {sh : SH} {mi : MI} {mr : MR} {q W H : Nat} (hk : sk_c sh mr q (W * H)) (hW : mi q 1 = nI W) (hH : mi q 2 = nI H) (hW12 : W ≤ 12) (hH12 : H ≤ 12) (g : Nat → Nat → Int32) (hg : ∀ x y, x < W → y < H → mi (q + 1) (y * W + x) = g x y) (x y w h : Nat) (hx : x < 12) (hy : y < 12) (hw : w ≤ 12) (hh : h ≤ 12) (hxw : x + w ≤ W) (hyh : y + h ≤ H) : ∀ r, r ≤ y + h → y ≤ r → (∀ a c, x ≤ a → a < x + w → y ≤ c → c < r → g a c = 0) → EV none 0 0 0 mX3_isFree 26 [some (pv_r q), some (pv_i (nI x)), some (pv_i (nI y)), some (pv_i (nI w)), some (pv_i (nI h)), some (pv_i (nI r)), none] [] sh mi mr (fun v_ sh_ mi_ mr_ => (ft_g W H g x y w h ∧ (ok_r sh mr 1 mi) v_ sh_ mi_ mr_) ∨ (¬ ft_g W H g x y w h ∧ (ok_r sh mr 0 mi) v_ sh_ mi_ mr_)) := by
  refine lp_i (y + h) (fun r hr ih => ?_)
  intro hr1 hz
  refine ev_iload dX3_isFree_26 rfl ?_
  refine ev_iload_n dX3_isFree_28 rfl ?_
  refine ev_iload dX3_isFree_29 rfl ?_
  refine ev_iadd dX3_isFree_31 ?_
  refine ev_icmp_ge (tgt := 78) dX3_isFree_32 rfl (fun h32 => ?_) (fun h32 => ?_)
  · have hin : y + h ≤ r := (nl_le (nI_add y h) (b := r) rfl (by omega) (by omega)).mp h32
    refine ev_iconst (v := 1) dX3_isFree_78 rfl ?_
    exact ev_ireturn (ty := .boolean) dX3_isFree_79 rfl rfl (Or.inl ⟨⟨hxw, hyh, fun i j h1 h2 h3 h4 => hz i j h1 h2 h3 (by omega)⟩, rfl, rfl, rfl, rfl⟩)
  · have hlt : r < y + h := by have := (not_congr (nl_le (nI_add y h) (b := r) rfl (by omega) (by omega))).mp h32; omega
    refine ev_iload_n dX3_isFree_35 rfl ?_
    refine ev_istore dX3_isFree_36 (by decide) ?_
    refine lp_X3_isFree2 hk hW hH hW12 hH12 g hg x y w h hx hy hw hh hxw hyh r hr1 (by omega) (fun hz2 => ?_) x (by omega) (Nat.le_refl x) (fun a h1 h2 => by omega)
    refine ev_iincN dX3_isFree_72 rfl (by decide) ?_
    refine ev_goto (tgt := 26) dX3_isFree_75 rfl ?_
    exact ih (by omega) (by omega) (fun a c h1 h2 h3 h4 => by
      by_cases e : c = r
      · subst e; exact hz2 a h1 h2
      · exact hz a c h1 h2 h3 (by omega))
set_option maxRecDepth 100000 in
set_option maxHeartbeats 4000000 in
theorem t_X3_isFree {sh : SH} {mi : MI} {mr : MR} {q W H : Nat} (hk : sk_c sh mr q (W * H)) (hW : mi q 1 = nI W) (hH : mi q 2 = nI H) (hW12 : W ≤ 12) (hH12 : H ≤ 12) (g : Nat → Nat → Int32) (hg : ∀ x y, x < W → y < H → mi (q + 1) (y * W + x) = g x y) (x y w h : Nat) (hx : x < 12) (hy : y < 12) (hw : w ≤ 12) (hh : h ≤ 12) : EV none 0 0 0 mX3_isFree 0 (en_l mX3_isFree [pv_r q, pv_i (nI x), pv_i (nI y), pv_i (nI w), pv_i (nI h)]) [] sh mi mr (fun v_ sh_ mi_ mr_ => (ft_g W H g x y w h ∧ (ok_r sh mr 1 mi) v_ sh_ mi_ mr_) ∨ (¬ ft_g W H g x y w h ∧ (ok_r sh mr 0 mi) v_ sh_ mi_ mr_)) := by
  show EV none 0 0 0 mX3_isFree 0 [some (pv_r q), some (pv_i (nI x)), some (pv_i (nI y)), some (pv_i (nI w)), some (pv_i (nI h)), none, none] [] sh mi mr _
  refine ev_iload_n dX3_isFree_0 rfl ?_
  refine ev_iload_n dX3_isFree_1 rfl ?_
  refine ev_iadd dX3_isFree_2 ?_
  refine ev_aload_n dX3_isFree_3 rfl ?_
  refine ev_geti dX3_isFree_4 fl_X3_18 rfl hk.1 ?_
  refine ev_icmp_gt (tgt := 21) dX3_isFree_7 rfl (fun h7 => ?_) (fun h7 => ?_)
  · refine ev_iconst (v := 0) dX3_isFree_21 rfl ?_
    exact ev_ireturn (ty := .boolean) dX3_isFree_22 rfl rfl (Or.inr ⟨fun q => absurd ((nl_lt hW (nI_add x w) (by omega) (by omega)).mp h7) (by have := q.1; omega), rfl, rfl, rfl, rfl⟩)
  · refine ev_iload_n dX3_isFree_10 rfl ?_
    refine ev_iload dX3_isFree_11 rfl ?_
    refine ev_iadd dX3_isFree_13 ?_
    refine ev_aload_n dX3_isFree_14 rfl ?_
    refine ev_geti dX3_isFree_15 fl_X3_21 rfl hk.1 ?_
    refine ev_icmp_le (tgt := 23) dX3_isFree_18 rfl (fun h18 => ?_) (fun h18 => ?_)
    · refine ev_iload_n dX3_isFree_23 rfl ?_
      refine ev_istore dX3_isFree_24 (by decide) ?_
      exact lp_X3_isFree1 hk hW hH hW12 hH12 g hg x y w h hx hy hw hh (by have := (not_congr (nl_lt hW (nI_add x w) (by omega) (by omega))).mp h7; omega) ((nl_le (nI_add y h) hH (by omega) (by omega)).mp h18) y (by omega) (Nat.le_refl y) (fun a c h1 h2 h3 h4 => by omega)
    · refine ev_iconst (v := 0) dX3_isFree_21 rfl ?_
      exact ev_ireturn (ty := .boolean) dX3_isFree_22 rfl rfl (Or.inr ⟨fun q => h18 ((nl_le (nI_add y h) hH (by omega) (by omega)).mpr q.2.1), rfl, rfl, rfl, rfl⟩)
theorem pf_step {g : Nat → Nat → Int32} {x y w r i : Nat} {v : Int32} (hi : x ≤ i) (a b : Nat) : pf_g g x y w v r (i + 1) a b = if a = i ∧ b = r then v else pf_g g x y w v r i a b := by
  simp only [pf_g]
  by_cases h1 : a = i ∧ b = r
  · rw [if_pos (by omega), if_pos h1]
  · rw [if_neg h1]
    by_cases h2 : (x ≤ a ∧ a < x + w ∧ y ≤ b ∧ b < r) ∨ (b = r ∧ x ≤ a ∧ a < i)
    · rw [if_pos (by omega), if_pos h2]
    · rw [if_neg (by omega), if_neg h2]
theorem pf_row {g : Nat → Nat → Int32} {x y w r : Nat} {v : Int32} (hr : y ≤ r) (a b : Nat) : pf_g g x y w v (r + 1) x a b = pf_g g x y w v r (x + w) a b := by
  simp only [pf_g]
  by_cases h2 : (x ≤ a ∧ a < x + w ∧ y ≤ b ∧ b < r) ∨ (b = r ∧ x ≤ a ∧ a < x + w)
  · rw [if_pos (by omega), if_pos h2]
  · rw [if_neg (by omega), if_neg h2]
theorem pf_0 {g : Nat → Nat → Int32} {x y w : Nat} {v : Int32} (a b : Nat) : pf_g g x y w v y x a b = g a b := by
  simp only [pf_g]
  rw [if_neg (by omega)]
theorem pf_all {g : Nat → Nat → Int32} {x y w h : Nat} {v : Int32} (a b : Nat) : fi_g g x y w h v a b = pf_g g x y w v (y + h) x a b := by
  simp only [pf_g, fi_g]
  by_cases h2 : x ≤ a ∧ a < x + w ∧ y ≤ b ∧ b < y + h
  · rw [if_pos h2, if_pos (by omega)]
  · rw [if_neg h2, if_neg (by omega)]
set_option maxRecDepth 100000 in
set_option maxHeartbeats 4000000 in
theorem lp_X3_fill2 {sh : SH} {mi : MI} {mr : MR} {q W H : Nat} (hk : sk_c sh mr q (W * H)) (hW : mi q 1 = nI W) (hH : mi q 2 = nI H) (hW12 : W ≤ 12) (hH12 : H ≤ 12) (g : Nat → Nat → Int32) (x y w h : Nat) (hx : x < 12) (hy : y < 12) (hw : w ≤ 12) (hh : h ≤ 12) (p5 : Int32) (hxw : x + w ≤ W) (hyh : y + h ≤ H) (r : Nat) (hr1 : y ≤ r) (hr : r < y + h) (hc : ∀ m, gd_c (q + 1) (fun a b => b * W + a) W H (pf_g g x y w p5 r (x + w)) mi m → EV none 0 0 0 mX3_fill 46 [some (pv_r q), some (pv_i (nI x)), some (pv_i (nI y)), some (pv_i (nI w)), some (pv_i (nI h)), some (pv_i p5), some (pv_i (nI r)), none] [] sh m mr (fun v_ sh_ mi_ mr_ => v_ = none ∧ sh_ = sh ∧ mr_ = mr ∧ gd_c (q + 1) (fun a b => b * W + a) W H (fi_g g x y w h p5) mi mi_)) : ∀ i, i ≤ x + w → x ≤ i → ∀ m, gd_c (q + 1) (fun a b => b * W + a) W H (pf_g g x y w p5 r i) mi m → EV none 0 0 0 mX3_fill 15 [some (pv_r q), some (pv_i (nI x)), some (pv_i (nI y)), some (pv_i (nI w)), some (pv_i (nI h)), some (pv_i p5), some (pv_i (nI r)), some (pv_i (nI i))] [] sh m mr (fun v_ sh_ mi_ mr_ => v_ = none ∧ sh_ = sh ∧ mr_ = mr ∧ gd_c (q + 1) (fun a b => b * W + a) W H (fi_g g x y w h p5) mi mi_) := by
  refine lp_i (x + w) (fun i hi ih => ?_)
  intro hxi m hG
  refine ev_iload dX3_fill_15 rfl ?_
  refine ev_iload_n dX3_fill_17 rfl ?_
  refine ev_iload_n dX3_fill_18 rfl ?_
  refine ev_iadd dX3_fill_19 ?_
  refine ev_icmp_ge (tgt := 46) dX3_fill_20 rfl (fun h20 => ?_) (fun h20 => ?_)
  · have hin : x + w ≤ i := (nl_le (nI_add x w) (b := i) rfl (by omega) (by omega)).mp h20
    have e : i = x + w := by omega
    subst e
    exact ev_fg 7 (hc m hG)
  · have hlt : i < x + w := by have := (not_congr (nl_le (nI_add x w) (b := i) rfl (by omega) (by omega))).mp h20; omega
    refine ev_aload_n dX3_fill_23 rfl ?_
    refine ev_getq dX3_fill_24 fl_X3_27 rfl hk.1 hk.2.1 ?_
    refine ev_iload dX3_fill_27 rfl ?_
    refine ev_aload_n dX3_fill_29 rfl ?_
    refine ev_geti dX3_fill_30 fl_X3_18 rfl hk.1 ?_
    refine ev_imul dX3_fill_33 ?_
    refine ev_iload dX3_fill_34 rfl ?_
    refine ev_iadd dX3_fill_36 ?_
    refine ev_iload dX3_fill_37 rfl ?_
    refine ev_iast dX3_fill_39 hk.2.2 (j := r * W + i) (by rw [((hG.1 q 1 (by omega)).trans hW), pk_mul, nI_add]) (ix_lt (by omega) (by omega)) (WH_b hW12 hH12) ?_
    refine ev_iincN dX3_fill_40 rfl (by decide) ?_
    refine ev_goto (tgt := 15) dX3_fill_43 rfl ?_
    exact ih hlt (by omega) _ (gd_up (f := fun a b => b * W + a) (i := i) (j := r) (fun a b ha hb he => ix_in ha (by omega) he) hG (by omega) (by omega) (fun a b _ _ => pf_step hxi a b))
set_option maxRecDepth 100000 in
set_option maxHeartbeats 4000000 in
theorem lp_X3_fill1 {sh : SH} {mi : MI} {mr : MR} {q W H : Nat} (hk : sk_c sh mr q (W * H)) (hW : mi q 1 = nI W) (hH : mi q 2 = nI H) (hW12 : W ≤ 12) (hH12 : H ≤ 12) (g : Nat → Nat → Int32) (x y w h : Nat) (hx : x < 12) (hy : y < 12) (hw : w ≤ 12) (hh : h ≤ 12) (p5 : Int32) (hxw : x + w ≤ W) (hyh : y + h ≤ H) : ∀ r, r ≤ y + h → y ≤ r → ∀ m, gd_c (q + 1) (fun a b => b * W + a) W H (pf_g g x y w p5 r x) mi m → EV none 0 0 0 mX3_fill 3 [some (pv_r q), some (pv_i (nI x)), some (pv_i (nI y)), some (pv_i (nI w)), some (pv_i (nI h)), some (pv_i p5), some (pv_i (nI r)), none] [] sh m mr (fun v_ sh_ mi_ mr_ => v_ = none ∧ sh_ = sh ∧ mr_ = mr ∧ gd_c (q + 1) (fun a b => b * W + a) W H (fi_g g x y w h p5) mi mi_) := by
  refine lp_i (y + h) (fun r hr ih => ?_)
  intro hr1 m hG
  refine ev_iload dX3_fill_3 rfl ?_
  refine ev_iload_n dX3_fill_5 rfl ?_
  refine ev_iload dX3_fill_6 rfl ?_
  refine ev_iadd dX3_fill_8 ?_
  refine ev_icmp_ge (tgt := 52) dX3_fill_9 rfl (fun h9 => ?_) (fun h9 => ?_)
  · have hin : y + h ≤ r := (nl_le (nI_add y h) (b := r) rfl (by omega) (by omega)).mp h9
    exact ev_return dX3_fill_52 rfl ⟨rfl, rfl, rfl, gd_eq hG (fun a b _ _ => by rw [pf_all, show y + h = r by omega])⟩
  · have hlt : r < y + h := by have := (not_congr (nl_le (nI_add y h) (b := r) rfl (by omega) (by omega))).mp h9; omega
    refine ev_iload_n dX3_fill_12 rfl ?_
    refine ev_istore dX3_fill_13 (by decide) ?_
    refine lp_X3_fill2 hk hW hH hW12 hH12 g x y w h hx hy hw hh p5 hxw hyh r hr1 (by omega) (fun m2 hG2 => ?_) x (by omega) (Nat.le_refl x) m hG
    refine ev_iincN dX3_fill_46 rfl (by decide) ?_
    refine ev_goto (tgt := 3) dX3_fill_49 rfl ?_
    exact ih (by omega) (by omega) m2 (gd_eq hG2 (fun a b _ _ => pf_row hr1 a b))
set_option maxRecDepth 100000 in
set_option maxHeartbeats 4000000 in
theorem t_X3_fill {sh : SH} {mi : MI} {mr : MR} {q W H : Nat} (hk : sk_c sh mr q (W * H)) (hW : mi q 1 = nI W) (hH : mi q 2 = nI H) (hW12 : W ≤ 12) (hH12 : H ≤ 12) (g : Nat → Nat → Int32) (hg : ∀ x y, x < W → y < H → mi (q + 1) (y * W + x) = g x y) (x y w h : Nat) (hx : x < 12) (hy : y < 12) (hw : w ≤ 12) (hh : h ≤ 12) (p5 : Int32) (hxw : x + w ≤ W) (hyh : y + h ≤ H) : EV none 0 0 0 mX3_fill 0 (en_l mX3_fill [pv_r q, pv_i (nI x), pv_i (nI y), pv_i (nI w), pv_i (nI h), pv_i p5]) [] sh mi mr (fun v_ sh_ mi_ mr_ => v_ = none ∧ sh_ = sh ∧ mr_ = mr ∧ gd_c (q + 1) (fun a b => b * W + a) W H (fi_g g x y w h p5) mi mi_) := by
  show EV none 0 0 0 mX3_fill 0 [some (pv_r q), some (pv_i (nI x)), some (pv_i (nI y)), some (pv_i (nI w)), some (pv_i (nI h)), some (pv_i p5), none, none] [] sh mi mr _
  refine ev_iload_n dX3_fill_0 rfl ?_
  refine ev_istore dX3_fill_1 (by decide) ?_
  exact lp_X3_fill1 hk hW hH hW12 hH12 g x y w h hx hy hw hh p5 hxw hyh y (by omega) (Nat.le_refl y) mi ⟨fun _ _ _ => rfl, fun a b ha hb => by rw [pf_0]; exact hg a b ha hb, fun _ _ => rfl⟩
set_option maxRecDepth 100000 in
set_option maxHeartbeats 4000000 in
theorem t_X3_cutHere {sh : SH} {mi : MI} {mr : MR} {q W H : Nat} (hk : sk_c sh mr q (W * H)) (hW : mi q 1 = nI W) (hH : mi q 2 = nI H) (hW12 : W ≤ 12) (hH12 : H ≤ 12) (g : Nat → Nat → Int32) (hg : ∀ x y, x < W → y < H → mi (q + 1) (y * W + x) = g x y) (x y w h : Nat) (hx : x < 12) (hy : y < 12) (hw : w ≤ 12) (hh : h ≤ 12) (C : Nat) (hC : mi q 4 = nI C) : EV none 1 0 0 mX3_cutHere 0 (en_l mX3_cutHere [pv_r q, pv_i (nI x), pv_i (nI y), pv_i (nI w), pv_i (nI h)]) [] sh mi mr (fun v_ sh_ mi_ mr_ => sh_ = sh ∧ mr_ = mr ∧ ((¬ ft_g W H g x y w h ∧ v_ = some (pv_i 0) ∧ mi_ = mi) ∨ (ft_g W H g x y w h ∧ v_ = some (pv_i 1) ∧ (∀ a c, a ≠ q + 1 → ¬ (a = q ∧ c = 4) → mi_ a c = mi a c) ∧ mi_ q 4 = nI (C + 1) ∧ (∀ a b, a < W → b < H → mi_ (q + 1) (b * W + a) = fi_g g x y w h (nI (2 + C)) a b)))) := by
  show EV none 1 0 0 mX3_cutHere 0 [some (pv_r q), some (pv_i (nI x)), some (pv_i (nI y)), some (pv_i (nI w)), some (pv_i (nI h))] [] sh mi mr _
  refine ev_aload_n dX3_cutHere_0 rfl ?_
  refine ev_iload_n dX3_cutHere_1 rfl ?_
  refine ev_iload_n dX3_cutHere_2 rfl ?_
  refine ev_iload_n dX3_cutHere_3 rfl ?_
  refine ev_iload dX3_cutHere_4 rfl ?_
  refine ev_callv (av := [pv_i (nI x), pv_i (nI y), pv_i (nI w), pv_i (nI h)]) dX3_cutHere_6 cv_X3_43 hk.1 rfl rfl (Nat.le_of_ble_eq_true rfl) (by decide) (Or.inl (fun v_ s_ m_ r_ h_ => by rcases h_ with ⟨_, _, e_, _, _⟩ | ⟨_, _, e_, _, _⟩ <;> rw [e_])) (Nat.zero_add _) (Nat.zero_add _) (t_X3_isFree hk hW hH hW12 hH12 g hg x y w h hx hy hw hh) ?_
  rintro v_ sh_ mi_ mr_ (⟨qa, e1_, e2_, e3_, e4_⟩ | ⟨qb, e1_, e2_, e3_, e4_⟩)
  · subst e1_
    have e2_ := e2_.symm
    subst e2_
    have e3_ := e3_.symm
    subst e3_
    have e4_ := e4_.symm
    subst e4_
    refine ev_if_ne_t (tgt := 14) dX3_cutHere_9 rfl (by decide) ?_
    refine ev_aload_n dX3_cutHere_14 rfl ?_
    refine ev_iload_n dX3_cutHere_15 rfl ?_
    refine ev_iload_n dX3_cutHere_16 rfl ?_
    refine ev_iload_n dX3_cutHere_17 rfl ?_
    refine ev_iload dX3_cutHere_18 rfl ?_
    refine ev_iconst (v := 2) dX3_cutHere_20 rfl ?_
    refine ev_aload_n dX3_cutHere_21 rfl ?_
    refine ev_geti dX3_cutHere_22 fl_X3_9 rfl hk.1 ?_
    refine ev_iadd dX3_cutHere_25 ?_
    refine ev_callv (av := [pv_i (nI x), pv_i (nI y), pv_i (nI w), pv_i (nI h), pv_i (2 + (mi q 4))]) dX3_cutHere_26 cv_X3_46 hk.1 rfl rfl (Nat.le_of_ble_eq_true rfl) (by decide) (Or.inl (fun v_ s_ m_ r_ h_ => by rw [h_.2.1])) (Nat.zero_add _) (Nat.zero_add _) (t_X3_fill hk hW hH hW12 hH12 g hg x y w h hx hy hw hh _ qa.1 qa.2.1) ?_
    rintro v_ sh_ m1 mr_ ⟨e1_, e2_, e3_, hG⟩
    subst e1_
    have e2_ := e2_.symm
    subst e2_
    have e3_ := e3_.symm
    subst e3_
    refine ev_aload_n dX3_cutHere_29 rfl ?_
    refine ev_dup dX3_cutHere_30 ?_
    refine ev_geti dX3_cutHere_31 fl_X3_9 rfl hk.1 ?_
    refine ev_iconst (v := 1) dX3_cutHere_34 rfl ?_
    refine ev_iadd dX3_cutHere_35 ?_
    refine ev_puti dX3_cutHere_36 fl_X3_9 rfl rfl hk.1 ?_
    refine ev_iconst (v := 1) dX3_cutHere_39 rfl ?_
    exact ev_ireturn (ty := .boolean) dX3_cutHere_40 rfl rfl ⟨rfl, rfl, Or.inr ⟨qa, rfl, fun a c h1 h2 => by rw [show up_2 m1 q 4 (m1 q 4 + 1) a c = m1 a c by simp only [up_2]; rw [if_neg h2]]; exact hG.1 a c h1, by rw [up_at, hG.1 q 4 (by omega), hC, nI_1], fun a b ha hb => by rw [up_ne (Or.inl (by omega)), hG.2.1 a b ha hb, hC, show (2 : Int32) = nI 2 from rfl, nI_add]⟩⟩
  · subst e1_
    have e2_ := e2_.symm
    subst e2_
    have e3_ := e3_.symm
    subst e3_
    have e4_ := e4_.symm
    subst e4_
    refine ev_if_ne_f (tgt := 14) dX3_cutHere_9 rfl (by decide) ?_
    refine ev_iconst (v := 0) dX3_cutHere_12 rfl ?_
    exact ev_ireturn (ty := .boolean) dX3_cutHere_13 rfl rfl ⟨rfl, rfl, Or.inl ⟨qb, rfl, rfl⟩⟩
/-- no place for a cover, neither as it is nor turned: ahead of (x, y); nowhere -/
def ea_g (W H : Nat) (g : Nat → Nat → Int32) (w h x y : Nat) : Prop := ∀ a b, a < W → b < H → (b < y ∨ (b = y ∧ a < x)) → ¬ ft_g W H g a b w h ∧ ¬ ft_g W H g a b h w
def no_g (W H : Nat) (g : Nat → Nat → Int32) (w h : Nat) : Prop := ∀ a b, a < W → b < H → ¬ ft_g W H g a b w h ∧ ¬ ft_g W H g a b h w
theorem ea_s {W H : Nat} {g : Nat → Nat → Int32} {w h x y : Nat} (h1 : ea_g W H g w h x y) (h2 : ¬ ft_g W H g x y w h) (h3 : ¬ ft_g W H g x y h w) : ea_g W H g w h (x + 1) y := fun a b ha hb hab => by
  by_cases e : a = x ∧ b = y
  · rw [e.1, e.2]; exact ⟨h2, h3⟩
  · exact h1 a b ha hb (by omega)
theorem ea_r {W H : Nat} {g : Nat → Nat → Int32} {w h x y : Nat} (h1 : ea_g W H g w h x y) (hx : W ≤ x) : ea_g W H g w h 0 (y + 1) := fun a b ha hb hab => h1 a b ha hb (by omega)
/-- how a cover comes to be cut: where, how -/
def cu_g (W H : Nat) (g : Nat → Nat → Int32) (w h x y : Nat) (t : Bool) : Prop := x < W ∧ y < H ∧ ea_g W H g w h x y ∧ (t = false → ft_g W H g x y w h) ∧ (t = true → ¬ ft_g W H g x y w h ∧ ft_g W H g x y h w)
theorem cu_one {W H : Nat} {g : Nat → Nat → Int32} {w h x y x2 y2 : Nat} {t t2 : Bool} (h1 : cu_g W H g w h x y t) (h2 : cu_g W H g w h x2 y2 t2) : x = x2 ∧ y = y2 ∧ t = t2 := by
  have key : ∀ {x y x2 y2 : Nat} {t t2 : Bool}, cu_g W H g w h x y t → cu_g W H g w h x2 y2 t2 → ¬ (y < y2 ∨ (y = y2 ∧ x < x2)) := by
    intro x y x2 y2 t t2 h1 h2 hl
    have h3 := h2.2.2.1 x y h1.1 h1.2.1 hl
    cases t with
    | false => exact h3.1 (h1.2.2.2.1 rfl)
    | true => exact h3.2 (h1.2.2.2.2 rfl).2
  have k1 := key h1 h2
  have k2 := key h2 h1
  have ex : x = x2 := by omega
  have ey : y = y2 := by omega
  subst ex; subst ey
  refine ⟨rfl, rfl, ?_⟩
  cases t <;> cases t2
  · rfl
  · exact absurd (h1.2.2.2.1 rfl) (h2.2.2.2.2 rfl).1
  · exact absurd (h2.2.2.2.1 rfl) (h1.2.2.2.2 rfl).1
  · rfl
theorem cu_no {W H : Nat} {g : Nat → Nat → Int32} {w h x y : Nat} {t : Bool} (h1 : cu_g W H g w h x y t) (h2 : no_g W H g w h) : False := by
  have h3 := h2 x y h1.1 h1.2.1
  cases t with
  | false => exact h3.1 (h1.2.2.2.1 rfl)
  | true => exact h3.2 (h1.2.2.2.2 rfl).2
def cu_n (x y : Nat) (t : Bool) : Nat := x + 100 * y + (if t then 10000 else 0)
def cu_f (g : Nat → Nat → Int32) (w h x y : Nat) (t : Bool) (v : Int32) : Nat → Nat → Int32 := if t then fi_g g x y h w v else fi_g g x y w h v
set_option maxRecDepth 100000 in
set_option maxHeartbeats 4000000 in
theorem lp_X3_cutCover2 {sh : SH} {mi : MI} {mr : MR} {q W H : Nat} (hk : sk_c sh mr q (W * H)) (hW : mi q 1 = nI W) (hH : mi q 2 = nI H) (hW12 : W ≤ 12) (hH12 : H ≤ 12) (g : Nat → Nat → Int32) (hg : ∀ x y, x < W → y < H → mi (q + 1) (y * W + x) = g x y) (w h : Nat) (hw : w ≤ 12) (hh : h ≤ 12) (C : Nat) (hC : mi q 4 = nI C) (y : Nat) (hy : y < H) (hc : ea_g W H g w h 0 (y + 1) → EV none 2 0 0 mX3_cutCover 72 [some (pv_r q), some (pv_i (nI w)), some (pv_i (nI h)), some (pv_i (nI y)), none] [] sh mi mr (fun v_ sh_ mi_ mr_ => sh_ = sh ∧ mr_ = mr ∧ ((no_g W H g w h ∧ v_ = some (pv_i (-1)) ∧ mi_ = mi) ∨ (∃ x y t, cu_g W H g w h x y t ∧ v_ = some (pv_i (nI (cu_n x y t))) ∧ (∀ a c, a ≠ q + 1 → ¬ (a = q ∧ c = 4) → mi_ a c = mi a c) ∧ mi_ q 4 = nI (C + 1) ∧ (∀ a b, a < W → b < H → mi_ (q + 1) (b * W + a) = cu_f g w h x y t (nI (2 + C)) a b))))) : ∀ x, x ≤ W → ea_g W H g w h x y → EV none 2 0 0 mX3_cutCover 13 [some (pv_r q), some (pv_i (nI w)), some (pv_i (nI h)), some (pv_i (nI y)), some (pv_i (nI x))] [] sh mi mr (fun v_ sh_ mi_ mr_ => sh_ = sh ∧ mr_ = mr ∧ ((no_g W H g w h ∧ v_ = some (pv_i (-1)) ∧ mi_ = mi) ∨ (∃ x y t, cu_g W H g w h x y t ∧ v_ = some (pv_i (nI (cu_n x y t))) ∧ (∀ a c, a ≠ q + 1 → ¬ (a = q ∧ c = 4) → mi_ a c = mi a c) ∧ mi_ q 4 = nI (C + 1) ∧ (∀ a b, a < W → b < H → mi_ (q + 1) (b * W + a) = cu_f g w h x y t (nI (2 + C)) a b)))) := by
  refine lp_i W (fun x hx ih => ?_)
  intro hea
  refine ev_iload dX3_cutCover_13 rfl ?_
  refine ev_aload_n dX3_cutCover_15 rfl ?_
  refine ev_geti dX3_cutCover_16 fl_X3_18 rfl hk.1 ?_
  refine ev_icmp_ge (tgt := 72) dX3_cutCover_19 rfl (fun h19 => ?_) (fun h19 => ?_)
  · have hin : W ≤ x := (nl_le hW (b := x) rfl (by omega) (by omega)).mp h19
    exact ev_fg 4 (hc (ea_r hea hin))
  · have hlt : x < W := by have := (not_congr (nl_le hW (b := x) rfl (by omega) (by omega))).mp h19; omega
    refine ev_aload_n dX3_cutCover_22 rfl ?_
    refine ev_iload dX3_cutCover_23 rfl ?_
    refine ev_iload_n dX3_cutCover_25 rfl ?_
    refine ev_iload_n dX3_cutCover_26 rfl ?_
    refine ev_iload_n dX3_cutCover_27 rfl ?_
    refine ev_callv (av := [pv_i (nI x), pv_i (nI y), pv_i (nI w), pv_i (nI h)]) dX3_cutCover_28 cv_X3_35 hk.1 rfl rfl (Nat.le_of_ble_eq_true rfl) (by decide) (Or.inl (fun v_ s_ m_ r_ h_ => by rw [h_.1])) (Nat.zero_add _) (Nat.zero_add _) (t_X3_cutHere hk hW hH hW12 hH12 g hg x y w h (by omega) (by omega) (by omega) (by omega) C hC) ?_
    rintro v_ sh_ m1 mr_ ⟨e2_, e3_, h_⟩
    have e2_ := e2_.symm
    subst e2_
    have e3_ := e3_.symm
    subst e3_
    rcases h_ with ⟨qbw, e1_, e4_⟩ | ⟨qa, e1_, hA, hA2, hA3⟩
    · subst e1_
      have e4_ := e4_.symm
      subst e4_
      refine ev_if_eq_t (tgt := 42) dX3_cutCover_31 rfl (by decide) ?_
      refine ev_aload_n dX3_cutCover_42 rfl ?_
      refine ev_iload dX3_cutCover_43 rfl ?_
      refine ev_iload_n dX3_cutCover_45 rfl ?_
      refine ev_iload_n dX3_cutCover_46 rfl ?_
      refine ev_iload_n dX3_cutCover_47 rfl ?_
      refine ev_callv (av := [pv_i (nI x), pv_i (nI y), pv_i (nI h), pv_i (nI w)]) dX3_cutCover_48 cv_X3_35 hk.1 rfl rfl (Nat.le_of_ble_eq_true rfl) (by decide) (Or.inl (fun v_ s_ m_ r_ h_ => by rw [h_.1])) (Nat.zero_add _) (Nat.zero_add _) (t_X3_cutHere hk hW hH hW12 hH12 g hg x y h w (by omega) (by omega) (by omega) (by omega) C hC) ?_
      rintro v_ sh_ m1 mr_ ⟨e2_, e3_, h_⟩
      have e2_ := e2_.symm
      subst e2_
      have e3_ := e3_.symm
      subst e3_
      rcases h_ with ⟨qbh, e1_, e4_⟩ | ⟨qa, e1_, hA, hA2, hA3⟩
      · subst e1_
        have e4_ := e4_.symm
        subst e4_
        refine ev_if_eq_t (tgt := 66) dX3_cutCover_51 rfl (by decide) ?_
        refine ev_iincN dX3_cutCover_66 rfl (by decide) ?_
        refine ev_goto (tgt := 13) dX3_cutCover_69 rfl ?_
        exact ih hlt (ea_s hea qbw qbh)
      · subst e1_
        refine ev_if_eq_f (tgt := 66) dX3_cutCover_51 rfl (by decide) ?_
        refine ev_iload dX3_cutCover_54 rfl ?_
        refine ev_bipush (v := 100) dX3_cutCover_56 rfl ?_
        refine ev_iload_n dX3_cutCover_58 rfl ?_
        refine ev_imul dX3_cutCover_59 ?_
        refine ev_iadd dX3_cutCover_60 ?_
        refine ev_sipush (v := 10000) dX3_cutCover_61 rfl ?_
        refine ev_iadd dX3_cutCover_64 ?_
        exact ev_ireturn (ty := .int) dX3_cutCover_65 rfl rfl ⟨rfl, rfl, Or.inr ⟨x, y, true, ⟨hlt, hy, hea, (fun e => by cases e), fun _ => ⟨qbw, qa⟩⟩, by rw [show (100 : Int32) = nI 100 from rfl, show (10000 : Int32) = nI 10000 from rfl, pk_mul, nI_add, nI_add]; rfl, hA, hA2, hA3⟩⟩
    · subst e1_
      refine ev_if_eq_f (tgt := 42) dX3_cutCover_31 rfl (by decide) ?_
      refine ev_iload dX3_cutCover_34 rfl ?_
      refine ev_bipush (v := 100) dX3_cutCover_36 rfl ?_
      refine ev_iload_n dX3_cutCover_38 rfl ?_
      refine ev_imul dX3_cutCover_39 ?_
      refine ev_iadd dX3_cutCover_40 ?_
      exact ev_ireturn (ty := .int) dX3_cutCover_41 rfl rfl ⟨rfl, rfl, Or.inr ⟨x, y, false, ⟨hlt, hy, hea, fun _ => qa, (fun e => by cases e)⟩, by rw [show (100 : Int32) = nI 100 from rfl, pk_mul, nI_add]; rfl, hA, hA2, hA3⟩⟩
set_option maxRecDepth 100000 in
set_option maxHeartbeats 4000000 in
theorem lp_X3_cutCover1 {sh : SH} {mi : MI} {mr : MR} {q W H : Nat} (hk : sk_c sh mr q (W * H)) (hW : mi q 1 = nI W) (hH : mi q 2 = nI H) (hW12 : W ≤ 12) (hH12 : H ≤ 12) (g : Nat → Nat → Int32) (hg : ∀ x y, x < W → y < H → mi (q + 1) (y * W + x) = g x y) (w h : Nat) (hw : w ≤ 12) (hh : h ≤ 12) (C : Nat) (hC : mi q 4 = nI C) : ∀ y, y ≤ H → ea_g W H g w h 0 y → EV none 2 0 0 mX3_cutCover 2 [some (pv_r q), some (pv_i (nI w)), some (pv_i (nI h)), some (pv_i (nI y)), none] [] sh mi mr (fun v_ sh_ mi_ mr_ => sh_ = sh ∧ mr_ = mr ∧ ((no_g W H g w h ∧ v_ = some (pv_i (-1)) ∧ mi_ = mi) ∨ (∃ x y t, cu_g W H g w h x y t ∧ v_ = some (pv_i (nI (cu_n x y t))) ∧ (∀ a c, a ≠ q + 1 → ¬ (a = q ∧ c = 4) → mi_ a c = mi a c) ∧ mi_ q 4 = nI (C + 1) ∧ (∀ a b, a < W → b < H → mi_ (q + 1) (b * W + a) = cu_f g w h x y t (nI (2 + C)) a b)))) := by
  refine lp_i H (fun y hy ih => ?_)
  intro hea
  refine ev_iload_n dX3_cutCover_2 rfl ?_
  refine ev_aload_n dX3_cutCover_3 rfl ?_
  refine ev_geti dX3_cutCover_4 fl_X3_21 rfl hk.1 ?_
  refine ev_icmp_ge (tgt := 78) dX3_cutCover_7 rfl (fun h7 => ?_) (fun h7 => ?_)
  · have hin : H ≤ y := (nl_le hH (b := y) rfl (by omega) (by omega)).mp h7
    refine ev_iconst (v := (-1)) dX3_cutCover_78 rfl ?_
    exact ev_ireturn (ty := .int) dX3_cutCover_79 rfl rfl ⟨rfl, rfl, Or.inl ⟨fun a b ha hb => hea a b ha hb (by omega), rfl, rfl⟩⟩
  · have hlt : y < H := by have := (not_congr (nl_le hH (b := y) rfl (by omega) (by omega))).mp h7; omega
    refine ev_iconst (v := 0) dX3_cutCover_10 rfl ?_
    refine ev_istore dX3_cutCover_11 (by decide) ?_
    refine lp_X3_cutCover2 hk hW hH hW12 hH12 g hg w h hw hh C hC y hlt (fun hea2 => ?_) 0 (Nat.zero_le W) hea
    refine ev_iincN dX3_cutCover_72 rfl (by decide) ?_
    refine ev_goto (tgt := 2) dX3_cutCover_75 rfl ?_
    exact ih hlt hea2
set_option maxRecDepth 100000 in
set_option maxHeartbeats 4000000 in
theorem t_X3_cutCover {sh : SH} {mi : MI} {mr : MR} {q W H : Nat} (hk : sk_c sh mr q (W * H)) (hW : mi q 1 = nI W) (hH : mi q 2 = nI H) (hW12 : W ≤ 12) (hH12 : H ≤ 12) (g : Nat → Nat → Int32) (hg : ∀ x y, x < W → y < H → mi (q + 1) (y * W + x) = g x y) (w h : Nat) (hw : w ≤ 12) (hh : h ≤ 12) (C : Nat) (hC : mi q 4 = nI C) : EV none 2 0 0 mX3_cutCover 0 (en_l mX3_cutCover [pv_r q, pv_i (nI w), pv_i (nI h)]) [] sh mi mr (fun v_ sh_ mi_ mr_ => sh_ = sh ∧ mr_ = mr ∧ ((no_g W H g w h ∧ v_ = some (pv_i (-1)) ∧ mi_ = mi) ∨ (∃ x y t, cu_g W H g w h x y t ∧ v_ = some (pv_i (nI (cu_n x y t))) ∧ (∀ a c, a ≠ q + 1 → ¬ (a = q ∧ c = 4) → mi_ a c = mi a c) ∧ mi_ q 4 = nI (C + 1) ∧ (∀ a b, a < W → b < H → mi_ (q + 1) (b * W + a) = cu_f g w h x y t (nI (2 + C)) a b)))) := by
  show EV none 2 0 0 mX3_cutCover 0 [some (pv_r q), some (pv_i (nI w)), some (pv_i (nI h)), none, none] [] sh mi mr _
  refine ev_iconst (v := 0) dX3_cutCover_0 rfl ?_
  refine ev_istore_n dX3_cutCover_1 (by decide) ?_
  exact lp_X3_cutCover1 hk hW hH hW12 hH12 g hg w h hw hh C hC 0 (Nat.zero_le H) (fun a b ha hb hab => by omega)
set_option maxRecDepth 100000 in
set_option maxHeartbeats 4000000 in
theorem t_X5_skinAt_k {sh : SH} {mi : MI} {mr : MR} (hB : ba_c sh mr) (ns : Nat) (hns : mi 0 6 = nI ns) (hns6 : ns ≤ 6) (s : Nat) (hs : s < ns) {q W H : Nat} (hq : mr 21 s = some q) (hk : sk_c sh mr q (W * H)) : EV none 1 0 0 mX5_skinAt 0 (en_l mX5_skinAt [pv_r 0, pv_i (nI s)]) [] sh mi mr (ok_q sh mr (some q) mi) := by
  show EV none 1 0 0 mX5_skinAt 0 [some (pv_r 0), some (pv_i (nI s))] [] sh mi mr _
  refine ev_iload_n dX5_skinAt_0 rfl ?_
  refine ev_iconst (v := 0) dX5_skinAt_1 rfl ?_
  refine ev_aload_n dX5_skinAt_2 rfl ?_
  refine ev_geti dX5_skinAt_3 fl_X5_46 rfl (hB.1 0 _ rfl) ?_
  refine ev_iconst (v := 1) dX5_skinAt_6 rfl ?_
  refine ev_isub dX5_skinAt_7 ?_
  refine ev_s3i dX5_skinAt_8 cs_X5_57 (Nat.le_of_ble_eq_true rfl) (by decide) (t_X5_within _ _ _) ?_
  refine ev_if_eq_f (tgt := 23) dX5_skinAt_11 rfl (by rw [bi_1 (by rw [hns]; exact (i_cases (by omega)).mpr ⟨s, hs, rfl⟩)]; decide) ?_
  refine ev_aload_n dX5_skinAt_14 rfl ?_
  refine ev_getq dX5_skinAt_15 fl_X5_31 rfl (hB.1 0 _ rfl) (hB.2 0 3 _ rfl) ?_
  refine ev_iload_n dX5_skinAt_18 rfl ?_
  refine ev_aald dX5_skinAt_19 (hB.1 21 _ rfl) (by decide) rfl (j := s) rfl (by omega) (by decide) ?_
  rw [hq]
  refine ev_goto (tgt := 24) dX5_skinAt_20 rfl ?_
  exact ev_areturn dX5_skinAt_24 rfl ⟨rfl, rfl, rfl, rfl⟩
set_option maxRecDepth 100000 in
set_option maxHeartbeats 4000000 in
theorem t_X5_skinAt_u {sh : SH} {mi : MI} {mr : MR} (hB : ba_c sh mr) (p1 : Int32) (hu : ¬ (0 ≤ p1 ∧ p1 ≤ (mi 0 6) - 1)) : EV none 1 0 0 mX5_skinAt 0 (en_l mX5_skinAt [pv_r 0, pv_i p1]) [] sh mi mr (ok_q sh mr none mi) := by
  show EV none 1 0 0 mX5_skinAt 0 [some (pv_r 0), some (pv_i p1)] [] sh mi mr _
  refine ev_iload_n dX5_skinAt_0 rfl ?_
  refine ev_iconst (v := 0) dX5_skinAt_1 rfl ?_
  refine ev_aload_n dX5_skinAt_2 rfl ?_
  refine ev_geti dX5_skinAt_3 fl_X5_46 rfl (hB.1 0 _ rfl) ?_
  refine ev_iconst (v := 1) dX5_skinAt_6 rfl ?_
  refine ev_isub dX5_skinAt_7 ?_
  refine ev_s3i dX5_skinAt_8 cs_X5_57 (Nat.le_of_ble_eq_true rfl) (by decide) (t_X5_within _ _ _) ?_
  refine ev_if_eq_t (tgt := 23) dX5_skinAt_11 rfl (bi_f hu) ?_
  refine ev_null dX5_skinAt_23 ?_
  exact ev_areturn dX5_skinAt_24 rfl ⟨rfl, rfl, rfl, rfl⟩
set_option maxRecDepth 100000 in
set_option maxHeartbeats 4000000 in
theorem t_X5_flaw_u {sh : SH} {mi : MI} {mr : MR} (hB : ba_c sh mr) (p1 : Int32) (hu : ¬ (0 ≤ p1 ∧ p1 ≤ (mi 0 6) - 1)) (p2 p3 : Int32) : EV none 2 0 0 mX5_flaw 0 (en_l mX5_flaw [pv_r 0, pv_i p1, pv_i p2, pv_i p3]) [] sh mi mr (ok_r sh mr (-2) mi) := by
  show EV none 2 0 0 mX5_flaw 0 [some (pv_r 0), some (pv_i p1), some (pv_i p2), some (pv_i p3), none] [] sh mi mr _
  refine ev_aload_n dX5_flaw_0 rfl ?_
  refine ev_iload_n dX5_flaw_1 rfl ?_
  refine ev_v1q dX5_flaw_2 cv_X5_198 (hB.1 0 _ rfl) (Nat.le_of_ble_eq_true rfl) (by decide) (t_X5_skinAt_u hB _ hu) ?_
  refine ev_astore dX5_flaw_5 (by decide) ?_
  refine ev_aload dX5_flaw_7 rfl ?_
  refine ev_ifnonnull_n (tgt := 15) dX5_flaw_9 rfl ?_
  refine ev_bipush (v := (-2)) dX5_flaw_12 rfl ?_
  exact ev_ireturn (ty := .int) dX5_flaw_14 rfl rfl ⟨rfl, rfl, rfl, rfl⟩
set_option maxRecDepth 100000 in
set_option maxHeartbeats 4000000 in
theorem t_X5_cut_u {sh : SH} {mi : MI} {mr : MR} (hB : ba_c sh mr) (p1 : Int32) (hu : ¬ (0 ≤ p1 ∧ p1 ≤ (mi 0 6) - 1)) (p2 p3 : Int32) : EV none 2 0 0 mX5_cut 0 (en_l mX5_cut [pv_r 0, pv_i p1, pv_i p2, pv_i p3]) [] sh mi mr (ok_r sh mr (-2) mi) := by
  show EV none 2 0 0 mX5_cut 0 [some (pv_r 0), some (pv_i p1), some (pv_i p2), some (pv_i p3), none, none] [] sh mi mr _
  refine ev_aload_n dX5_cut_0 rfl ?_
  refine ev_iload_n dX5_cut_1 rfl ?_
  refine ev_v1q dX5_cut_2 cv_X5_198 (hB.1 0 _ rfl) (Nat.le_of_ble_eq_true rfl) (by decide) (t_X5_skinAt_u hB _ hu) ?_
  refine ev_astore dX5_cut_5 (by decide) ?_
  refine ev_aload dX5_cut_7 rfl ?_
  refine ev_ifnonnull_n (tgt := 15) dX5_cut_9 rfl ?_
  refine ev_bipush (v := (-2)) dX5_cut_12 rfl ?_
  exact ev_ireturn (ty := .int) dX5_cut_14 rfl rfl ⟨rfl, rfl, rfl, rfl⟩
set_option maxRecDepth 100000 in
set_option maxHeartbeats 4000000 in
theorem t_X5_spot_u {sh : SH} {mi : MI} {mr : MR} (hB : ba_c sh mr) (p1 : Int32) (hu : ¬ (0 ≤ p1 ∧ p1 ≤ (mi 0 6) - 1)) (p2 p3 : Int32) : EV none 2 0 0 mX5_spot 0 (en_l mX5_spot [pv_r 0, pv_i p1, pv_i p2, pv_i p3]) [] sh mi mr (ok_r sh mr (-2) mi) := by
  show EV none 2 0 0 mX5_spot 0 [some (pv_r 0), some (pv_i p1), some (pv_i p2), some (pv_i p3), none] [] sh mi mr _
  refine ev_aload_n dX5_spot_0 rfl ?_
  refine ev_iload_n dX5_spot_1 rfl ?_
  refine ev_v1q dX5_spot_2 cv_X5_198 (hB.1 0 _ rfl) (Nat.le_of_ble_eq_true rfl) (by decide) (t_X5_skinAt_u hB _ hu) ?_
  refine ev_astore dX5_spot_5 (by decide) ?_
  refine ev_aload dX5_spot_7 rfl ?_
  refine ev_ifnonnull_n (tgt := 15) dX5_spot_9 rfl ?_
  refine ev_bipush (v := (-2)) dX5_spot_12 rfl ?_
  exact ev_ireturn (ty := .int) dX5_spot_14 rfl rfl ⟨rfl, rfl, rfl, rfl⟩
set_option maxRecDepth 100000 in
set_option maxHeartbeats 4000000 in
theorem t_X5_flaw_o {sh : SH} {mi : MI} {mr : MR} (hB : ba_c sh mr) (ns : Nat) (hns : mi 0 6 = nI ns) (hns6 : ns ≤ 6) (s : Nat) (hs : s < ns) {q W H : Nat} (hq : mr 21 s = some q) (hk : sk_c sh mr q (W * H)) (p2 p3 : Int32) (hv : ¬ ((0 ≤ p2 ∧ p2 ≤ (mi q 1) - 1) ∧ 0 ≤ p3 ∧ p3 ≤ (mi q 2) - 1)) : EV none 2 0 0 mX5_flaw 0 (en_l mX5_flaw [pv_r 0, pv_i (nI s), pv_i p2, pv_i p3]) [] sh mi mr (ok_r sh mr (-3) mi) := by
  show EV none 2 0 0 mX5_flaw 0 [some (pv_r 0), some (pv_i (nI s)), some (pv_i p2), some (pv_i p3), none] [] sh mi mr _
  refine ev_aload_n dX5_flaw_0 rfl ?_
  refine ev_iload_n dX5_flaw_1 rfl ?_
  refine ev_v1q dX5_flaw_2 cv_X5_198 (hB.1 0 _ rfl) (Nat.le_of_ble_eq_true rfl) (by decide) (t_X5_skinAt_k hB ns hns hns6 s hs hq hk) ?_
  refine ev_astore dX5_flaw_5 (by decide) ?_
  refine ev_aload dX5_flaw_7 rfl ?_
  refine ev_ifnonnull_s (tgt := 15) dX5_flaw_9 rfl ?_
  refine ev_aload dX5_flaw_15 rfl ?_
  refine ev_iload_n dX5_flaw_17 rfl ?_
  refine ev_iload_n dX5_flaw_18 rfl ?_
  refine ev_v2i dX5_flaw_19 cv_X5_202 hk.1 (Nat.le_of_ble_eq_true rfl) (by decide) (t_X3_hasPlace hk _ _) ?_
  refine ev_if_ne_f (tgt := 28) dX5_flaw_22 rfl (bi_f hv) ?_
  refine ev_bipush (v := (-3)) dX5_flaw_25 rfl ?_
  exact ev_ireturn (ty := .int) dX5_flaw_27 rfl rfl ⟨rfl, rfl, rfl, rfl⟩
set_option maxRecDepth 100000 in
set_option maxHeartbeats 4000000 in
theorem t_X5_spot_o {sh : SH} {mi : MI} {mr : MR} (hB : ba_c sh mr) (ns : Nat) (hns : mi 0 6 = nI ns) (hns6 : ns ≤ 6) (s : Nat) (hs : s < ns) {q W H : Nat} (hq : mr 21 s = some q) (hk : sk_c sh mr q (W * H)) (p2 p3 : Int32) (hv : ¬ ((0 ≤ p2 ∧ p2 ≤ (mi q 1) - 1) ∧ 0 ≤ p3 ∧ p3 ≤ (mi q 2) - 1)) : EV none 2 0 0 mX5_spot 0 (en_l mX5_spot [pv_r 0, pv_i (nI s), pv_i p2, pv_i p3]) [] sh mi mr (ok_r sh mr (-3) mi) := by
  show EV none 2 0 0 mX5_spot 0 [some (pv_r 0), some (pv_i (nI s)), some (pv_i p2), some (pv_i p3), none] [] sh mi mr _
  refine ev_aload_n dX5_spot_0 rfl ?_
  refine ev_iload_n dX5_spot_1 rfl ?_
  refine ev_v1q dX5_spot_2 cv_X5_198 (hB.1 0 _ rfl) (Nat.le_of_ble_eq_true rfl) (by decide) (t_X5_skinAt_k hB ns hns hns6 s hs hq hk) ?_
  refine ev_astore dX5_spot_5 (by decide) ?_
  refine ev_aload dX5_spot_7 rfl ?_
  refine ev_ifnonnull_s (tgt := 15) dX5_spot_9 rfl ?_
  refine ev_aload dX5_spot_15 rfl ?_
  refine ev_iload_n dX5_spot_17 rfl ?_
  refine ev_iload_n dX5_spot_18 rfl ?_
  refine ev_v2i dX5_spot_19 cv_X5_202 hk.1 (Nat.le_of_ble_eq_true rfl) (by decide) (t_X3_hasPlace hk _ _) ?_
  refine ev_if_ne_f (tgt := 28) dX5_spot_22 rfl (bi_f hv) ?_
  refine ev_bipush (v := (-3)) dX5_spot_25 rfl ?_
  exact ev_ireturn (ty := .int) dX5_spot_27 rfl rfl ⟨rfl, rfl, rfl, rfl⟩
set_option maxRecDepth 100000 in
set_option maxHeartbeats 4000000 in
theorem t_X5_spot_k {sh : SH} {mi : MI} {mr : MR} (hB : ba_c sh mr) (ns : Nat) (hns : mi 0 6 = nI ns) (hns6 : ns ≤ 6) (s : Nat) (hs : s < ns) {q W H : Nat} (hq : mr 21 s = some q) (hk : sk_c sh mr q (W * H)) (hW : mi q 1 = nI W) (hH : mi q 2 = nI H) (hW12 : W ≤ 12) (hH12 : H ≤ 12) (x y : Nat) (hx : x < W) (hy : y < H) : EV none 2 0 0 mX5_spot 0 (en_l mX5_spot [pv_r 0, pv_i (nI s), pv_i (nI x), pv_i (nI y)]) [] sh mi mr (ok_r sh mr (mi (q + 1) (y * W + x)) mi) := by
  show EV none 2 0 0 mX5_spot 0 [some (pv_r 0), some (pv_i (nI s)), some (pv_i (nI x)), some (pv_i (nI y)), none] [] sh mi mr _
  refine ev_aload_n dX5_spot_0 rfl ?_
  refine ev_iload_n dX5_spot_1 rfl ?_
  refine ev_v1q dX5_spot_2 cv_X5_198 (hB.1 0 _ rfl) (Nat.le_of_ble_eq_true rfl) (by decide) (t_X5_skinAt_k hB ns hns hns6 s hs hq hk) ?_
  refine ev_astore dX5_spot_5 (by decide) ?_
  refine ev_aload dX5_spot_7 rfl ?_
  refine ev_ifnonnull_s (tgt := 15) dX5_spot_9 rfl ?_
  refine ev_aload dX5_spot_15 rfl ?_
  refine ev_iload_n dX5_spot_17 rfl ?_
  refine ev_iload_n dX5_spot_18 rfl ?_
  refine ev_v2i dX5_spot_19 cv_X5_202 hk.1 (Nat.le_of_ble_eq_true rfl) (by decide) (t_X3_hasPlace hk _ _) ?_
  refine ev_if_ne_t (tgt := 28) dX5_spot_22 rfl (by rw [bi_1 ⟨by rw [hW]; exact (i_cases (by omega)).mpr ⟨x, hx, rfl⟩, by rw [hH]; exact (i_cases (by omega)).mpr ⟨y, hy, rfl⟩⟩]; decide) ?_
  refine ev_aload dX5_spot_28 rfl ?_
  refine ev_iload_n dX5_spot_30 rfl ?_
  refine ev_iload_n dX5_spot_31 rfl ?_
  refine ev_v2i dX5_spot_32 cv_X5_204 hk.1 (Nat.le_of_ble_eq_true rfl) (by decide) (t_X3_stateOf hk hW hH hW12 hH12 x y hx hy) ?_
  exact ev_ireturn (ty := .int) dX5_spot_35 rfl rfl ⟨rfl, rfl, rfl, rfl⟩
set_option maxRecDepth 100000 in
set_option maxHeartbeats 4000000 in
theorem t_X5_flaw_k {sh : SH} {mi : MI} {mr : MR} (hB : ba_c sh mr) (ns : Nat) (hns : mi 0 6 = nI ns) (hns6 : ns ≤ 6) (s : Nat) (hs : s < ns) {q W H : Nat} (hq : mr 21 s = some q) (hk : sk_c sh mr q (W * H)) (hW : mi q 1 = nI W) (hH : mi q 2 = nI H) (hW12 : W ≤ 12) (hH12 : H ≤ 12) (g : Nat → Nat → Int32) (hg : ∀ x y, x < W → y < H → mi (q + 1) (y * W + x) = g x y) (x y : Nat) (hx : x < W) (hy : y < H) : EV none 2 0 0 mX5_flaw 0 (en_l mX5_flaw [pv_r 0, pv_i (nI s), pv_i (nI x), pv_i (nI y)]) [] sh mi mr (fun v_ sh_ mi_ mr_ => sh_ = sh ∧ mr_ = mr ∧ ((¬ mi (q + 1) (y * W + x) = 0 ∧ v_ = some (pv_i (-4)) ∧ mi_ = mi) ∨ (mi (q + 1) (y * W + x) = 0 ∧ v_ = some (pv_i 1) ∧ gd_c (q + 1) (fun a b => b * W + a) W H (fi_g g x y 1 1 1) mi mi_))) := by
  show EV none 2 0 0 mX5_flaw 0 [some (pv_r 0), some (pv_i (nI s)), some (pv_i (nI x)), some (pv_i (nI y)), none] [] sh mi mr _
  refine ev_aload_n dX5_flaw_0 rfl ?_
  refine ev_iload_n dX5_flaw_1 rfl ?_
  refine ev_v1q dX5_flaw_2 cv_X5_198 (hB.1 0 _ rfl) (Nat.le_of_ble_eq_true rfl) (by decide) (t_X5_skinAt_k hB ns hns hns6 s hs hq hk) ?_
  refine ev_astore dX5_flaw_5 (by decide) ?_
  refine ev_aload dX5_flaw_7 rfl ?_
  refine ev_ifnonnull_s (tgt := 15) dX5_flaw_9 rfl ?_
  refine ev_aload dX5_flaw_15 rfl ?_
  refine ev_iload_n dX5_flaw_17 rfl ?_
  refine ev_iload_n dX5_flaw_18 rfl ?_
  refine ev_v2i dX5_flaw_19 cv_X5_202 hk.1 (Nat.le_of_ble_eq_true rfl) (by decide) (t_X3_hasPlace hk _ _) ?_
  refine ev_if_ne_t (tgt := 28) dX5_flaw_22 rfl (by rw [bi_1 ⟨by rw [hW]; exact (i_cases (by omega)).mpr ⟨x, hx, rfl⟩, by rw [hH]; exact (i_cases (by omega)).mpr ⟨y, hy, rfl⟩⟩]; decide) ?_
  refine ev_aload dX5_flaw_28 rfl ?_
  refine ev_iload_n dX5_flaw_30 rfl ?_
  refine ev_iload_n dX5_flaw_31 rfl ?_
  refine ev_v2i dX5_flaw_32 cv_X5_204 hk.1 (Nat.le_of_ble_eq_true rfl) (by decide) (t_X3_stateOf hk hW hH hW12 hH12 x y hx hy) ?_
  refine ev_if_eq (tgt := 41) dX5_flaw_35 rfl (fun h35 => ?_) (fun h35 => ?_)
  · refine ev_aload dX5_flaw_41 rfl ?_
    refine ev_iload_n dX5_flaw_43 rfl ?_
    refine ev_iload_n dX5_flaw_44 rfl ?_
    refine ev_iconst (v := 1) dX5_flaw_45 rfl ?_
    refine ev_iconst (v := 1) dX5_flaw_46 rfl ?_
    refine ev_iconst (v := 1) dX5_flaw_47 rfl ?_
    refine ev_callv (av := [pv_i (nI x), pv_i (nI y), pv_i 1, pv_i 1, pv_i 1]) dX5_flaw_48 cv_X5_207 hk.1 rfl rfl (Nat.le_of_ble_eq_true rfl) (by decide) (Or.inl (fun v_ s_ m_ r_ h_ => by rw [h_.2.1])) (Nat.zero_add _) (Nat.zero_add _) (t_X3_fill hk hW hH hW12 hH12 g hg x y 1 1 (by omega) (by omega) (by decide) (by decide) 1 (by omega) (by omega)) ?_
    rintro v_ sh_ m1 mr_ ⟨e1_, e2_, e3_, hG⟩
    subst e1_
    have e2_ := e2_.symm
    subst e2_
    have e3_ := e3_.symm
    subst e3_
    refine ev_iconst (v := 1) dX5_flaw_51 rfl ?_
    exact ev_ireturn (ty := .int) dX5_flaw_52 rfl rfl ⟨rfl, rfl, Or.inr ⟨h35, rfl, hG⟩⟩
  · refine ev_bipush (v := (-4)) dX5_flaw_38 rfl ?_
    exact ev_ireturn (ty := .int) dX5_flaw_40 rfl rfl ⟨rfl, rfl, Or.inl ⟨h35, rfl, rfl⟩⟩
set_option maxRecDepth 100000 in
set_option maxHeartbeats 4000000 in
theorem t_X5_cut_o {sh : SH} {mi : MI} {mr : MR} (hB : ba_c sh mr) (ns : Nat) (hns : mi 0 6 = nI ns) (hns6 : ns ≤ 6) (s : Nat) (hs : s < ns) {q W H : Nat} (hq : mr 21 s = some q) (hk : sk_c sh mr q (W * H)) (p2 p3 : Int32) (hv : ¬ ((1 ≤ p2 ∧ p2 ≤ 12) ∧ 1 ≤ p3 ∧ p3 ≤ 12)) : EV none 3 0 0 mX5_cut 0 (en_l mX5_cut [pv_r 0, pv_i (nI s), pv_i p2, pv_i p3]) [] sh mi mr (ok_r sh mr (-3) mi) := by
  show EV none 3 0 0 mX5_cut 0 [some (pv_r 0), some (pv_i (nI s)), some (pv_i p2), some (pv_i p3), none, none] [] sh mi mr _
  refine ev_aload_n dX5_cut_0 rfl ?_
  refine ev_iload_n dX5_cut_1 rfl ?_
  refine ev_v1q dX5_cut_2 cv_X5_198 (hB.1 0 _ rfl) (Nat.le_of_ble_eq_true rfl) (by decide) (t_X5_skinAt_k hB ns hns hns6 s hs hq hk) ?_
  refine ev_astore dX5_cut_5 (by decide) ?_
  refine ev_aload dX5_cut_7 rfl ?_
  refine ev_ifnonnull_s (tgt := 15) dX5_cut_9 rfl ?_
  refine ev_iload_n dX5_cut_15 rfl ?_
  refine ev_iload_n dX5_cut_16 rfl ?_
  refine ev_s2i dX5_cut_17 cs_X5_192 (Nat.le_of_ble_eq_true rfl) (by decide) (t_X5_isSize _ _) ?_
  refine ev_if_ne_f (tgt := 26) dX5_cut_20 rfl (bi_f hv) ?_
  refine ev_bipush (v := (-3)) dX5_cut_23 rfl ?_
  exact ev_ireturn (ty := .int) dX5_cut_25 rfl rfl ⟨rfl, rfl, rfl, rfl⟩
theorem cu_lt {W H : Nat} {g : Nat → Nat → Int32} {w h x y : Nat} {t : Bool} (hW : W ≤ 12) (hH : H ≤ 12) (h1 : cu_g W H g w h x y t) : cu_n x y t < 20000 := by
  have h2 := h1.1
  have h3 := h1.2.1
  unfold cu_n
  split <;> omega
set_option maxRecDepth 100000 in
set_option maxHeartbeats 4000000 in
theorem t_X5_cut_k {sh : SH} {mi : MI} {mr : MR} (hB : ba_c sh mr) (ns : Nat) (hns : mi 0 6 = nI ns) (hns6 : ns ≤ 6) (s : Nat) (hs : s < ns) {q W H : Nat} (hq : mr 21 s = some q) (hk : sk_c sh mr q (W * H)) (hW : mi q 1 = nI W) (hH : mi q 2 = nI H) (hW12 : W ≤ 12) (hH12 : H ≤ 12) (g : Nat → Nat → Int32) (hg : ∀ x y, x < W → y < H → mi (q + 1) (y * W + x) = g x y) (w h : Nat) (hw : w ≤ 12) (hh : h ≤ 12) (hw1 : 1 ≤ w) (hh1 : 1 ≤ h) (C : Nat) (hC : mi q 4 = nI C) : EV none 3 0 0 mX5_cut 0 (en_l mX5_cut [pv_r 0, pv_i (nI s), pv_i (nI w), pv_i (nI h)]) [] sh mi mr (fun v_ sh_ mi_ mr_ => sh_ = sh ∧ mr_ = mr ∧ ((no_g W H g w h ∧ v_ = some (pv_i (-4)) ∧ mi_ = mi) ∨ (∃ x y t, cu_g W H g w h x y t ∧ v_ = some (pv_i (nI (cu_n x y t))) ∧ (∀ a c, a ≠ q + 1 → ¬ (a = q ∧ c = 4) → mi_ a c = mi a c) ∧ mi_ q 4 = nI (C + 1) ∧ (∀ a b, a < W → b < H → mi_ (q + 1) (b * W + a) = cu_f g w h x y t (nI (2 + C)) a b)))) := by
  show EV none 3 0 0 mX5_cut 0 [some (pv_r 0), some (pv_i (nI s)), some (pv_i (nI w)), some (pv_i (nI h)), none, none] [] sh mi mr _
  refine ev_aload_n dX5_cut_0 rfl ?_
  refine ev_iload_n dX5_cut_1 rfl ?_
  refine ev_v1q dX5_cut_2 cv_X5_198 (hB.1 0 _ rfl) (Nat.le_of_ble_eq_true rfl) (by decide) (t_X5_skinAt_k hB ns hns hns6 s hs hq hk) ?_
  refine ev_astore dX5_cut_5 (by decide) ?_
  refine ev_aload dX5_cut_7 rfl ?_
  refine ev_ifnonnull_s (tgt := 15) dX5_cut_9 rfl ?_
  refine ev_iload_n dX5_cut_15 rfl ?_
  refine ev_iload_n dX5_cut_16 rfl ?_
  refine ev_s2i dX5_cut_17 cs_X5_192 (Nat.le_of_ble_eq_true rfl) (by decide) (t_X5_isSize _ _) ?_
  refine ev_if_ne_t (tgt := 26) dX5_cut_20 rfl (by rw [bi_1 (show ((1 : Int32) ≤ nI w ∧ nI w ≤ 12) ∧ (1 : Int32) ≤ nI h ∧ nI h ≤ 12 from ⟨i_lh (lo := 1) (hi := 12) hw1 hw (by decide), i_lh (lo := 1) (hi := 12) hh1 hh (by decide)⟩)]; decide) ?_
  refine ev_aload dX5_cut_26 rfl ?_
  refine ev_iload_n dX5_cut_28 rfl ?_
  refine ev_iload_n dX5_cut_29 rfl ?_
  refine ev_callv (av := [pv_i (nI w), pv_i (nI h)]) dX5_cut_30 cv_X5_211 hk.1 rfl rfl (Nat.le_of_ble_eq_true rfl) (by decide) (Or.inl (fun v_ s_ m_ r_ h_ => by rw [h_.1])) (Nat.zero_add _) (Nat.zero_add _) (t_X3_cutCover hk hW hH hW12 hH12 g hg w h hw hh C hC) ?_
  rintro v_ sh_ m1 mr_ ⟨e2_, e3_, h_⟩
  have e2_ := e2_.symm
  subst e2_
  have e3_ := e3_.symm
  subst e3_
  rcases h_ with ⟨hno, e1_, e4_⟩ | ⟨x, y, t, hcu, e1_, hA, hA2, hA3⟩
  · subst e1_
    have e4_ := e4_.symm
    subst e4_
    refine ev_istore dX5_cut_33 (by decide) ?_
    refine ev_iload dX5_cut_35 rfl ?_
    refine ev_iconst (v := (-1)) dX5_cut_37 rfl ?_
    refine ev_icmp_ne_f (tgt := 46) dX5_cut_38 rfl (by decide) ?_
    refine ev_bipush (v := (-4)) dX5_cut_41 rfl ?_
    refine ev_goto (tgt := 48) dX5_cut_43 rfl ?_
    exact ev_ireturn (ty := .int) dX5_cut_48 rfl rfl ⟨rfl, rfl, Or.inl ⟨hno, rfl, rfl⟩⟩
  · subst e1_
    refine ev_istore dX5_cut_33 (by decide) ?_
    refine ev_iload dX5_cut_35 rfl ?_
    refine ev_iconst (v := (-1)) dX5_cut_37 rfl ?_
    refine ev_icmp_ne_t (tgt := 46) dX5_cut_38 rfl (nI_m1 (by have := cu_lt hW12 hH12 hcu; omega)) ?_
    refine ev_iload dX5_cut_46 rfl ?_
    exact ev_ireturn (ty := .int) dX5_cut_48 rfl rfl ⟨rfl, rfl, Or.inr ⟨x, y, t, hcu, rfl, hA, hA2, hA3⟩⟩
