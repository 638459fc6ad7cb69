/-- a skin's places as a grid: free rectangles, a rectangle filled -/
def fr_g (g : Nat → Nat → Int32) (x y w h : Nat) : Prop := ∀ i j, x ≤ i → i < x + w → y ≤ j → j < y + h → g i j = 0
def ft_g (W H : Nat) (g : Nat → Nat → Int32) (x y w h : Nat) : Prop := x + w ≤ W ∧ y + h ≤ H ∧ fr_g g x y w h
def fi_g (g : Nat → Nat → Int32) (x y w h : Nat) (v : Int32) : Nat → Nat → Int32 := fun i j => if x ≤ i ∧ i < x + w ∧ y ≤ j ∧ j < y + h then v else g i j
/-- of the filling, what is done at row r and column c -/
def pf_g (g : Nat → Nat → Int32) (x y w : Nat) (v : Int32) (r c : Nat) : Nat → Nat → Int32 := fun i j => if (x ≤ i ∧ i < x + w ∧ y ≤ j ∧ j < r) ∨ (j = r ∧ x ≤ i ∧ i < c) then v else g i j
/-- the grid g stands in cell kc by the places f; outside it nothing differs from mi -/
def gd_c (kc : Nat) (f : Nat → Nat → Nat) (W H : Nat) (g : Nat → Nat → Int32) (mi m : MI) : Prop := ag_1 kc mi m ∧ (∀ x y, x < W → y < H → m kc (f x y) = g x y) ∧ ∀ c, (∀ a b, a < W → b < H → c ≠ f a b) → m kc c = mi kc c
theorem gd_up {kc : Nat} {f : Nat → Nat → Nat} {W H : Nat} {g g2 : Nat → Nat → Int32} {mi m : MI} {i j : Nat} {v : Int32} (hf : ∀ a b, a < W → b < H → f a b = f i j → a = i ∧ b = j) (h : gd_c kc f W H g mi m) (hi : i < W) (hj : j < H) (h2 : ∀ a b, a < W → b < H → g2 a b = if a = i ∧ b = j then v else g a b) : gd_c kc f W H g2 mi (up_2 m kc (f i j) v) := by
  refine ⟨ag_up h.1, fun x y hx hy => ?_, fun c hc => ?_⟩
  · rw [h2 x y hx hy]
    by_cases e : x = i ∧ y = j
    · rw [if_pos e, e.1, e.2, up_at]
    · rw [if_neg e, up_ne (Or.inr (fun q => e (hf x y hx hy q)))]
      exact h.2.1 x y hx hy
  · rw [up_ne (Or.inr (hc i j hi hj))]
    exact h.2.2 c hc
theorem gd_eq {kc : Nat} {f : Nat → Nat → Nat} {W H : Nat} {g g2 : Nat → Nat → Int32} {mi m : MI} (h : gd_c kc f W H g mi m) (h2 : ∀ a b, a < W → b < H → g2 a b = g a b) : gd_c kc f W H g2 mi m := ⟨h.1, fun x y hx hy => (h.2.1 x y hx hy).trans (h2 x y hx hy).symm, h.2.2⟩
theorem ix_lt {W H i j : Nat} (hi : i < W) (hj : j < H) : j * W + i < W * H := by
  have h1 : (j + 1) * W ≤ H * W := Nat.mul_le_mul_right W hj
  rw [Nat.mul_comm W H]
  rw [Nat.succ_mul] at h1
  omega
theorem ix_in {W a b i j : Nat} (ha : a < W) (hi : i < W) (h : b * W + a = j * W + i) : a = i ∧ b = j := by
  have hb : b = j := by
    rcases Nat.lt_trichotomy b j with q | q | q
    · have h1 : (b + 1) * W ≤ j * W := Nat.mul_le_mul_right W q
      rw [Nat.succ_mul] at h1
      omega
    · exact q
    · have h1 : (j + 1) * W ≤ b * W := Nat.mul_le_mul_right W q
      rw [Nat.succ_mul] at h1
      omega
  subst hb
  exact ⟨by omega, rfl⟩
theorem WH_b {W H : Nat} (hW : W ≤ 12) (hH : H ≤ 12) : W * H < 2 ^ 31 := Nat.lt_of_le_of_lt (Nat.mul_le_mul hW hH) (by decide)
set_option maxRecDepth 100000 in
set_option maxHeartbeats 4000000 in
theorem t_X3_hasPlace {sh : SH} {mi : MI} {mr : MR} {q W H : Nat} (hk : sk_c sh mr q (W * H)) (p1 p2 : Int32) : EV none 1 0 0 mX3_hasPlace 0 (en_l mX3_hasPlace [pv_r q, pv_i p1, pv_i p2]) [] sh mi mr (ok_r sh mr (bi ((0 ≤ p1 ∧ p1 ≤ (mi q 1) - 1) ∧ 0 ≤ p2 ∧ p2 ≤ (mi q 2) - 1)) mi) := by
  show EV none 1 0 0 mX3_hasPlace 0 [some (pv_r q), some (pv_i p1), some (pv_i p2)] [] sh mi mr _
  refine ev_iload_n dX3_hasPlace_0 rfl ?_
  refine ev_iconst (v := 0) dX3_hasPlace_1 rfl ?_
  refine ev_aload_n dX3_hasPlace_2 rfl ?_
  refine ev_geti dX3_hasPlace_3 fl_X3_18 rfl hk.1 ?_
  refine ev_iconst (v := 1) dX3_hasPlace_6 rfl ?_
  refine ev_isub dX3_hasPlace_7 ?_
  refine ev_t3i dX3_hasPlace_8 cn_X3_31 (Nat.le_of_ble_eq_true rfl) (by decide) (t_X5_within _ _ _) ?_
  refine ev_ifb_eq (tgt := 32) dX3_hasPlace_11 rfl (fun h11 => ?_) (fun h11 => ?_)
  · refine ev_iconst (v := 0) dX3_hasPlace_32 rfl ?_
    exact ev_ireturn (ty := .boolean) dX3_hasPlace_33 rfl rfl ⟨congrArg (fun z => some (pv_i z)) (bi_f (fun q => h11 q.1)).symm, rfl, rfl, rfl⟩
  · refine ev_iload_n dX3_hasPlace_14 rfl ?_
    refine ev_iconst (v := 0) dX3_hasPlace_15 rfl ?_
    refine ev_aload_n dX3_hasPlace_16 rfl ?_
    refine ev_geti dX3_hasPlace_17 fl_X3_21 rfl hk.1 ?_
    refine ev_iconst (v := 1) dX3_hasPlace_20 rfl ?_
    refine ev_isub dX3_hasPlace_21 ?_
    refine ev_t3i dX3_hasPlace_22 cn_X3_31 (Nat.le_of_ble_eq_true rfl) (by decide) (t_X5_within _ _ _) ?_
    refine ev_ifb_eq (tgt := 32) dX3_hasPlace_25 rfl (fun h25 => ?_) (fun h25 => ?_)
    · refine ev_iconst (v := 0) dX3_hasPlace_32 rfl ?_
      exact ev_ireturn (ty := .boolean) dX3_hasPlace_33 rfl rfl ⟨congrArg (fun z => some (pv_i z)) (bi_f (fun q => h25 q.2)).symm, rfl, rfl, rfl⟩
    · refine ev_iconst (v := 1) dX3_hasPlace_28 rfl ?_
      refine ev_goto (tgt := 33) dX3_hasPlace_29 rfl ?_
      exact ev_ireturn (ty := .boolean) dX3_hasPlace_33 rfl rfl ⟨congrArg (fun z => some (pv_i z)) (bi_1 ⟨h11, h25⟩).symm, rfl, rfl, rfl⟩
set_option maxRecDepth 100000 in
set_option maxHeartbeats 4000000 in
theorem t_X3_stateOf {sh : SH} {mi : MI} {mr : MR} {q W H : Nat} (hk : sk_c sh mr q (W * H)) (hW : mi q 1 = nI W) (hH : mi q 2 = nI H) (hW12 : W ≤ 12) (hH12 : H ≤ 12) (x y : Nat) (hx : x < W) (hy : y < H) : EV none 0 0 0 mX3_stateOf 0 (en_l mX3_stateOf [pv_r q, pv_i (nI x), pv_i (nI y)]) [] sh mi mr (ok_r sh mr (mi (q + 1) (y * W + x)) mi) := by
  show EV none 0 0 0 mX3_stateOf 0 [some (pv_r q), some (pv_i (nI x)), some (pv_i (nI y))] [] sh mi mr _
  refine ev_aload_n dX3_stateOf_0 rfl ?_
  refine ev_getq dX3_stateOf_1 fl_X3_27 rfl hk.1 hk.2.1 ?_
  refine ev_iload_n dX3_stateOf_4 rfl ?_
  refine ev_aload_n dX3_stateOf_5 rfl ?_
  refine ev_geti dX3_stateOf_6 fl_X3_18 rfl hk.1 ?_
  refine ev_imul dX3_stateOf_9 ?_
  refine ev_iload_n dX3_stateOf_10 rfl ?_
  refine ev_iadd dX3_stateOf_11 ?_
  refine ev_iald dX3_stateOf_12 hk.2.2 (j := y * W + x) (by rw [hW, pk_mul, nI_add]) (ix_lt (by omega) (by omega)) (WH_b hW12 hH12) ?_
  exact ev_ireturn (ty := .int) dX3_stateOf_13 rfl rfl ⟨rfl, rfl, rfl, rfl⟩
set_option maxRecDepth 100000 in
set_option maxHeartbeats 4000000 in
theorem lp_X3_isFree2 {sh : SH} {mi : MI} {mr : MR} {q W H : Nat} (hk : sk_c sh mr q (W * H)) (hW : mi q 1 = nI W) (hH : mi q 2 = nI H) (hW12 : W ≤ 12) (hH12 : H ≤ 12) (g : Nat → Nat → Int32) (hg : ∀ x y, x < W → y < H → mi (q + 1) (y * W + x) = g x y) (x y w h : Nat) (hx : x < 12) (hy : y < 12) (hw : w ≤ 12) (hh : h ≤ 12) (hxw : x + w ≤ W) (hyh : y + h ≤ H) (r : Nat) (hr1 : y ≤ r) (hr : r < y + h) (hc : (∀ a, x ≤ a → a < x + w → g a r = 0) → EV none 0 0 0 mX3_isFree 72 [some (pv_r q), some (pv_i (nI x)), some (pv_i (nI y)), some (pv_i (nI w)), some (pv_i (nI h)), some (pv_i (nI r)), none] [] sh mi mr (fun v_ sh_ mi_ mr_ => (ft_g W H g x y w h ∧ (ok_r sh mr 1 mi) v_ sh_ mi_ mr_) ∨ (¬ ft_g W H g x y w h ∧ (ok_r sh mr 0 mi) v_ sh_ mi_ mr_))) : ∀ i, i ≤ x + w → x ≤ i → (∀ a, x ≤ a → a < i → g a r = 0) → EV none 0 0 0 mX3_isFree 38 [some (pv_r q), some (pv_i (nI x)), some (pv_i (nI y)), some (pv_i (nI w)), some (pv_i (nI h)), some (pv_i (nI r)), some (pv_i (nI i))] [] sh mi mr (fun v_ sh_ mi_ mr_ => (ft_g W H g x y w h ∧ (ok_r sh mr 1 mi) v_ sh_ mi_ mr_) ∨ (¬ ft_g W H g x y w h ∧ (ok_r sh mr 0 mi) v_ sh_ mi_ mr_)) := by
  refine lp_i (x + w) (fun i hi ih => ?_)
  intro hxi hz
  refine ev_iload dX3_isFree_38 rfl ?_
  refine ev_iload_n dX3_isFree_40 rfl ?_
  refine ev_iload_n dX3_isFree_41 rfl ?_
  refine ev_iadd dX3_isFree_42 ?_
  refine ev_icmp_ge (tgt := 72) dX3_isFree_43 rfl (fun h43 => ?_) (fun h43 => ?_)
  · have hin : x + w ≤ i := (nl_le (nI_add x w) (b := i) rfl (by omega) (by omega)).mp h43
    exact ev_fg 6 (hc (fun a h1 h2 => hz a h1 (by omega)))
  · have hlt : i < x + w := by have := (not_congr (nl_le (nI_add x w) (b := i) rfl (by omega) (by omega))).mp h43; omega
    refine ev_aload_n dX3_isFree_46 rfl ?_
    refine ev_getq dX3_isFree_47 fl_X3_27 rfl hk.1 hk.2.1 ?_
    refine ev_iload dX3_isFree_50 rfl ?_
    refine ev_aload_n dX3_isFree_52 rfl ?_
    refine ev_geti dX3_isFree_53 fl_X3_18 rfl hk.1 ?_
    refine ev_imul dX3_isFree_56 ?_
    refine ev_iload dX3_isFree_57 rfl ?_
    refine ev_iadd dX3_isFree_59 ?_
    refine ev_iald dX3_isFree_60 hk.2.2 (j := r * W + i) (by rw [hW, pk_mul, nI_add]) (ix_lt (by omega) (by omega)) (WH_b hW12 hH12) ?_
    refine ev_if_eq (tgt := 66) dX3_isFree_61 rfl (fun h61 => ?_) (fun h61 => ?_)
    · refine ev_iincN dX3_isFree_66 rfl (by decide) ?_
      refine ev_goto (tgt := 38) dX3_isFree_69 rfl ?_
      exact ih hlt (by omega) (fun a h1 h2 => by
        by_cases e : a = i
        · subst e; rw [← hg a r (by omega) (by omega)]; exact h61
        · exact hz a h1 (by omega))
    · refine ev_iconst (v := 0) dX3_isFree_64 rfl ?_
      exact ev_ireturn (ty := .boolean) dX3_isFree_65 rfl rfl (Or.inr ⟨fun q => h61 (by rw [hg i r (by omega) (by omega)]; exact q.2.2 i r hxi (by omega) hr1 (by omega)), rfl, rfl, rfl, rfl⟩)
set_option maxRecDepth 100000 in
set_option maxHeartbeats 4000000 in
theorem lp_X3_isFree1 {sh : SH} {mi : MI} {mr : MR} {q W H : Nat} (hk : sk_c sh mr q (W * H)) (hW : mi q 1 = nI W) (hH : mi q 2 = nI H) (hW12 : W ≤ 12) (hH12 : H ≤ 12) (g : Nat → Nat → Int32) (hg : ∀ x y, x < W → y < H → mi (q + 1) (y * W + x) = g x y) (x y w h : Nat) (hx : x < 12) (hy : y < 12) (hw : w ≤ 12) (hh : h ≤ 12) (hxw : x + w ≤ W) (hyh : y + h ≤ H) : ∀ r, r ≤ y + h → y ≤ r → (∀ a c, x ≤ a → a < x + w → y ≤ c → c < r → g a c = 0) → EV none 0 0 0 mX3_isFree 26 [some (pv_r q), some (pv_i (nI x)), some (pv_i (nI y)), some (pv_i (nI w)), some (pv_i (nI h)), some (pv_i (nI r)), none] [] sh mi mr (fun v_ sh_ mi_ mr_ => (ft_g W H g x y w h ∧ (ok_r sh mr 1 mi) v_ sh_ mi_ mr_) ∨ (¬ ft_g W H g x y w h ∧ (ok_r sh mr 0 mi) v_ sh_ mi_ mr_)) := by
  refine lp_i (y + h) (fun r hr ih => ?_)
  intro hr1 hz
  refine ev_iload dX3_isFree_26 rfl ?_
  refine ev_iload_n dX3_isFree_28 rfl ?_
  refine ev_iload dX3_isFree_29 rfl ?_
  refine ev_iadd dX3_isFree_31 ?_
  refine ev_icmp_ge (tgt := 78) dX3_isFree_32 rfl (fun h32 => ?_) (fun h32 => ?_)
  · have hin : y + h ≤ r := (nl_le (nI_add y h) (b := r) rfl (by omega) (by omega)).mp h32
    refine ev_iconst (v := 1) dX3_isFree_78 rfl ?_
    exact ev_ireturn (ty := .boolean) dX3_isFree_79 rfl rfl (Or.inl ⟨⟨hxw, hyh, fun i j h1 h2 h3 h4 => hz i j h1 h2 h3 (by omega)⟩, rfl, rfl, rfl, rfl⟩)
  · have hlt : r < y + h := by have := (not_congr (nl_le (nI_add y h) (b := r) rfl (by omega) (by omega))).mp h32; omega
    refine ev_iload_n dX3_isFree_35 rfl ?_
    refine ev_istore dX3_isFree_36 (by decide) ?_
    refine lp_X3_isFree2 hk hW hH hW12 hH12 g hg x y w h hx hy hw hh hxw hyh r hr1 (by omega) (fun hz2 => ?_) x (by omega) (Nat.le_refl x) (fun a h1 h2 => by omega)
    refine ev_iincN dX3_isFree_72 rfl (by decide) ?_
    refine ev_goto (tgt := 26) dX3_isFree_75 rfl ?_
    exact ih (by omega) (by omega) (fun a c h1 h2 h3 h4 => by
      by_cases e : c = r
      · subst e; exact hz2 a h1 h2
      · exact hz a c h1 h2 h3 (by omega))
set_option maxRecDepth 100000 in
set_option maxHeartbeats 4000000 in
theorem t_X3_isFree {sh : SH} {mi : MI} {mr : MR} {q W H : Nat} (hk : sk_c sh mr q (W * H)) (hW : mi q 1 = nI W) (hH : mi q 2 = nI H) (hW12 : W ≤ 12) (hH12 : H ≤ 12) (g : Nat → Nat → Int32) (hg : ∀ x y, x < W → y < H → mi (q + 1) (y * W + x) = g x y) (x y w h : Nat) (hx : x < 12) (hy : y < 12) (hw : w ≤ 12) (hh : h ≤ 12) : EV none 0 0 0 mX3_isFree 0 (en_l mX3_isFree [pv_r q, pv_i (nI x), pv_i (nI y), pv_i (nI w), pv_i (nI h)]) [] sh mi mr (fun v_ sh_ mi_ mr_ => (ft_g W H g x y w h ∧ (ok_r sh mr 1 mi) v_ sh_ mi_ mr_) ∨ (¬ ft_g W H g x y w h ∧ (ok_r sh mr 0 mi) v_ sh_ mi_ mr_)) := by
  show EV none 0 0 0 mX3_isFree 0 [some (pv_r q), some (pv_i (nI x)), some (pv_i (nI y)), some (pv_i (nI w)), some (pv_i (nI h)), none, none] [] sh mi mr _
  refine ev_iload_n dX3_isFree_0 rfl ?_
  refine ev_iload_n dX3_isFree_1 rfl ?_
  refine ev_iadd dX3_isFree_2 ?_
  refine ev_aload_n dX3_isFree_3 rfl ?_
  refine ev_geti dX3_isFree_4 fl_X3_18 rfl hk.1 ?_
  refine ev_icmp_gt (tgt := 21) dX3_isFree_7 rfl (fun h7 => ?_) (fun h7 => ?_)
  · refine ev_iconst (v := 0) dX3_isFree_21 rfl ?_
    exact ev_ireturn (ty := .boolean) dX3_isFree_22 rfl rfl (Or.inr ⟨fun q => absurd ((nl_lt hW (nI_add x w) (by omega) (by omega)).mp h7) (by have := q.1; omega), rfl, rfl, rfl, rfl⟩)
  · refine ev_iload_n dX3_isFree_10 rfl ?_
    refine ev_iload dX3_isFree_11 rfl ?_
    refine ev_iadd dX3_isFree_13 ?_
    refine ev_aload_n dX3_isFree_14 rfl ?_
    refine ev_geti dX3_isFree_15 fl_X3_21 rfl hk.1 ?_
    refine ev_icmp_le (tgt := 23) dX3_isFree_18 rfl (fun h18 => ?_) (fun h18 => ?_)
    · refine ev_iload_n dX3_isFree_23 rfl ?_
      refine ev_istore dX3_isFree_24 (by decide) ?_
      exact lp_X3_isFree1 hk hW hH hW12 hH12 g hg x y w h hx hy hw hh (by have := (not_congr (nl_lt hW (nI_add x w) (by omega) (by omega))).mp h7; omega) ((nl_le (nI_add y h) hH (by omega) (by omega)).mp h18) y (by omega) (Nat.le_refl y) (fun a c h1 h2 h3 h4 => by omega)
    · refine ev_iconst (v := 0) dX3_isFree_21 rfl ?_
      exact ev_ireturn (ty := .boolean) dX3_isFree_22 rfl rfl (Or.inr ⟨fun q => h18 ((nl_le (nI_add y h) hH (by omega) (by omega)).mpr q.2.1), rfl, rfl, rfl, rfl⟩)
theorem pf_step {g : Nat → Nat → Int32} {x y w r i : Nat} {v : Int32} (hi : x ≤ i) (a b : Nat) : pf_g g x y w v r (i + 1) a b = if a = i ∧ b = r then v else pf_g g x y w v r i a b := by
  simp only [pf_g]
  by_cases h1 : a = i ∧ b = r
  · rw [if_pos (by omega), if_pos h1]
  · rw [if_neg h1]
    by_cases h2 : (x ≤ a ∧ a < x + w ∧ y ≤ b ∧ b < r) ∨ (b = r ∧ x ≤ a ∧ a < i)
    · rw [if_pos (by omega), if_pos h2]
    · rw [if_neg (by omega), if_neg h2]
theorem pf_row {g : Nat → Nat → Int32} {x y w r : Nat} {v : Int32} (hr : y ≤ r) (a b : Nat) : pf_g g x y w v (r + 1) x a b = pf_g g x y w v r (x + w) a b := by
  simp only [pf_g]
  by_cases h2 : (x ≤ a ∧ a < x + w ∧ y ≤ b ∧ b < r) ∨ (b = r ∧ x ≤ a ∧ a < x + w)
  · rw [if_pos (by omega), if_pos h2]
  · rw [if_neg (by omega), if_neg h2]
theorem pf_0 {g : Nat → Nat → Int32} {x y w : Nat} {v : Int32} (a b : Nat) : pf_g g x y w v y x a b = g a b := by
  simp only [pf_g]
  rw [if_neg (by omega)]
theorem pf_all {g : Nat → Nat → Int32} {x y w h : Nat} {v : Int32} (a b : Nat) : fi_g g x y w h v a b = pf_g g x y w v (y + h) x a b := by
  simp only [pf_g, fi_g]
  by_cases h2 : x ≤ a ∧ a < x + w ∧ y ≤ b ∧ b < y + h
  · rw [if_pos h2, if_pos (by omega)]
  · rw [if_neg h2, if_neg (by omega)]
set_option maxRecDepth 100000 in
set_option maxHeartbeats 4000000 in
theorem lp_X3_fill2 {sh : SH} {mi : MI} {mr : MR} {q W H : Nat} (hk : sk_c sh mr q (W * H)) (hW : mi q 1 = nI W) (hH : mi q 2 = nI H) (hW12 : W ≤ 12) (hH12 : H ≤ 12) (g : Nat → Nat → Int32) (x y w h : Nat) (hx : x < 12) (hy : y < 12) (hw : w ≤ 12) (hh : h ≤ 12) (p5 : Int32) (hxw : x + w ≤ W) (hyh : y + h ≤ H) (r : Nat) (hr1 : y ≤ r) (hr : r < y + h) (hc : ∀ m, gd_c (q + 1) (fun a b => b * W + a) W H (pf_g g x y w p5 r (x + w)) mi m → EV none 0 0 0 mX3_fill 46 [some (pv_r q), some (pv_i (nI x)), some (pv_i (nI y)), some (pv_i (nI w)), some (pv_i (nI h)), some (pv_i p5), some (pv_i (nI r)), none] [] sh m mr (fun v_ sh_ mi_ mr_ => v_ = none ∧ sh_ = sh ∧ mr_ = mr ∧ gd_c (q + 1) (fun a b => b * W + a) W H (fi_g g x y w h p5) mi mi_)) : ∀ i, i ≤ x + w → x ≤ i → ∀ m, gd_c (q + 1) (fun a b => b * W + a) W H (pf_g g x y w p5 r i) mi m → EV none 0 0 0 mX3_fill 15 [some (pv_r q), some (pv_i (nI x)), some (pv_i (nI y)), some (pv_i (nI w)), some (pv_i (nI h)), some (pv_i p5), some (pv_i (nI r)), some (pv_i (nI i))] [] sh m mr (fun v_ sh_ mi_ mr_ => v_ = none ∧ sh_ = sh ∧ mr_ = mr ∧ gd_c (q + 1) (fun a b => b * W + a) W H (fi_g g x y w h p5) mi mi_) := by
  refine lp_i (x + w) (fun i hi ih => ?_)
  intro hxi m hG
  refine ev_iload dX3_fill_15 rfl ?_
  refine ev_iload_n dX3_fill_17 rfl ?_
  refine ev_iload_n dX3_fill_18 rfl ?_
  refine ev_iadd dX3_fill_19 ?_
  refine ev_icmp_ge (tgt := 46) dX3_fill_20 rfl (fun h20 => ?_) (fun h20 => ?_)
  · have hin : x + w ≤ i := (nl_le (nI_add x w) (b := i) rfl (by omega) (by omega)).mp h20
    have e : i = x + w := by omega
    subst e
    exact ev_fg 7 (hc m hG)
  · have hlt : i < x + w := by have := (not_congr (nl_le (nI_add x w) (b := i) rfl (by omega) (by omega))).mp h20; omega
    refine ev_aload_n dX3_fill_23 rfl ?_
    refine ev_getq dX3_fill_24 fl_X3_27 rfl hk.1 hk.2.1 ?_
    refine ev_iload dX3_fill_27 rfl ?_
    refine ev_aload_n dX3_fill_29 rfl ?_
    refine ev_geti dX3_fill_30 fl_X3_18 rfl hk.1 ?_
    refine ev_imul dX3_fill_33 ?_
    refine ev_iload dX3_fill_34 rfl ?_
    refine ev_iadd dX3_fill_36 ?_
    refine ev_iload dX3_fill_37 rfl ?_
    refine ev_iast dX3_fill_39 hk.2.2 (j := r * W + i) (by rw [((hG.1 q 1 (by omega)).trans hW), pk_mul, nI_add]) (ix_lt (by omega) (by omega)) (WH_b hW12 hH12) ?_
    refine ev_iincN dX3_fill_40 rfl (by decide) ?_
    refine ev_goto (tgt := 15) dX3_fill_43 rfl ?_
    exact ih hlt (by omega) _ (gd_up (f := fun a b => b * W + a) (i := i) (j := r) (fun a b ha hb he => ix_in ha (by omega) he) hG (by omega) (by omega) (fun a b _ _ => pf_step hxi a b))
set_option maxRecDepth 100000 in
set_option maxHeartbeats 4000000 in
theorem lp_X3_fill1 {sh : SH} {mi : MI} {mr : MR} {q W H : Nat} (hk : sk_c sh mr q (W * H)) (hW : mi q 1 = nI W) (hH : mi q 2 = nI H) (hW12 : W ≤ 12) (hH12 : H ≤ 12) (g : Nat → Nat → Int32) (x y w h : Nat) (hx : x < 12) (hy : y < 12) (hw : w ≤ 12) (hh : h ≤ 12) (p5 : Int32) (hxw : x + w ≤ W) (hyh : y + h ≤ H) : ∀ r, r ≤ y + h → y ≤ r → ∀ m, gd_c (q + 1) (fun a b => b * W + a) W H (pf_g g x y w p5 r x) mi m → EV none 0 0 0 mX3_fill 3 [some (pv_r q), some (pv_i (nI x)), some (pv_i (nI y)), some (pv_i (nI w)), some (pv_i (nI h)), some (pv_i p5), some (pv_i (nI r)), none] [] sh m mr (fun v_ sh_ mi_ mr_ => v_ = none ∧ sh_ = sh ∧ mr_ = mr ∧ gd_c (q + 1) (fun a b => b * W + a) W H (fi_g g x y w h p5) mi mi_) := by
  refine lp_i (y + h) (fun r hr ih => ?_)
  intro hr1 m hG
  refine ev_iload dX3_fill_3 rfl ?_
  refine ev_iload_n dX3_fill_5 rfl ?_
  refine ev_iload dX3_fill_6 rfl ?_
  refine ev_iadd dX3_fill_8 ?_
  refine ev_icmp_ge (tgt := 52) dX3_fill_9 rfl (fun h9 => ?_) (fun h9 => ?_)
  · have hin : y + h ≤ r := (nl_le (nI_add y h) (b := r) rfl (by omega) (by omega)).mp h9
    exact ev_return dX3_fill_52 rfl ⟨rfl, rfl, rfl, gd_eq hG (fun a b _ _ => by rw [pf_all, show y + h = r by omega])⟩
  · have hlt : r < y + h := by have := (not_congr (nl_le (nI_add y h) (b := r) rfl (by omega) (by omega))).mp h9; omega
    refine ev_iload_n dX3_fill_12 rfl ?_
    refine ev_istore dX3_fill_13 (by decide) ?_
    refine lp_X3_fill2 hk hW hH hW12 hH12 g x y w h hx hy hw hh p5 hxw hyh r hr1 (by omega) (fun m2 hG2 => ?_) x (by omega) (Nat.le_refl x) m hG
    refine ev_iincN dX3_fill_46 rfl (by decide) ?_
    refine ev_goto (tgt := 3) dX3_fill_49 rfl ?_
    exact ih (by omega) (by omega) m2 (gd_eq hG2 (fun a b _ _ => pf_row hr1 a b))
set_option maxRecDepth 100000 in
set_option maxHeartbeats 4000000 in
theorem t_X3_fill {sh : SH} {mi : MI} {mr : MR} {q W H : Nat} (hk : sk_c sh mr q (W * H)) (hW : mi q 1 = nI W) (hH : mi q 2 = nI H) (hW12 : W ≤ 12) (hH12 : H ≤ 12) (g : Nat → Nat → Int32) (hg : ∀ x y, x < W → y < H → mi (q + 1) (y * W + x) = g x y) (x y w h : Nat) (hx : x < 12) (hy : y < 12) (hw : w ≤ 12) (hh : h ≤ 12) (p5 : Int32) (hxw : x + w ≤ W) (hyh : y + h ≤ H) : EV none 0 0 0 mX3_fill 0 (en_l mX3_fill [pv_r q, pv_i (nI x), pv_i (nI y), pv_i (nI w), pv_i (nI h), pv_i p5]) [] sh mi mr (fun v_ sh_ mi_ mr_ => v_ = none ∧ sh_ = sh ∧ mr_ = mr ∧ gd_c (q + 1) (fun a b => b * W + a) W H (fi_g g x y w h p5) mi mi_) := by
  show EV none 0 0 0 mX3_fill 0 [some (pv_r q), some (pv_i (nI x)), some (pv_i (nI y)), some (pv_i (nI w)), some (pv_i (nI h)), some (pv_i p5), none, none] [] sh mi mr _
  refine ev_iload_n dX3_fill_0 rfl ?_
  refine ev_istore dX3_fill_1 (by decide) ?_
  exact lp_X3_fill1 hk hW hH hW12 hH12 g x y w h hx hy hw hh p5 hxw hyh y (by omega) (Nat.le_refl y) mi ⟨fun _ _ _ => rfl, fun a b ha hb => by rw [pf_0]; exact hg a b ha hb, fun _ _ => rfl⟩
set_option maxRecDepth 100000 in
set_option maxHeartbeats 4000000 in
theorem t_X3_cutHere {sh : SH} {mi : MI} {mr : MR} {q W H : Nat} (hk : sk_c sh mr q (W * H)) (hW : mi q 1 = nI W) (hH : mi q 2 = nI H) (hW12 : W ≤ 12) (hH12 : H ≤ 12) (g : Nat → Nat → Int32) (hg : ∀ x y, x < W → y < H → mi (q + 1) (y * W + x) = g x y) (x y w h : Nat) (hx : x < 12) (hy : y < 12) (hw : w ≤ 12) (hh : h ≤ 12) (C : Nat) (hC : mi q 4 = nI C) : EV none 1 0 0 mX3_cutHere 0 (en_l mX3_cutHere [pv_r q, pv_i (nI x), pv_i (nI y), pv_i (nI w), pv_i (nI h)]) [] sh mi mr (fun v_ sh_ mi_ mr_ => sh_ = sh ∧ mr_ = mr ∧ ((¬ ft_g W H g x y w h ∧ v_ = some (pv_i 0) ∧ mi_ = mi) ∨ (ft_g W H g x y w h ∧ v_ = some (pv_i 1) ∧ (∀ a c, a ≠ q + 1 → ¬ (a = q ∧ c = 4) → mi_ a c = mi a c) ∧ mi_ q 4 = nI (C + 1) ∧ (∀ a b, a < W → b < H → mi_ (q + 1) (b * W + a) = fi_g g x y w h (nI (2 + C)) a b)))) := by
  show EV none 1 0 0 mX3_cutHere 0 [some (pv_r q), some (pv_i (nI x)), some (pv_i (nI y)), some (pv_i (nI w)), some (pv_i (nI h))] [] sh mi mr _
  refine ev_aload_n dX3_cutHere_0 rfl ?_
  refine ev_iload_n dX3_cutHere_1 rfl ?_
  refine ev_iload_n dX3_cutHere_2 rfl ?_
  refine ev_iload_n dX3_cutHere_3 rfl ?_
  refine ev_iload dX3_cutHere_4 rfl ?_
  refine ev_callv (av := [pv_i (nI x), pv_i (nI y), pv_i (nI w), pv_i (nI h)]) dX3_cutHere_6 cv_X3_43 hk.1 rfl rfl (Nat.le_of_ble_eq_true rfl) (by decide) (Or.inl (fun v_ s_ m_ r_ h_ => by rcases h_ with ⟨_, _, e_, _, _⟩ | ⟨_, _, e_, _, _⟩ <;> rw [e_])) (Nat.zero_add _) (Nat.zero_add _) (t_X3_isFree hk hW hH hW12 hH12 g hg x y w h hx hy hw hh) ?_
  rintro v_ sh_ mi_ mr_ (⟨qa, e1_, e2_, e3_, e4_⟩ | ⟨qb, e1_, e2_, e3_, e4_⟩)
  · subst e1_
    have e2_ := e2_.symm
    subst e2_
    have e3_ := e3_.symm
    subst e3_
    have e4_ := e4_.symm
    subst e4_
    refine ev_if_ne_t (tgt := 14) dX3_cutHere_9 rfl (by decide) ?_
    refine ev_aload_n dX3_cutHere_14 rfl ?_
    refine ev_iload_n dX3_cutHere_15 rfl ?_
    refine ev_iload_n dX3_cutHere_16 rfl ?_
    refine ev_iload_n dX3_cutHere_17 rfl ?_
    refine ev_iload dX3_cutHere_18 rfl ?_
    refine ev_iconst (v := 2) dX3_cutHere_20 rfl ?_
    refine ev_aload_n dX3_cutHere_21 rfl ?_
    refine ev_geti dX3_cutHere_22 fl_X3_9 rfl hk.1 ?_
    refine ev_iadd dX3_cutHere_25 ?_
    refine ev_callv (av := [pv_i (nI x), pv_i (nI y), pv_i (nI w), pv_i (nI h), pv_i (2 + (mi q 4))]) dX3_cutHere_26 cv_X3_46 hk.1 rfl rfl (Nat.le_of_ble_eq_true rfl) (by decide) (Or.inl (fun v_ s_ m_ r_ h_ => by rw [h_.2.1])) (Nat.zero_add _) (Nat.zero_add _) (t_X3_fill hk hW hH hW12 hH12 g hg x y w h hx hy hw hh _ qa.1 qa.2.1) ?_
    rintro v_ sh_ m1 mr_ ⟨e1_, e2_, e3_, hG⟩
    subst e1_
    have e2_ := e2_.symm
    subst e2_
    have e3_ := e3_.symm
    subst e3_
    refine ev_aload_n dX3_cutHere_29 rfl ?_
    refine ev_dup dX3_cutHere_30 ?_
    refine ev_geti dX3_cutHere_31 fl_X3_9 rfl hk.1 ?_
    refine ev_iconst (v := 1) dX3_cutHere_34 rfl ?_
    refine ev_iadd dX3_cutHere_35 ?_
    refine ev_puti dX3_cutHere_36 fl_X3_9 rfl rfl hk.1 ?_
    refine ev_iconst (v := 1) dX3_cutHere_39 rfl ?_
    exact ev_ireturn (ty := .boolean) dX3_cutHere_40 rfl rfl ⟨rfl, rfl, Or.inr ⟨qa, rfl, fun a c h1 h2 => by rw [show up_2 m1 q 4 (m1 q 4 + 1) a c = m1 a c by simp only [up_2]; rw [if_neg h2]]; exact hG.1 a c h1, by rw [up_at, hG.1 q 4 (by omega), hC, nI_1], fun a b ha hb => by rw [up_ne (Or.inl (by omega)), hG.2.1 a b ha hb, hC, show (2 : Int32) = nI 2 from rfl, nI_add]⟩⟩
  · subst e1_
    have e2_ := e2_.symm
    subst e2_
    have e3_ := e3_.symm
    subst e3_
    have e4_ := e4_.symm
    subst e4_
    refine ev_if_ne_f (tgt := 14) dX3_cutHere_9 rfl (by decide) ?_
    refine ev_iconst (v := 0) dX3_cutHere_12 rfl ?_
    exact ev_ireturn (ty := .boolean) dX3_cutHere_13 rfl rfl ⟨rfl, rfl, Or.inl ⟨qb, rfl, rfl⟩⟩
