set_option maxRecDepth 100000 in
set_option maxHeartbeats 4000000 in
theorem lp_X6_wideOf {sh : SH} {mi : MI} {mr : MR} (hB : ba_c sh mr) (N gp W : Nat) (ww : Nat → Nat) (hN20 : N ≤ 20) (hgp : mi 50 0 = nI gp) (hgp20 : gp ≤ 20) (hW : W ≤ 400) (hww : ∀ i, i < N → mi 52 i = nI (ww i)) (hwb : ∀ i, i < N → ww i ≤ 800) (f n : Nat) (hn1 : 1 ≤ n) (hfn : f + n ≤ N) : ∀ k, k ≤ n → EV none 0 0 0 mX6_wideOf 14 [some (pv_r 29), some (pv_i (nI f)), some (pv_i (nI n)), some (pv_i (nI ((n - 1) * gp + sw_w ww f k))), some (pv_i (nI (f + k)))] [] sh mi mr (ok_r sh mr (nI (wd_w gp ww f n)) mi) := by
  refine lp_i n (fun k hk ih => ?_)
  refine ev_iload dX6_wideOf_14 rfl ?_
  refine ev_iload_n dX6_wideOf_16 rfl ?_
  refine ev_iload_n dX6_wideOf_17 rfl ?_
  refine ev_iadd dX6_wideOf_18 ?_
  refine ev_icmp_ge (tgt := 38) dX6_wideOf_19 rfl (fun h19 => ?_) (fun h19 => ?_)
  · have hin : k = n := by have := (nl_le (nI_add f n) (b := f + k) rfl (by omega) (by omega)).mp h19; omega
    refine ev_iload_n dX6_wideOf_38 rfl ?_
    exact ev_ireturn (ty := .int) dX6_wideOf_39 rfl rfl ⟨by rw [hin, wd_1 hn1], rfl, rfl, rfl⟩
  · have hlt : k < n := by have := (not_congr (nl_le (nI_add f n) (b := f + k) rfl (by omega) (by omega))).mp h19; omega
    refine ev_iload_n dX6_wideOf_22 rfl ?_
    refine ev_aload_n dX6_wideOf_23 rfl ?_
    refine ev_getq dX6_wideOf_24 fl_X6_77 rfl (hB.1 29 _ rfl) (hB.2 29 28 _ rfl) ?_
    refine ev_iload dX6_wideOf_27 rfl ?_
    refine ev_iald dX6_wideOf_29 (hB.1 52 _ rfl) (j := f + k) rfl (by omega) (by decide) ?_
    refine ev_iadd dX6_wideOf_30 ?_
    refine ev_istore_n dX6_wideOf_31 (by decide) ?_
    refine ev_iincN dX6_wideOf_32 rfl (by decide) ?_
    refine ev_goto (tgt := 14) dX6_wideOf_35 rfl ?_
    rw [hww _ (by omega), nI_add]
    have q := ih hlt
    rw [show (n - 1) * gp + sw_w ww f (k + 1) = (n - 1) * gp + sw_w ww f k + ww (f + k) by simp only [sw_w]; omega] at q
    exact q
set_option maxRecDepth 100000 in
set_option maxHeartbeats 4000000 in
theorem t_X6_wideOf {sh : SH} {mi : MI} {mr : MR} (hB : ba_c sh mr) (N gp W : Nat) (ww : Nat → Nat) (hN20 : N ≤ 20) (hgp : mi 50 0 = nI gp) (hgp20 : gp ≤ 20) (hW : W ≤ 400) (hww : ∀ i, i < N → mi 52 i = nI (ww i)) (hwb : ∀ i, i < N → ww i ≤ 800) (f n : Nat) (hn1 : 1 ≤ n) (hfn : f + n ≤ N) : EV none 0 0 0 mX6_wideOf 0 (en_l mX6_wideOf [pv_r 29, pv_i (nI f), pv_i (nI n)]) [] sh mi mr (ok_r sh mr (nI (wd_w gp ww f n)) mi) := by
  show EV none 0 0 0 mX6_wideOf 0 [some (pv_r 29), some (pv_i (nI f)), some (pv_i (nI n)), none, none] [] sh mi mr _
  refine ev_iload_n dX6_wideOf_0 rfl ?_
  refine ev_iconst (v := 1) dX6_wideOf_1 rfl ?_
  refine ev_isub dX6_wideOf_2 ?_
  refine ev_aload_n dX6_wideOf_3 rfl ?_
  refine ev_getq dX6_wideOf_4 fl_X6_71 rfl (hB.1 29 _ rfl) (hB.2 29 24 _ rfl) ?_
  refine ev_iconst (v := 0) dX6_wideOf_7 rfl ?_
  refine ev_iald dX6_wideOf_8 (hB.1 50 _ rfl) (j := 0) rfl (by decide) (by decide) ?_
  refine ev_imul dX6_wideOf_9 ?_
  refine ev_istore_n dX6_wideOf_10 (by decide) ?_
  refine ev_iload_n dX6_wideOf_11 rfl ?_
  refine ev_istore dX6_wideOf_12 (by decide) ?_
  rw [hgp, n_1, pk_sub hn1, pk_mul]
  have q := lp_X6_wideOf hB N gp W ww hN20 hgp hgp20 hW hww hwb f n hn1 hfn 0 (Nat.zero_le n)
  exact q
theorem th_a {W gp : Nat} {ww : Nat → Nat} {c : Nat → Option Nat} {f n : Nat} (hW : W ≤ 400) (hwd : wd_w gp ww f n ≤ 20000) (h : nI W - nI (wd_w gp ww f n) < 0) : some (pv_i (-1)) = some (pv_i (en_m (cd_w W gp ww c f n))) := by
  have hgt : ¬ wd_w gp ww f n ≤ W := fun q => by
    rw [pk_sub q] at h
    exact nI_pos (by omega) h
  unfold cd_w
  rw [if_neg hgt]
  rfl
theorem th_b {W gp : Nat} {ww : Nat → Nat} {c : Nat → Option Nat} {f n : Nat} {x : Int32} (hc : ∀ j v, c j = some v → v ≤ 1000000) (hx : x = en_m (c (f + n))) (h : ¬ ¬ x = -1) : some (pv_i (-1)) = some (pv_i (en_m (cd_w W gp ww c f n))) := by
  have h : x = -1 := Classical.byContradiction h
  cases hcc : c (f + n) with
  | none => rw [cd_no hcc]; rfl
  | some r =>
    rw [hx, hcc] at h
    have := hc _ r hcc
    exact absurd h (nI_m1 (by omega))
theorem th_c {W gp : Nat} {ww : Nat → Nat} {c : Nat → Option Nat} {f n : Nat} {x : Int32} (hW : W ≤ 400) (hwd : wd_w gp ww f n ≤ 20000) (hx : x = en_m (c (f + n))) (h : ¬ x = -1) (h2 : ¬ nI W - nI (wd_w gp ww f n) < 0) : some (pv_i ((nI W - nI (wd_w gp ww f n)) * (nI W - nI (wd_w gp ww f n)) + x)) = some (pv_i (en_m (cd_w W gp ww c f n))) := by
  have hle : wd_w gp ww f n ≤ W := by
    rcases Nat.lt_or_ge W (wd_w gp ww f n) with q | q
    · exact absurd (pk_sneg (by omega) q) h2
    · exact q
  cases hcc : c (f + n) with
  | none => rw [hx, hcc] at h; exact absurd rfl h
  | some r =>
    rw [cd_yes hle hcc, hx, hcc, pk_sub hle, pk_mul]
    show some (pv_i (_ + nI r)) = _
    rw [nI_add]
    rfl
set_option maxRecDepth 100000 in
set_option maxHeartbeats 4000000 in
theorem t_X6_through {sh : SH} {mi : MI} {mr : MR} (hB : ba_c sh mr) (N gp W : Nat) (ww : Nat → Nat) (hN20 : N ≤ 20) (hgp : mi 50 0 = nI gp) (hgp20 : gp ≤ 20) (hW : W ≤ 400) (hww : ∀ i, i < N → mi 52 i = nI (ww i)) (hwb : ∀ i, i < N → ww i ≤ 800) (f n : Nat) (hn1 : 1 ≤ n) (hfn : f + n ≤ N) (l : Nat) (hl1 : 1 ≤ l) (hl6 : l ≤ 6) (c : Nat → Option Nat) (hc : ∀ j v, c j = some v → v ≤ 1000000) (hrow : ∀ j, j ≤ N → mi 53 (21 * (l - 1) + j) = en_m (c j)) : EV none 1 0 0 mX6_through 0 (en_l mX6_through [pv_r 29, pv_i (nI f), pv_i (nI n), pv_i (nI l), pv_i (nI W)]) [] sh mi mr (ok_r sh mr (en_m (cd_w W gp ww c f n)) mi) := by
  show EV none 1 0 0 mX6_through 0 [some (pv_r 29), some (pv_i (nI f)), some (pv_i (nI n)), some (pv_i (nI l)), some (pv_i (nI W)), none, none] [] sh mi mr _
  refine ev_iload dX6_through_0 rfl ?_
  refine ev_aload_n dX6_through_2 rfl ?_
  refine ev_iload_n dX6_through_3 rfl ?_
  refine ev_iload_n dX6_through_4 rfl ?_
  refine ev_v2i dX6_through_5 cv_X6_171 (hB.1 29 _ rfl) (Nat.le_of_ble_eq_true rfl) (by decide) (t_X6_wideOf hB N gp W ww hN20 hgp hgp20 hW hww hwb f n hn1 hfn) ?_
  have hsb := sw_b (f := f) hwb n (by omega)
  have hkg : n * gp ≤ 20 * 20 := Nat.mul_le_mul (by omega) hgp20
  have hwd : wd_w gp ww f n ≤ 20000 := by unfold wd_w; omega
  refine ev_isub dX6_through_8 ?_
  refine ev_istore dX6_through_9 (by decide) ?_
  refine ev_aload_n dX6_through_11 rfl ?_
  refine ev_getq dX6_through_12 fl_X6_80 rfl (hB.1 29 _ rfl) (hB.2 29 29 _ rfl) ?_
  refine ev_bipush (v := 21) dX6_through_15 rfl ?_
  refine ev_iload_n dX6_through_17 rfl ?_
  refine ev_iconst (v := 1) dX6_through_18 rfl ?_
  refine ev_isub dX6_through_19 ?_
  refine ev_imul dX6_through_20 ?_
  refine ev_iload_n dX6_through_21 rfl ?_
  refine ev_iadd dX6_through_22 ?_
  refine ev_iload_n dX6_through_23 rfl ?_
  refine ev_iadd dX6_through_24 ?_
  refine ev_iald dX6_through_25 (hB.1 53 _ rfl) (j := 21 * (l - 1) + f + n) (by rw [n_1, pk_sub hl1, n_21, pk_mul, nI_add, nI_add]) (by omega) (by decide) ?_
  refine ev_istore dX6_through_26 (by decide) ?_
  refine ev_iload dX6_through_28 rfl ?_
  refine ev_if_lt (tgt := 39) dX6_through_30 rfl (fun h30 => ?_) (fun h30 => ?_)
  · refine ev_iconst (v := (-1)) dX6_through_39 rfl ?_
    refine ev_goto (tgt := 51) dX6_through_40 rfl ?_
    exact ev_ireturn (ty := .int) dX6_through_51 rfl rfl ⟨th_a hW hwd h30, rfl, rfl, rfl⟩
  · have hrd : mi 53 (21 * (l - 1) + f + n) = en_m (c (f + n)) := by rw [Nat.add_assoc]; exact hrow _ (by omega)
    refine ev_iload dX6_through_33 rfl ?_
    refine ev_iconst (v := (-1)) dX6_through_35 rfl ?_
    refine ev_icmp_ne (tgt := 43) dX6_through_36 rfl (fun h36 => ?_) (fun h36 => ?_)
    · refine ev_iload dX6_through_43 rfl ?_
      refine ev_iload dX6_through_45 rfl ?_
      refine ev_imul dX6_through_47 ?_
      refine ev_iload dX6_through_48 rfl ?_
      refine ev_iadd dX6_through_50 ?_
      exact ev_ireturn (ty := .int) dX6_through_51 rfl rfl ⟨th_c hW hwd hrd h36 h30, rfl, rfl, rfl⟩
    · refine ev_iconst (v := (-1)) dX6_through_39 rfl ?_
      refine ev_goto (tgt := 51) dX6_through_40 rfl ?_
      exact ev_ireturn (ty := .int) dX6_through_51 rfl rfl ⟨th_b hc hrd (fun q => q h36), rfl, rfl, rfl⟩
def dn (t : Nat) : Int32 := match t with
  | 0 => -1
  | f + 1 => nI f
theorem dn_s (f : Nat) : nI f + Int32.ofInt (-1) = dn f := by
  cases f with
  | zero => decide
  | succ f => exact pk_m1 f
theorem em_n {v : Option Nat} (hv : ∀ x, v = some x → x ≤ 1000000000) (h : en_m v = -1) : v = none := by
  cases v with
  | none => rfl
  | some x =>
    have := hv x rfl
    exact absurd h (nI_m1 (by omega))
theorem em_s {v : Option Nat} (h : ¬ en_m v = -1) : ∃ x, v = some x ∧ en_m v = nI x := by
  cases v with
  | none => exact absurd rfl h
  | some x => exact ⟨x, rfl, rfl⟩
theorem bs_mb {W gp : Nat} {ww : Nat → Nat} {c : Nat → Option Nat} {f k x : Nat} (hW : W ≤ 400) (hc : ∀ j v, c j = some v → v ≤ 1000000) (h : (bs_w W gp ww c f k).map (fun p => p.1) = some x) : x ≤ 1000000000 := by
  cases hb : bs_w W gp ww c f k with
  | none => rw [hb] at h; cases h
  | some p =>
    rw [hb] at h
    cases h
    obtain ⟨-, -, h3, -, -⟩ := bs_p _ p hb
    exact bs_le hW hc h3
theorem bs_no0 {W gp : Nat} {ww : Nat → Nat} {c : Nat → Option Nat} {f k v b : Nat} (h : cd_w W gp ww c f (k + 1) = some v) (hb : (bs_w W gp ww c f k).map (fun p => p.1) = some b) (h2 : ¬ v < b) : bs_w W gp ww c f (k + 1) = bs_w W gp ww c f k := by
  show bs_s (bs_w W gp ww c f k) (cd_w W gp ww c f (k + 1)) (k + 1) = _
  rw [h]
  cases hb2 : bs_w W gp ww c f k with
  | none => rw [hb2] at hb; cases hb
  | some p =>
    rw [hb2] at hb
    cases hb
    exact if_neg (c := v < p.1) h2
set_option maxRecDepth 100000 in
set_option maxHeartbeats 4000000 in
theorem lp_X6_brk3 {N : Nat} {sh : SH} {mi : MI} {mr : MR} (hB : ba_c sh mr) (hN : mi 29 27 = nI N) (gp W : Nat) (ww : Nat → Nat) (hN20 : N ≤ 20) (hgp : mi 50 0 = nI gp) (hgp20 : gp ≤ 20) (hW : W ≤ 400) (hww : ∀ i, i < N → mi 52 i = nI (ww i)) (hwb : ∀ i, i < N → ww i ≤ 800) (K : Nat) (l f : Nat) (hl1 : 1 ≤ l) (hl6 : l ≤ 6) (hf : f ≤ N) (c : Nat → Option Nat) (hc : ∀ j v, c j = some v → v ≤ 1000000) (hrow : ∀ j, j ≤ N → mi 53 (21 * (l - 1) + j) = en_m (c j)) (Po : PO) (hcont : EV none 2 0 0 mX6_broken 141 [some (pv_r 29), some (pv_i (nI W)), some (pv_i (nI K)), some (pv_i (nI l)), some (pv_i (nI f)), some (pv_i (en_m ((bs_w W gp ww c f (N - f)).map (fun p => p.1)))), none, none] [] sh mi mr Po) : ∀ k, k ≤ N - f → EV none 2 0 0 mX6_broken 79 [some (pv_r 29), some (pv_i (nI W)), some (pv_i (nI K)), some (pv_i (nI l)), some (pv_i (nI f)), some (pv_i (en_m ((bs_w W gp ww c f k).map (fun p => p.1)))), some (pv_i (nI (k + 1))), none] [] sh mi mr Po := by
  refine lp_i (N - f) (fun k hk ih => ?_)
  refine ev_iload dX6_broken_79 rfl ?_
  refine ev_aload_n dX6_broken_81 rfl ?_
  refine ev_geti dX6_broken_82 fl_X6_168 rfl (hB.1 29 _ rfl) ?_
  refine ev_iload dX6_broken_85 rfl ?_
  refine ev_isub dX6_broken_87 ?_
  refine ev_icmp_gt (tgt := 141) dX6_broken_88 rfl (fun h88 => ?_) (fun h88 => ?_)
  · have hin : k = N - f := by rw [hN, pk_sub hf] at h88; have := (nI_ltI (by omega) (by omega)).mp h88; omega
    rw [hin]
    exact ev_fg 6 hcont
  · have hlt : k < N - f := by rw [hN, pk_sub hf] at h88; have := (not_congr (nI_ltI (a := N - f) (b := k + 1) (by omega) (by omega))).mp h88; omega
    refine ev_iload_n dX6_broken_91 rfl ?_
    refine ev_if_le_f (tgt := 141) dX6_broken_92 rfl (nI_nle hl1 (by omega)) ?_
    refine ev_aload_n dX6_broken_95 rfl ?_
    refine ev_iload dX6_broken_96 rfl ?_
    refine ev_iload dX6_broken_98 rfl ?_
    refine ev_iload_n dX6_broken_100 rfl ?_
    refine ev_iload_n dX6_broken_101 rfl ?_
    refine ev_v4i dX6_broken_102 cv_X6_178 (hB.1 29 _ rfl) (Nat.le_of_ble_eq_true rfl) (by decide) (t_X6_through hB N gp W ww hN20 hgp hgp20 hW hww hwb f (k + 1) (by omega) (by omega) l hl1 hl6 c hc hrow) ?_
    refine ev_istore dX6_broken_105 (by decide) ?_
    refine ev_iload dX6_broken_107 rfl ?_
    refine ev_iconst (v := (-1)) dX6_broken_109 rfl ?_
    refine ev_icmp_eq (tgt := 131) dX6_broken_110 rfl (fun h110 => ?_) (fun h110 => ?_)
    · refine ev_iload dX6_broken_131 rfl ?_
      refine ev_istore dX6_broken_133 (by decide) ?_
      refine ev_iincN dX6_broken_135 rfl (by decide) ?_
      refine ev_goto (tgt := 79) dX6_broken_138 rfl ?_
      have q := ih hlt
      rw [bs_sk (em_n (fun x hx => bs_le hW hc hx) h110)] at q
      exact ev_fg 7 q
    · refine ev_iload dX6_broken_113 rfl ?_
      refine ev_iconst (v := (-1)) dX6_broken_115 rfl ?_
      refine ev_icmp_eq (tgt := 126) dX6_broken_116 rfl (fun h116 => ?_) (fun h116 => ?_)
      · refine ev_iload dX6_broken_126 rfl ?_
        refine ev_goto (tgt := 133) dX6_broken_128 rfl ?_
        refine ev_istore dX6_broken_133 (by decide) ?_
        refine ev_iincN dX6_broken_135 rfl (by decide) ?_
        refine ev_goto (tgt := 79) dX6_broken_138 rfl ?_
        obtain ⟨v, hv, hv2⟩ := em_s h110
        have hvb := bs_le hW hc hv
        have q := ih hlt
        have hbn : bs_w W gp ww c f k = none := by
          have := em_n (fun x hx => bs_mb hW hc hx) h116
          cases hb : bs_w W gp ww c f k with
          | none => rfl
          | some p => rw [hb] at this; cases this
        rw [show bs_w W gp ww c f (k + 1) = some (v, k + 1) by show bs_s _ _ _ = _; rw [hv, hbn]; rfl] at q
        rw [hv2]
        exact ev_fg 7 q
      · refine ev_iload dX6_broken_119 rfl ?_
        refine ev_iload dX6_broken_121 rfl ?_
        refine ev_icmp_ge (tgt := 131) dX6_broken_123 rfl (fun h123 => ?_) (fun h123 => ?_)
        · refine ev_iload dX6_broken_131 rfl ?_
          refine ev_istore dX6_broken_133 (by decide) ?_
          refine ev_iincN dX6_broken_135 rfl (by decide) ?_
          refine ev_goto (tgt := 79) dX6_broken_138 rfl ?_
          obtain ⟨v, hv, hv2⟩ := em_s h110
          have hvb := bs_le hW hc hv
          have q := ih hlt
          obtain ⟨b, hb, hb2⟩ := em_s h116
          have hbb := bs_mb hW hc hb
          rw [hv2, hb2] at h123
          have hen : en_c ((bs_w W gp ww c f k).map (fun p => p.1)) = b := by rw [hb]; rfl
          rw [bs_no0 hv hb (by have := (nI_leI (by omega) (by omega)).mp h123; omega)] at q
          exact ev_fg 7 q
        · refine ev_iload dX6_broken_126 rfl ?_
          refine ev_goto (tgt := 133) dX6_broken_128 rfl ?_
          refine ev_istore dX6_broken_133 (by decide) ?_
          refine ev_iincN dX6_broken_135 rfl (by decide) ?_
          refine ev_goto (tgt := 79) dX6_broken_138 rfl ?_
          obtain ⟨v, hv, hv2⟩ := em_s h110
          have hvb := bs_le hW hc hv
          have q := ih hlt
          obtain ⟨b, hb, hb2⟩ := em_s h116
          have hbb := bs_mb hW hc hb
          rw [hv2, hb2] at h123
          have hen : en_c ((bs_w W gp ww c f k).map (fun p => p.1)) = b := by rw [hb]; rfl
          rw [bs_up hv (by rw [hen]; have := (not_congr (nI_leI (by omega) (by omega))).mp h123; omega)] at q
          rw [hv2]
          exact ev_fg 7 q
set_option maxRecDepth 100000 in
set_option maxHeartbeats 4000000 in
theorem lp_X6_row0 {sh : SH} {mi : MI} {mr : MR} (hB : ba_c sh mr) (N gp W : Nat) (ww : Nat → Nat) (hN : mi 29 27 = nI N) (hN1 : 1 ≤ N) (hN20 : N ≤ 20) (hgp : mi 50 0 = nI gp) (hgp20 : gp ≤ 20) (hW : W ≤ 400) (hww : ∀ i, i < N → mi 52 i = nI (ww i)) (hwb : ∀ i, i < N → ww i ≤ 800) (K : Nat) (hK1 : 1 ≤ K) (hK6 : K ≤ 6) (Po : PO) (hcont : ∀ m, (∀ a c, a ≠ 53 → m a c = mi a c) → (∀ l2, l2 < 1 → ∀ j, j ≤ N → m 53 (21 * l2 + j) = en_m (cs_w N W gp ww l2 j)) → EV none 2 0 0 mX6_broken 161 [some (pv_r 29), some (pv_i (nI W)), some (pv_i (nI K)), some (pv_i 0), none, none, none, none] [] sh m mr Po) : ∀ t, t ≤ N + 1 → ∀ m, (∀ a c, a ≠ 53 → m a c = mi a c) → (∀ j, t ≤ j → j ≤ N → m 53 (21 * 0 + j) = en_m (cs_w N W gp ww 0 j)) → EV none 2 0 0 mX6_broken 51 [some (pv_r 29), some (pv_i (nI W)), some (pv_i (nI K)), some (pv_i 0), some (pv_i (dn t)), none, none, none] [] sh m mr Po := by
  intro t
  induction t with
  | zero =>
    intro _ m hag hrd
    show EV none 2 0 0 mX6_broken 51 [some (pv_r 29), some (pv_i (nI W)), some (pv_i (nI K)), some (pv_i 0), some (pv_i (-1)), none, none, none] [] sh m mr Po
    refine ev_iload dX6_broken_51 rfl ?_
    refine ev_if_lt_t (tgt := 161) dX6_broken_53 rfl (by decide) ?_
    exact ev_fg 4 (hcont m hag (fun l2 hl2 j hj => by rw [show l2 = 0 by omega]; exact hrd j (Nat.zero_le j) hj))
  | succ t ih =>
    intro ht m hag hrd
    have hN2 : m 29 27 = nI N := (hag 29 27 (by decide)).trans hN
    show EV none 2 0 0 mX6_broken 51 [some (pv_r 29), some (pv_i (nI W)), some (pv_i (nI K)), some (pv_i 0), some (pv_i (nI t)), none, none, none] [] sh m mr Po
    refine ev_iload dX6_broken_51 rfl ?_
    refine ev_if_lt_f (tgt := 161) dX6_broken_53 rfl (nI_pos (by omega)) ?_
    refine ev_iload_n dX6_broken_56 rfl ?_
    refine ev_if_ne_f (tgt := 73) dX6_broken_57 rfl (by decide) ?_
    refine ev_iload dX6_broken_60 rfl ?_
    refine ev_aload_n dX6_broken_62 rfl ?_
    refine ev_geti dX6_broken_63 fl_X6_168 rfl (hB.1 29 _ rfl) ?_
    refine ev_icmp_ne (tgt := 73) dX6_broken_66 rfl (fun h66 => ?_) (fun h66 => ?_)
    · refine ev_iconst (v := (-1)) dX6_broken_73 rfl ?_
      refine ev_istore dX6_broken_74 (by decide) ?_
      refine ev_iconst (v := 1) dX6_broken_76 rfl ?_
      refine ev_istore dX6_broken_77 (by decide) ?_
      refine ev_iload dX6_broken_79 rfl ?_
      refine ev_aload_n dX6_broken_81 rfl ?_
      refine ev_geti dX6_broken_82 fl_X6_168 rfl (hB.1 29 _ rfl) ?_
      refine ev_iload dX6_broken_85 rfl ?_
      refine ev_isub dX6_broken_87 ?_
      refine ev_icmp_gt (tgt := 141) dX6_broken_88 rfl (fun h88 => ?_) (fun h88 => ?_)
      · refine ev_aload_n dX6_broken_141 rfl ?_
        refine ev_getq dX6_broken_142 fl_X6_80 rfl (hB.1 29 _ rfl) (hB.2 29 29 _ rfl) ?_
        refine ev_bipush (v := 21) dX6_broken_145 rfl ?_
        refine ev_iload_n dX6_broken_147 rfl ?_
        refine ev_imul dX6_broken_148 ?_
        refine ev_iload dX6_broken_149 rfl ?_
        refine ev_iadd dX6_broken_151 ?_
        refine ev_iload dX6_broken_152 rfl ?_
        refine ev_iast dX6_broken_154 (hB.1 53 _ rfl) (j := t) (by simp) (by omega) (by decide) ?_
        refine ev_iinc dX6_broken_155 rfl rfl (by decide) ?_
        refine ev_goto (tgt := 51) dX6_broken_158 rfl ?_
        have h0 : ¬ t = N := (not_congr (nl_eq (x := nI t) rfl hN2 (by omega) (by omega))).mp h66
        rw [dn_s]
        refine ev_fg 5 (ev_fg 6 (ih (by omega) _ (fun a c h1 => (up_ne (Or.inl h1)).trans (hag a c h1)) (fun j hj1 hj2 => ?_)))
        by_cases e : j = t
        · subst e; rw [show 21 * 0 + j = j by omega, up_at, show cs_w N W gp ww 0 j = none from if_neg h0]; rfl
        · exact (up_ne (Or.inr (by omega))).trans (hrd j (by omega) hj2)
      · refine ev_iload_n dX6_broken_91 rfl ?_
        refine ev_if_le_t (tgt := 141) dX6_broken_92 rfl (by decide) ?_
        refine ev_aload_n dX6_broken_141 rfl ?_
        refine ev_getq dX6_broken_142 fl_X6_80 rfl (hB.1 29 _ rfl) (hB.2 29 29 _ rfl) ?_
        refine ev_bipush (v := 21) dX6_broken_145 rfl ?_
        refine ev_iload_n dX6_broken_147 rfl ?_
        refine ev_imul dX6_broken_148 ?_
        refine ev_iload dX6_broken_149 rfl ?_
        refine ev_iadd dX6_broken_151 ?_
        refine ev_iload dX6_broken_152 rfl ?_
        refine ev_iast dX6_broken_154 (hB.1 53 _ rfl) (j := t) (by simp) (by omega) (by decide) ?_
        refine ev_iinc dX6_broken_155 rfl rfl (by decide) ?_
        refine ev_goto (tgt := 51) dX6_broken_158 rfl ?_
        have h0 : ¬ t = N := (not_congr (nl_eq (x := nI t) rfl hN2 (by omega) (by omega))).mp h66
        rw [dn_s]
        refine ev_fg 5 (ev_fg 6 (ih (by omega) _ (fun a c h1 => (up_ne (Or.inl h1)).trans (hag a c h1)) (fun j hj1 hj2 => ?_)))
        by_cases e : j = t
        · subst e; rw [show 21 * 0 + j = j by omega, up_at, show cs_w N W gp ww 0 j = none from if_neg h0]; rfl
        · exact (up_ne (Or.inr (by omega))).trans (hrd j (by omega) hj2)
    · refine ev_iconst (v := 0) dX6_broken_69 rfl ?_
      refine ev_goto (tgt := 74) dX6_broken_70 rfl ?_
      refine ev_istore dX6_broken_74 (by decide) ?_
      refine ev_iconst (v := 1) dX6_broken_76 rfl ?_
      refine ev_istore dX6_broken_77 (by decide) ?_
      refine ev_iload dX6_broken_79 rfl ?_
      refine ev_aload_n dX6_broken_81 rfl ?_
      refine ev_geti dX6_broken_82 fl_X6_168 rfl (hB.1 29 _ rfl) ?_
      refine ev_iload dX6_broken_85 rfl ?_
      refine ev_isub dX6_broken_87 ?_
      refine ev_icmp_gt (tgt := 141) dX6_broken_88 rfl (fun h88 => ?_) (fun h88 => ?_)
      · refine ev_aload_n dX6_broken_141 rfl ?_
        refine ev_getq dX6_broken_142 fl_X6_80 rfl (hB.1 29 _ rfl) (hB.2 29 29 _ rfl) ?_
        refine ev_bipush (v := 21) dX6_broken_145 rfl ?_
        refine ev_iload_n dX6_broken_147 rfl ?_
        refine ev_imul dX6_broken_148 ?_
        refine ev_iload dX6_broken_149 rfl ?_
        refine ev_iadd dX6_broken_151 ?_
        refine ev_iload dX6_broken_152 rfl ?_
        refine ev_iast dX6_broken_154 (hB.1 53 _ rfl) (j := t) (by simp) (by omega) (by decide) ?_
        refine ev_iinc dX6_broken_155 rfl rfl (by decide) ?_
        refine ev_goto (tgt := 51) dX6_broken_158 rfl ?_
        have h0 : t = N := (nl_eq (x := nI t) rfl hN2 (by omega) (by omega)).mp h66
        rw [dn_s]
        refine ev_fg 5 (ev_fg 6 (ih (by omega) _ (fun a c h1 => (up_ne (Or.inl h1)).trans (hag a c h1)) (fun j hj1 hj2 => ?_)))
        by_cases e : j = t
        · subst e; rw [show 21 * 0 + j = j by omega, up_at, show cs_w N W gp ww 0 j = some 0 from if_pos h0]; rfl
        · exact (up_ne (Or.inr (by omega))).trans (hrd j (by omega) hj2)
      · refine ev_iload_n dX6_broken_91 rfl ?_
        refine ev_if_le_t (tgt := 141) dX6_broken_92 rfl (by decide) ?_
        refine ev_aload_n dX6_broken_141 rfl ?_
        refine ev_getq dX6_broken_142 fl_X6_80 rfl (hB.1 29 _ rfl) (hB.2 29 29 _ rfl) ?_
        refine ev_bipush (v := 21) dX6_broken_145 rfl ?_
        refine ev_iload_n dX6_broken_147 rfl ?_
        refine ev_imul dX6_broken_148 ?_
        refine ev_iload dX6_broken_149 rfl ?_
        refine ev_iadd dX6_broken_151 ?_
        refine ev_iload dX6_broken_152 rfl ?_
        refine ev_iast dX6_broken_154 (hB.1 53 _ rfl) (j := t) (by simp) (by omega) (by decide) ?_
        refine ev_iinc dX6_broken_155 rfl rfl (by decide) ?_
        refine ev_goto (tgt := 51) dX6_broken_158 rfl ?_
        have h0 : t = N := (nl_eq (x := nI t) rfl hN2 (by omega) (by omega)).mp h66
        rw [dn_s]
        refine ev_fg 5 (ev_fg 6 (ih (by omega) _ (fun a c h1 => (up_ne (Or.inl h1)).trans (hag a c h1)) (fun j hj1 hj2 => ?_)))
        by_cases e : j = t
        · subst e; rw [show 21 * 0 + j = j by omega, up_at, show cs_w N W gp ww 0 j = some 0 from if_pos h0]; rfl
        · exact (up_ne (Or.inr (by omega))).trans (hrd j (by omega) hj2)
set_option maxRecDepth 100000 in
set_option maxHeartbeats 4000000 in
theorem lp_X6_rowl {sh : SH} {mi : MI} {mr : MR} (hB : ba_c sh mr) (N gp W : Nat) (ww : Nat → Nat) (hN : mi 29 27 = nI N) (hN1 : 1 ≤ N) (hN20 : N ≤ 20) (hgp : mi 50 0 = nI gp) (hgp20 : gp ≤ 20) (hW : W ≤ 400) (hww : ∀ i, i < N → mi 52 i = nI (ww i)) (hwb : ∀ i, i < N → ww i ≤ 800) (K : Nat) (hK1 : 1 ≤ K) (hK6 : K ≤ 6) (Po : PO) (l : Nat) (hl1 : 1 ≤ l) (hlK : l ≤ K) (hcont : ∀ m, (∀ a c, a ≠ 53 → m a c = mi a c) → (∀ l2, l2 < (l + 1) → ∀ j, j ≤ N → m 53 (21 * l2 + j) = en_m (cs_w N W gp ww l2 j)) → EV none 2 0 0 mX6_broken 161 [some (pv_r 29), some (pv_i (nI W)), some (pv_i (nI K)), some (pv_i (nI l)), none, none, none, none] [] sh m mr Po) : ∀ t, t ≤ N + 1 → ∀ m, (∀ a c, a ≠ 53 → m a c = mi a c) → (∀ l2, l2 < l → ∀ j, j ≤ N → m 53 (21 * l2 + j) = en_m (cs_w N W gp ww l2 j)) → (∀ j, t ≤ j → j ≤ N → m 53 (21 * l + j) = en_m (cs_w N W gp ww l j)) → EV none 2 0 0 mX6_broken 51 [some (pv_r 29), some (pv_i (nI W)), some (pv_i (nI K)), some (pv_i (nI l)), some (pv_i (dn t)), none, none, none] [] sh m mr Po := by
  intro t
  induction t with
  | zero =>
    intro _ m hag hr hrd
    show EV none 2 0 0 mX6_broken 51 [some (pv_r 29), some (pv_i (nI W)), some (pv_i (nI K)), some (pv_i (nI l)), some (pv_i (-1)), none, none, none] [] sh m mr Po
    refine ev_iload dX6_broken_51 rfl ?_
    refine ev_if_lt_t (tgt := 161) dX6_broken_53 rfl (by decide) ?_
    exact ev_fg 4 (hcont m hag (fun l2 hl2 j hj => by
      by_cases e : l2 = l
      · subst e; exact hrd j (Nat.zero_le j) hj
      · exact hr l2 (by omega) j hj))
  | succ t ih =>
    intro ht m hag hr hrd
    have hN2 : m 29 27 = nI N := (hag 29 27 (by decide)).trans hN
    show EV none 2 0 0 mX6_broken 51 [some (pv_r 29), some (pv_i (nI W)), some (pv_i (nI K)), some (pv_i (nI l)), some (pv_i (nI t)), none, none, none] [] sh m mr Po
    refine ev_iload dX6_broken_51 rfl ?_
    refine ev_if_lt_f (tgt := 161) dX6_broken_53 rfl (nI_pos (by omega)) ?_
    refine ev_iload_n dX6_broken_56 rfl ?_
    refine ev_if_ne_t (tgt := 73) dX6_broken_57 rfl (nI_ne0 hl1 (by omega)) ?_
    refine ev_iconst (v := (-1)) dX6_broken_73 rfl ?_
    refine ev_istore dX6_broken_74 (by decide) ?_
    refine ev_iconst (v := 1) dX6_broken_76 rfl ?_
    refine ev_istore dX6_broken_77 (by decide) ?_
    have q := lp_X6_brk3 (mi := m) hB hN2 gp W ww hN20 ((hag 50 0 (by decide)).trans hgp) hgp20 hW (fun i hi => (hag 52 i (by decide)).trans (hww i hi)) hwb K l t hl1 (by omega) (by omega) (cs_w N W gp ww (l - 1)) (fun j v hv => by have h1 := cs_bd hW (l - 1) j v hv; have h2 : (l - 1) * 160000 ≤ 6 * 160000 := Nat.mul_le_mul_right _ (by omega); omega) (fun j hj => hr (l - 1) (by omega) j hj) Po ?_ 0 (Nat.zero_le _)
    · exact q
    · refine ev_aload_n dX6_broken_141 rfl ?_
      refine ev_getq dX6_broken_142 fl_X6_80 rfl (hB.1 29 _ rfl) (hB.2 29 29 _ rfl) ?_
      refine ev_bipush (v := 21) dX6_broken_145 rfl ?_
      refine ev_iload_n dX6_broken_147 rfl ?_
      refine ev_imul dX6_broken_148 ?_
      refine ev_iload dX6_broken_149 rfl ?_
      refine ev_iadd dX6_broken_151 ?_
      refine ev_iload dX6_broken_152 rfl ?_
      refine ev_iast dX6_broken_154 (hB.1 53 _ rfl) (j := 21 * l + t) (by rw [n_21, pk_mul, nI_add]) (by omega) (by decide) ?_
      refine ev_iinc dX6_broken_155 rfl rfl (by decide) ?_
      refine ev_goto (tgt := 51) dX6_broken_158 rfl ?_
      rw [dn_s]
      refine ev_fg 5 (ih (by omega) _ (fun a c h1 => (up_ne (Or.inl h1)).trans (hag a c h1)) (fun l2 hl2 j hj => (up_ne (Or.inr (by omega))).trans (hr l2 hl2 j hj)) (fun j hj1 hj2 => ?_))
      by_cases e : j = t
      · subst e; rw [up_at, cs_l hl1]
      · exact (up_ne (Or.inr (by omega))).trans (hrd j (by omega) hj2)
