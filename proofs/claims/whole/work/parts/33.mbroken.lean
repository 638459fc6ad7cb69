set_option maxRecDepth 100000 in
set_option maxHeartbeats 4000000 in
theorem lp_X6_wideOf {sh : SH} {mi : MI} {mr : MR} (hB : ba_c sh mr) (N gp W : Nat) (ww : Nat → Nat) (hN20 : N ≤ 20) (hgp : mi 50 0 = nI gp) (hgp20 : gp ≤ 20) (hW : W ≤ 400) (hww : ∀ i, i < N → mi 52 i = nI (ww i)) (hwb : ∀ i, i < N → ww i ≤ 800) (f n : Nat) (hn1 : 1 ≤ n) (hfn : f + n ≤ N) : ∀ k, k ≤ n → EV none 0 0 0 mX6_wideOf 14 [some (pv_r 29), some (pv_i (nI f)), some (pv_i (nI n)), some (pv_i (nI ((n - 1) * gp + sw_w ww f k))), some (pv_i (nI (f + k)))] [] sh mi mr (ok_r sh mr (nI (wd_w gp ww f n)) mi) := by
  refine lp_i n (fun k hk ih => ?_)
  refine ev_iload dX6_wideOf_14 rfl ?_
  refine ev_iload_n dX6_wideOf_16 rfl ?_
  refine ev_iload_n dX6_wideOf_17 rfl ?_
  refine ev_iadd dX6_wideOf_18 ?_
  refine ev_icmp_ge (tgt := 38) dX6_wideOf_19 rfl (fun h19 => ?_) (fun h19 => ?_)
  · have hin : k = n := by have := (nl_le (nI_add f n) (b := f + k) rfl (by omega) (by omega)).mp h19; omega
    refine ev_iload_n dX6_wideOf_38 rfl ?_
    exact ev_ireturn (ty := .int) dX6_wideOf_39 rfl rfl ⟨by rw [hin, wd_1 hn1], rfl, rfl, rfl⟩
  · have hlt : k < n := by have := (not_congr (nl_le (nI_add f n) (b := f + k) rfl (by omega) (by omega))).mp h19; omega
    refine ev_iload_n dX6_wideOf_22 rfl ?_
    refine ev_aload_n dX6_wideOf_23 rfl ?_
    refine ev_getq dX6_wideOf_24 fl_X6_77 rfl (hB.1 29 _ rfl) (hB.2 29 28 _ rfl) ?_
    refine ev_iload dX6_wideOf_27 rfl ?_
    refine ev_iald dX6_wideOf_29 (hB.1 52 _ rfl) (j := f + k) rfl (by omega) (by decide) ?_
    refine ev_iadd dX6_wideOf_30 ?_
    refine ev_istore_n dX6_wideOf_31 (by decide) ?_
    refine ev_iincN dX6_wideOf_32 rfl (by decide) ?_
    refine ev_goto (tgt := 14) dX6_wideOf_35 rfl ?_
    rw [hww _ (by omega), nI_add]
    have q := ih hlt
    rw [show (n - 1) * gp + sw_w ww f (k + 1) = (n - 1) * gp + sw_w ww f k + ww (f + k) by simp only [sw_w]; omega] at q
    exact q
set_option maxRecDepth 100000 in
set_option maxHeartbeats 4000000 in
theorem t_X6_wideOf {sh : SH} {mi : MI} {mr : MR} (hB : ba_c sh mr) (N gp W : Nat) (ww : Nat → Nat) (hN20 : N ≤ 20) (hgp : mi 50 0 = nI gp) (hgp20 : gp ≤ 20) (hW : W ≤ 400) (hww : ∀ i, i < N → mi 52 i = nI (ww i)) (hwb : ∀ i, i < N → ww i ≤ 800) (f n : Nat) (hn1 : 1 ≤ n) (hfn : f + n ≤ N) : EV none 0 0 0 mX6_wideOf 0 (en_l mX6_wideOf [pv_r 29, pv_i (nI f), pv_i (nI n)]) [] sh mi mr (ok_r sh mr (nI (wd_w gp ww f n)) mi) := by
  show EV none 0 0 0 mX6_wideOf 0 [some (pv_r 29), some (pv_i (nI f)), some (pv_i (nI n)), none, none] [] sh mi mr _
  refine ev_iload_n dX6_wideOf_0 rfl ?_
  refine ev_iconst (v := 1) dX6_wideOf_1 rfl ?_
  refine ev_isub dX6_wideOf_2 ?_
  refine ev_aload_n dX6_wideOf_3 rfl ?_
  refine ev_getq dX6_wideOf_4 fl_X6_71 rfl (hB.1 29 _ rfl) (hB.2 29 24 _ rfl) ?_
  refine ev_iconst (v := 0) dX6_wideOf_7 rfl ?_
  refine ev_iald dX6_wideOf_8 (hB.1 50 _ rfl) (j := 0) rfl (by decide) (by decide) ?_
  refine ev_imul dX6_wideOf_9 ?_
  refine ev_istore_n dX6_wideOf_10 (by decide) ?_
  refine ev_iload_n dX6_wideOf_11 rfl ?_
  refine ev_istore dX6_wideOf_12 (by decide) ?_
  rw [hgp, n_1, pk_sub hn1, pk_mul]
  have q := lp_X6_wideOf hB N gp W ww hN20 hgp hgp20 hW hww hwb f n hn1 hfn 0 (Nat.zero_le n)
  exact q
theorem th_a {W gp : Nat} {ww : Nat → Nat} {c : Nat → Option Nat} {f n : Nat} (hW : W ≤ 400) (hwd : wd_w gp ww f n ≤ 20000) (h : nI W - nI (wd_w gp ww f n) < 0) : some (pv_i (-1)) = some (pv_i (en_m (cd_w W gp ww c f n))) := by
  have hgt : ¬ wd_w gp ww f n ≤ W := fun q => by
    rw [pk_sub q] at h
    exact nI_pos (by omega) h
  unfold cd_w
  rw [if_neg hgt]
  rfl
theorem th_b {W gp : Nat} {ww : Nat → Nat} {c : Nat → Option Nat} {f n : Nat} {x : Int32} (hc : ∀ j v, c j = some v → v ≤ 1000000) (hx : x = en_m (c (f + n))) (h : ¬ ¬ x = -1) : some (pv_i (-1)) = some (pv_i (en_m (cd_w W gp ww c f n))) := by
  have h : x = -1 := Classical.byContradiction h
  cases hcc : c (f + n) with
  | none => rw [cd_no hcc]; rfl
  | some r =>
    rw [hx, hcc] at h
    have := hc _ r hcc
    exact absurd h (nI_m1 (by omega))
theorem th_c {W gp : Nat} {ww : Nat → Nat} {c : Nat → Option Nat} {f n : Nat} {x : Int32} (hW : W ≤ 400) (hwd : wd_w gp ww f n ≤ 20000) (hx : x = en_m (c (f + n))) (h : ¬ x = -1) (h2 : ¬ nI W - nI (wd_w gp ww f n) < 0) : some (pv_i ((nI W - nI (wd_w gp ww f n)) * (nI W - nI (wd_w gp ww f n)) + x)) = some (pv_i (en_m (cd_w W gp ww c f n))) := by
  have hle : wd_w gp ww f n ≤ W := by
    rcases Nat.lt_or_ge W (wd_w gp ww f n) with q | q
    · exact absurd (pk_sneg (by omega) q) h2
    · exact q
  cases hcc : c (f + n) with
  | none => rw [hx, hcc] at h; exact absurd rfl h
  | some r =>
    rw [cd_yes hle hcc, hx, hcc, pk_sub hle, pk_mul]
    show some (pv_i (_ + nI r)) = _
    rw [nI_add]
    rfl
set_option maxRecDepth 100000 in
set_option maxHeartbeats 4000000 in
theorem t_X6_through {sh : SH} {mi : MI} {mr : MR} (hB : ba_c sh mr) (N gp W : Nat) (ww : Nat → Nat) (hN20 : N ≤ 20) (hgp : mi 50 0 = nI gp) (hgp20 : gp ≤ 20) (hW : W ≤ 400) (hww : ∀ i, i < N → mi 52 i = nI (ww i)) (hwb : ∀ i, i < N → ww i ≤ 800) (f n : Nat) (hn1 : 1 ≤ n) (hfn : f + n ≤ N) (l : Nat) (hl1 : 1 ≤ l) (hl6 : l ≤ 6) (c : Nat → Option Nat) (hc : ∀ j v, c j = some v → v ≤ 1000000) (hrow : ∀ j, j ≤ N → mi 53 (21 * (l - 1) + j) = en_m (c j)) : EV none 1 0 0 mX6_through 0 (en_l mX6_through [pv_r 29, pv_i (nI f), pv_i (nI n), pv_i (nI l), pv_i (nI W)]) [] sh mi mr (ok_r sh mr (en_m (cd_w W gp ww c f n)) mi) := by
  show EV none 1 0 0 mX6_through 0 [some (pv_r 29), some (pv_i (nI f)), some (pv_i (nI n)), some (pv_i (nI l)), some (pv_i (nI W)), none, none] [] sh mi mr _
  refine ev_iload dX6_through_0 rfl ?_
  refine ev_aload_n dX6_through_2 rfl ?_
  refine ev_iload_n dX6_through_3 rfl ?_
  refine ev_iload_n dX6_through_4 rfl ?_
  refine ev_v2i dX6_through_5 cv_X6_171 (hB.1 29 _ rfl) (Nat.le_of_ble_eq_true rfl) (by decide) (t_X6_wideOf hB N gp W ww hN20 hgp hgp20 hW hww hwb f n hn1 hfn) ?_
  have hsb := sw_b (f := f) hwb n (by omega)
  have hkg : n * gp ≤ 20 * 20 := Nat.mul_le_mul (by omega) hgp20
  have hwd : wd_w gp ww f n ≤ 20000 := by unfold wd_w; omega
  refine ev_isub dX6_through_8 ?_
  refine ev_istore dX6_through_9 (by decide) ?_
  refine ev_aload_n dX6_through_11 rfl ?_
  refine ev_getq dX6_through_12 fl_X6_80 rfl (hB.1 29 _ rfl) (hB.2 29 29 _ rfl) ?_
  refine ev_bipush (v := 21) dX6_through_15 rfl ?_
  refine ev_iload_n dX6_through_17 rfl ?_
  refine ev_iconst (v := 1) dX6_through_18 rfl ?_
  refine ev_isub dX6_through_19 ?_
  refine ev_imul dX6_through_20 ?_
  refine ev_iload_n dX6_through_21 rfl ?_
  refine ev_iadd dX6_through_22 ?_
  refine ev_iload_n dX6_through_23 rfl ?_
  refine ev_iadd dX6_through_24 ?_
  refine ev_iald dX6_through_25 (hB.1 53 _ rfl) (j := 21 * (l - 1) + f + n) (by rw [n_1, pk_sub hl1, n_21, pk_mul, nI_add, nI_add]) (by omega) (by decide) ?_
  refine ev_istore dX6_through_26 (by decide) ?_
  refine ev_iload dX6_through_28 rfl ?_
  refine ev_if_lt (tgt := 39) dX6_through_30 rfl (fun h30 => ?_) (fun h30 => ?_)
  · refine ev_iconst (v := (-1)) dX6_through_39 rfl ?_
    refine ev_goto (tgt := 51) dX6_through_40 rfl ?_
    exact ev_ireturn (ty := .int) dX6_through_51 rfl rfl ⟨th_a hW hwd h30, rfl, rfl, rfl⟩
  · have hrd : mi 53 (21 * (l - 1) + f + n) = en_m (c (f + n)) := by rw [Nat.add_assoc]; exact hrow _ (by omega)
    refine ev_iload dX6_through_33 rfl ?_
    refine ev_iconst (v := (-1)) dX6_through_35 rfl ?_
    refine ev_icmp_ne (tgt := 43) dX6_through_36 rfl (fun h36 => ?_) (fun h36 => ?_)
    · refine ev_iload dX6_through_43 rfl ?_
      refine ev_iload dX6_through_45 rfl ?_
      refine ev_imul dX6_through_47 ?_
      refine ev_iload dX6_through_48 rfl ?_
      refine ev_iadd dX6_through_50 ?_
      exact ev_ireturn (ty := .int) dX6_through_51 rfl rfl ⟨th_c hW hwd hrd h36 h30, rfl, rfl, rfl⟩
    · refine ev_iconst (v := (-1)) dX6_through_39 rfl ?_
      refine ev_goto (tgt := 51) dX6_through_40 rfl ?_
      exact ev_ireturn (ty := .int) dX6_through_51 rfl rfl ⟨th_b hc hrd (fun q => q h36), rfl, rfl, rfl⟩
def dn (t : Nat) : Int32 := match t with
  | 0 => -1
  | f + 1 => nI f
theorem dn_s (f : Nat) : nI f + Int32.ofInt (-1) = dn f := by
  cases f with
  | zero => decide
  | succ f => exact pk_m1 f
theorem em_n {v : Option Nat} (hv : ∀ x, v = some x → x ≤ 1000000000) (h : en_m v = -1) : v = none := by
  cases v with
  | none => rfl
  | some x =>
    have := hv x rfl
    exact absurd h (nI_m1 (by omega))
theorem em_s {v : Option Nat} (h : ¬ en_m v = -1) : ∃ x, v = some x ∧ en_m v = nI x := by
  cases v with
  | none => exact absurd rfl h
  | some x => exact ⟨x, rfl, rfl⟩
theorem bs_mb {W gp : Nat} {ww : Nat → Nat} {c : Nat → Option Nat} {f k x : Nat} (hW : W ≤ 400) (hc : ∀ j v, c j = some v → v ≤ 1000000) (h : (bs_w W gp ww c f k).map (fun p => p.1) = some x) : x ≤ 1000000000 := by
  cases hb : bs_w W gp ww c f k with
  | none => rw [hb] at h; cases h
  | some p =>
    rw [hb] at h
    cases h
    obtain ⟨-, -, h3, -, -⟩ := bs_p _ p hb
    exact bs_le hW hc h3
theorem bs_no0 {W gp : Nat} {ww : Nat → Nat} {c : Nat → Option Nat} {f k v b : Nat} (h : cd_w W gp ww c f (k + 1) = some v) (hb : (bs_w W gp ww c f k).map (fun p => p.1) = some b) (h2 : ¬ v < b) : bs_w W gp ww c f (k + 1) = bs_w W gp ww c f k := by
  show bs_s (bs_w W gp ww c f k) (cd_w W gp ww c f (k + 1)) (k + 1) = _
  rw [h]
  cases hb2 : bs_w W gp ww c f k with
  | none => rw [hb2] at hb; cases hb
  | some p =>
    rw [hb2] at hb
    cases hb
    exact if_neg (c := v < p.1) h2
set_option maxRecDepth 100000 in
set_option maxHeartbeats 4000000 in
theorem lp_X6_brk3 {N : Nat} {sh : SH} {mi : MI} {mr : MR} (hB : ba_c sh mr) (hN : mi 29 27 = nI N) (gp W : Nat) (ww : Nat → Nat) (hN20 : N ≤ 20) (hgp : mi 50 0 = nI gp) (hgp20 : gp ≤ 20) (hW : W ≤ 400) (hww : ∀ i, i < N → mi 52 i = nI (ww i)) (hwb : ∀ i, i < N → ww i ≤ 800) (K : Nat) (l f : Nat) (hl1 : 1 ≤ l) (hl6 : l ≤ 6) (hf : f ≤ N) (c : Nat → Option Nat) (hc : ∀ j v, c j = some v → v ≤ 1000000) (hrow : ∀ j, j ≤ N → mi 53 (21 * (l - 1) + j) = en_m (c j)) (Po : PO) (hcont : EV none 2 0 0 mX6_broken 141 [some (pv_r 29), some (pv_i (nI W)), some (pv_i (nI K)), some (pv_i (nI l)), some (pv_i (nI f)), some (pv_i (en_m ((bs_w W gp ww c f (N - f)).map (fun p => p.1)))), none, none] [] sh mi mr Po) : ∀ k, k ≤ N - f → EV none 2 0 0 mX6_broken 79 [some (pv_r 29), some (pv_i (nI W)), some (pv_i (nI K)), some (pv_i (nI l)), some (pv_i (nI f)), some (pv_i (en_m ((bs_w W gp ww c f k).map (fun p => p.1)))), some (pv_i (nI (k + 1))), none] [] sh mi mr Po := by
  refine lp_i (N - f) (fun k hk ih => ?_)
  refine ev_iload dX6_broken_79 rfl ?_
  refine ev_aload_n dX6_broken_81 rfl ?_
  refine ev_geti dX6_broken_82 fl_X6_168 rfl (hB.1 29 _ rfl) ?_
  refine ev_iload dX6_broken_85 rfl ?_
  refine ev_isub dX6_broken_87 ?_
  refine ev_icmp_gt (tgt := 141) dX6_broken_88 rfl (fun h88 => ?_) (fun h88 => ?_)
  · have hin : k = N - f := by rw [hN, pk_sub hf] at h88; have := (nI_ltI (by omega) (by omega)).mp h88; omega
    rw [hin]
    exact ev_fg 6 hcont
  · have hlt : k < N - f := by rw [hN, pk_sub hf] at h88; have := (not_congr (nI_ltI (a := N - f) (b := k + 1) (by omega) (by omega))).mp h88; omega
    refine ev_iload_n dX6_broken_91 rfl ?_
    refine ev_if_le_f (tgt := 141) dX6_broken_92 rfl (nI_nle hl1 (by omega)) ?_
    refine ev_aload_n dX6_broken_95 rfl ?_
    refine ev_iload dX6_broken_96 rfl ?_
    refine ev_iload dX6_broken_98 rfl ?_
    refine ev_iload_n dX6_broken_100 rfl ?_
    refine ev_iload_n dX6_broken_101 rfl ?_
    refine ev_v4i dX6_broken_102 cv_X6_178 (hB.1 29 _ rfl) (Nat.le_of_ble_eq_true rfl) (by decide) (t_X6_through hB N gp W ww hN20 hgp hgp20 hW hww hwb f (k + 1) (by omega) (by omega) l hl1 hl6 c hc hrow) ?_
    refine ev_istore dX6_broken_105 (by decide) ?_
    refine ev_iload dX6_broken_107 rfl ?_
    refine ev_iconst (v := (-1)) dX6_broken_109 rfl ?_
    refine ev_icmp_eq (tgt := 131) dX6_broken_110 rfl (fun h110 => ?_) (fun h110 => ?_)
    · refine ev_iload dX6_broken_131 rfl ?_
      refine ev_istore dX6_broken_133 (by decide) ?_
      refine ev_iincN dX6_broken_135 rfl (by decide) ?_
      refine ev_goto (tgt := 79) dX6_broken_138 rfl ?_
      have q := ih hlt
      rw [bs_sk (em_n (fun x hx => bs_le hW hc hx) h110)] at q
      exact ev_fg 7 q
    · refine ev_iload dX6_broken_113 rfl ?_
      refine ev_iconst (v := (-1)) dX6_broken_115 rfl ?_
      refine ev_icmp_eq (tgt := 126) dX6_broken_116 rfl (fun h116 => ?_) (fun h116 => ?_)
      · refine ev_iload dX6_broken_126 rfl ?_
        refine ev_goto (tgt := 133) dX6_broken_128 rfl ?_
        refine ev_istore dX6_broken_133 (by decide) ?_
        refine ev_iincN dX6_broken_135 rfl (by decide) ?_
        refine ev_goto (tgt := 79) dX6_broken_138 rfl ?_
        obtain ⟨v, hv, hv2⟩ := em_s h110
        have hvb := bs_le hW hc hv
        have q := ih hlt
        have hbn : bs_w W gp ww c f k = none := by
          have := em_n (fun x hx => bs_mb hW hc hx) h116
          cases hb : bs_w W gp ww c f k with
          | none => rfl
          | some p => rw [hb] at this; cases this
        rw [show bs_w W gp ww c f (k + 1) = some (v, k + 1) by show bs_s _ _ _ = _; rw [hv, hbn]; rfl] at q
        rw [hv2]
        exact ev_fg 7 q
      · refine ev_iload dX6_broken_119 rfl ?_
        refine ev_iload dX6_broken_121 rfl ?_
        refine ev_icmp_ge (tgt := 131) dX6_broken_123 rfl (fun h123 => ?_) (fun h123 => ?_)
        · refine ev_iload dX6_broken_131 rfl ?_
          refine ev_istore dX6_broken_133 (by decide) ?_
          refine ev_iincN dX6_broken_135 rfl (by decide) ?_
          refine ev_goto (tgt := 79) dX6_broken_138 rfl ?_
          obtain ⟨v, hv, hv2⟩ := em_s h110
          have hvb := bs_le hW hc hv
          have q := ih hlt
          obtain ⟨b, hb, hb2⟩ := em_s h116
          have hbb := bs_mb hW hc hb
          rw [hv2, hb2] at h123
          have hen : en_c ((bs_w W gp ww c f k).map (fun p => p.1)) = b := by rw [hb]; rfl
          rw [bs_no0 hv hb (by have := (nI_leI (by omega) (by omega)).mp h123; omega)] at q
          exact ev_fg 7 q
        · refine ev_iload dX6_broken_126 rfl ?_
          refine ev_goto (tgt := 133) dX6_broken_128 rfl ?_
          refine ev_istore dX6_broken_133 (by decide) ?_
          refine ev_iincN dX6_broken_135 rfl (by decide) ?_
          refine ev_goto (tgt := 79) dX6_broken_138 rfl ?_
          obtain ⟨v, hv, hv2⟩ := em_s h110
          have hvb := bs_le hW hc hv
          have q := ih hlt
          obtain ⟨b, hb, hb2⟩ := em_s h116
          have hbb := bs_mb hW hc hb
          rw [hv2, hb2] at h123
          have hen : en_c ((bs_w W gp ww c f k).map (fun p => p.1)) = b := by rw [hb]; rfl
          rw [bs_up hv (by rw [hen]; have := (not_congr (nI_leI (by omega) (by omega))).mp h123; omega)] at q
          rw [hv2]
          exact ev_fg 7 q
set_option maxRecDepth 100000 in
set_option maxHeartbeats 4000000 in
theorem lp_X6_row0 {sh : SH} {mi : MI} {mr : MR} (hB : ba_c sh mr) (N gp W : Nat) (ww : Nat → Nat) (hN : mi 29 27 = nI N) (hN1 : 1 ≤ N) (hN20 : N ≤ 20) (hgp : mi 50 0 = nI gp) (hgp20 : gp ≤ 20) (hW : W ≤ 400) (hww : ∀ i, i < N → mi 52 i = nI (ww i)) (hwb : ∀ i, i < N → ww i ≤ 800) (K : Nat) (hK1 : 1 ≤ K) (hK6 : K ≤ 6) (Po : PO) (hcont : ∀ m, (∀ a c, a ≠ 53 → m a c = mi a c) → (∀ l2, l2 < 1 → ∀ j, j ≤ N → m 53 (21 * l2 + j) = en_m (cs_w N W gp ww l2 j)) → EV none 2 0 0 mX6_broken 161 [some (pv_r 29), some (pv_i (nI W)), some (pv_i (nI K)), some (pv_i 0), none, none, none, none] [] sh m mr Po) : ∀ t, t ≤ N + 1 → ∀ m, (∀ a c, a ≠ 53 → m a c = mi a c) → (∀ j, t ≤ j → j ≤ N → m 53 (21 * 0 + j) = en_m (cs_w N W gp ww 0 j)) → EV none 2 0 0 mX6_broken 51 [some (pv_r 29), some (pv_i (nI W)), some (pv_i (nI K)), some (pv_i 0), some (pv_i (dn t)), none, none, none] [] sh m mr Po := by
  intro t
  induction t with
  | zero =>
    intro _ m hag hrd
    show EV none 2 0 0 mX6_broken 51 [some (pv_r 29), some (pv_i (nI W)), some (pv_i (nI K)), some (pv_i 0), some (pv_i (-1)), none, none, none] [] sh m mr Po
    refine ev_iload dX6_broken_51 rfl ?_
    refine ev_if_lt_t (tgt := 161) dX6_broken_53 rfl (by decide) ?_
    exact ev_fg 4 (hcont m hag (fun l2 hl2 j hj => by rw [show l2 = 0 by omega]; exact hrd j (Nat.zero_le j) hj))
  | succ t ih =>
    intro ht m hag hrd
    have hN2 : m 29 27 = nI N := (hag 29 27 (by decide)).trans hN
    show EV none 2 0 0 mX6_broken 51 [some (pv_r 29), some (pv_i (nI W)), some (pv_i (nI K)), some (pv_i 0), some (pv_i (nI t)), none, none, none] [] sh m mr Po
    refine ev_iload dX6_broken_51 rfl ?_
    refine ev_if_lt_f (tgt := 161) dX6_broken_53 rfl (nI_pos (by omega)) ?_
    refine ev_iload_n dX6_broken_56 rfl ?_
    refine ev_if_ne_f (tgt := 73) dX6_broken_57 rfl (by decide) ?_
    refine ev_iload dX6_broken_60 rfl ?_
    refine ev_aload_n dX6_broken_62 rfl ?_
    refine ev_geti dX6_broken_63 fl_X6_168 rfl (hB.1 29 _ rfl) ?_
    refine ev_icmp_ne (tgt := 73) dX6_broken_66 rfl (fun h66 => ?_) (fun h66 => ?_)
    · refine ev_iconst (v := (-1)) dX6_broken_73 rfl ?_
      refine ev_istore dX6_broken_74 (by decide) ?_
      refine ev_iconst (v := 1) dX6_broken_76 rfl ?_
      refine ev_istore dX6_broken_77 (by decide) ?_
      refine ev_iload dX6_broken_79 rfl ?_
      refine ev_aload_n dX6_broken_81 rfl ?_
      refine ev_geti dX6_broken_82 fl_X6_168 rfl (hB.1 29 _ rfl) ?_
      refine ev_iload dX6_broken_85 rfl ?_
      refine ev_isub dX6_broken_87 ?_
      refine ev_icmp_gt (tgt := 141) dX6_broken_88 rfl (fun h88 => ?_) (fun h88 => ?_)
      · refine ev_aload_n dX6_broken_141 rfl ?_
        refine ev_getq dX6_broken_142 fl_X6_80 rfl (hB.1 29 _ rfl) (hB.2 29 29 _ rfl) ?_
        refine ev_bipush (v := 21) dX6_broken_145 rfl ?_
        refine ev_iload_n dX6_broken_147 rfl ?_
        refine ev_imul dX6_broken_148 ?_
        refine ev_iload dX6_broken_149 rfl ?_
        refine ev_iadd dX6_broken_151 ?_
        refine ev_iload dX6_broken_152 rfl ?_
        refine ev_iast dX6_broken_154 (hB.1 53 _ rfl) (j := t) (by simp) (by omega) (by decide) ?_
        refine ev_iinc dX6_broken_155 rfl rfl (by decide) ?_
        refine ev_goto (tgt := 51) dX6_broken_158 rfl ?_
        have h0 : ¬ t = N := (not_congr (nl_eq (x := nI t) rfl hN2 (by omega) (by omega))).mp h66
        rw [dn_s]
        refine ev_fg 5 (ev_fg 6 (ih (by omega) _ (fun a c h1 => (up_ne (Or.inl h1)).trans (hag a c h1)) (fun j hj1 hj2 => ?_)))
        by_cases e : j = t
        · subst e; rw [show 21 * 0 + j = j by omega, up_at, show cs_w N W gp ww 0 j = none from if_neg h0]; rfl
        · exact (up_ne (Or.inr (by omega))).trans (hrd j (by omega) hj2)
      · refine ev_iload_n dX6_broken_91 rfl ?_
        refine ev_if_le_t (tgt := 141) dX6_broken_92 rfl (by decide) ?_
        refine ev_aload_n dX6_broken_141 rfl ?_
        refine ev_getq dX6_broken_142 fl_X6_80 rfl (hB.1 29 _ rfl) (hB.2 29 29 _ rfl) ?_
        refine ev_bipush (v := 21) dX6_broken_145 rfl ?_
        refine ev_iload_n dX6_broken_147 rfl ?_
        refine ev_imul dX6_broken_148 ?_
        refine ev_iload dX6_broken_149 rfl ?_
        refine ev_iadd dX6_broken_151 ?_
        refine ev_iload dX6_broken_152 rfl ?_
        refine ev_iast dX6_broken_154 (hB.1 53 _ rfl) (j := t) (by simp) (by omega) (by decide) ?_
        refine ev_iinc dX6_broken_155 rfl rfl (by decide) ?_
        refine ev_goto (tgt := 51) dX6_broken_158 rfl ?_
        have h0 : ¬ t = N := (not_congr (nl_eq (x := nI t) rfl hN2 (by omega) (by omega))).mp h66
        rw [dn_s]
        refine ev_fg 5 (ev_fg 6 (ih (by omega) _ (fun a c h1 => (up_ne (Or.inl h1)).trans (hag a c h1)) (fun j hj1 hj2 => ?_)))
        by_cases e : j = t
        · subst e; rw [show 21 * 0 + j = j by omega, up_at, show cs_w N W gp ww 0 j = none from if_neg h0]; rfl
        · exact (up_ne (Or.inr (by omega))).trans (hrd j (by omega) hj2)
    · refine ev_iconst (v := 0) dX6_broken_69 rfl ?_
      refine ev_goto (tgt := 74) dX6_broken_70 rfl ?_
      refine ev_istore dX6_broken_74 (by decide) ?_
      refine ev_iconst (v := 1) dX6_broken_76 rfl ?_
      refine ev_istore dX6_broken_77 (by decide) ?_
      refine ev_iload dX6_broken_79 rfl ?_
      refine ev_aload_n dX6_broken_81 rfl ?_
      refine ev_geti dX6_broken_82 fl_X6_168 rfl (hB.1 29 _ rfl) ?_
      refine ev_iload dX6_broken_85 rfl ?_
      refine ev_isub dX6_broken_87 ?_
      refine ev_icmp_gt (tgt := 141) dX6_broken_88 rfl (fun h88 => ?_) (fun h88 => ?_)
      · refine ev_aload_n dX6_broken_141 rfl ?_
        refine ev_getq dX6_broken_142 fl_X6_80 rfl (hB.1 29 _ rfl) (hB.2 29 29 _ rfl) ?_
        refine ev_bipush (v := 21) dX6_broken_145 rfl ?_
        refine ev_iload_n dX6_broken_147 rfl ?_
        refine ev_imul dX6_broken_148 ?_
        refine ev_iload dX6_broken_149 rfl ?_
        refine ev_iadd dX6_broken_151 ?_
        refine ev_iload dX6_broken_152 rfl ?_
        refine ev_iast dX6_broken_154 (hB.1 53 _ rfl) (j := t) (by simp) (by omega) (by decide) ?_
        refine ev_iinc dX6_broken_155 rfl rfl (by decide) ?_
        refine ev_goto (tgt := 51) dX6_broken_158 rfl ?_
        have h0 : t = N := (nl_eq (x := nI t) rfl hN2 (by omega) (by omega)).mp h66
        rw [dn_s]
        refine ev_fg 5 (ev_fg 6 (ih (by omega) _ (fun a c h1 => (up_ne (Or.inl h1)).trans (hag a c h1)) (fun j hj1 hj2 => ?_)))
        by_cases e : j = t
        · subst e; rw [show 21 * 0 + j = j by omega, up_at, show cs_w N W gp ww 0 j = some 0 from if_pos h0]; rfl
        · exact (up_ne (Or.inr (by omega))).trans (hrd j (by omega) hj2)
      · refine ev_iload_n dX6_broken_91 rfl ?_
        refine ev_if_le_t (tgt := 141) dX6_broken_92 rfl (by decide) ?_
        refine ev_aload_n dX6_broken_141 rfl ?_
        refine ev_getq dX6_broken_142 fl_X6_80 rfl (hB.1 29 _ rfl) (hB.2 29 29 _ rfl) ?_
        refine ev_bipush (v := 21) dX6_broken_145 rfl ?_
        refine ev_iload_n dX6_broken_147 rfl ?_
        refine ev_imul dX6_broken_148 ?_
        refine ev_iload dX6_broken_149 rfl ?_
        refine ev_iadd dX6_broken_151 ?_
        refine ev_iload dX6_broken_152 rfl ?_
        refine ev_iast dX6_broken_154 (hB.1 53 _ rfl) (j := t) (by simp) (by omega) (by decide) ?_
        refine ev_iinc dX6_broken_155 rfl rfl (by decide) ?_
        refine ev_goto (tgt := 51) dX6_broken_158 rfl ?_
        have h0 : t = N := (nl_eq (x := nI t) rfl hN2 (by omega) (by omega)).mp h66
        rw [dn_s]
        refine ev_fg 5 (ev_fg 6 (ih (by omega) _ (fun a c h1 => (up_ne (Or.inl h1)).trans (hag a c h1)) (fun j hj1 hj2 => ?_)))
        by_cases e : j = t
        · subst e; rw [show 21 * 0 + j = j by omega, up_at, show cs_w N W gp ww 0 j = some 0 from if_pos h0]; rfl
        · exact (up_ne (Or.inr (by omega))).trans (hrd j (by omega) hj2)
set_option maxRecDepth 100000 in
set_option maxHeartbeats 4000000 in
theorem lp_X6_rowl {sh : SH} {mi : MI} {mr : MR} (hB : ba_c sh mr) (N gp W : Nat) (ww : Nat → Nat) (hN : mi 29 27 = nI N) (hN1 : 1 ≤ N) (hN20 : N ≤ 20) (hgp : mi 50 0 = nI gp) (hgp20 : gp ≤ 20) (hW : W ≤ 400) (hww : ∀ i, i < N → mi 52 i = nI (ww i)) (hwb : ∀ i, i < N → ww i ≤ 800) (K : Nat) (hK1 : 1 ≤ K) (hK6 : K ≤ 6) (Po : PO) (l : Nat) (hl1 : 1 ≤ l) (hlK : l ≤ K) (hcont : ∀ m, (∀ a c, a ≠ 53 → m a c = mi a c) → (∀ l2, l2 < (l + 1) → ∀ j, j ≤ N → m 53 (21 * l2 + j) = en_m (cs_w N W gp ww l2 j)) → EV none 2 0 0 mX6_broken 161 [some (pv_r 29), some (pv_i (nI W)), some (pv_i (nI K)), some (pv_i (nI l)), none, none, none, none] [] sh m mr Po) : ∀ t, t ≤ N + 1 → ∀ m, (∀ a c, a ≠ 53 → m a c = mi a c) → (∀ l2, l2 < l → ∀ j, j ≤ N → m 53 (21 * l2 + j) = en_m (cs_w N W gp ww l2 j)) → (∀ j, t ≤ j → j ≤ N → m 53 (21 * l + j) = en_m (cs_w N W gp ww l j)) → EV none 2 0 0 mX6_broken 51 [some (pv_r 29), some (pv_i (nI W)), some (pv_i (nI K)), some (pv_i (nI l)), some (pv_i (dn t)), none, none, none] [] sh m mr Po := by
  intro t
  induction t with
  | zero =>
    intro _ m hag hr hrd
    show EV none 2 0 0 mX6_broken 51 [some (pv_r 29), some (pv_i (nI W)), some (pv_i (nI K)), some (pv_i (nI l)), some (pv_i (-1)), none, none, none] [] sh m mr Po
    refine ev_iload dX6_broken_51 rfl ?_
    refine ev_if_lt_t (tgt := 161) dX6_broken_53 rfl (by decide) ?_
    exact ev_fg 4 (hcont m hag (fun l2 hl2 j hj => by
      by_cases e : l2 = l
      · subst e; exact hrd j (Nat.zero_le j) hj
      · exact hr l2 (by omega) j hj))
  | succ t ih =>
    intro ht m hag hr hrd
    have hN2 : m 29 27 = nI N := (hag 29 27 (by decide)).trans hN
    show EV none 2 0 0 mX6_broken 51 [some (pv_r 29), some (pv_i (nI W)), some (pv_i (nI K)), some (pv_i (nI l)), some (pv_i (nI t)), none, none, none] [] sh m mr Po
    refine ev_iload dX6_broken_51 rfl ?_
    refine ev_if_lt_f (tgt := 161) dX6_broken_53 rfl (nI_pos (by omega)) ?_
    refine ev_iload_n dX6_broken_56 rfl ?_
    refine ev_if_ne_t (tgt := 73) dX6_broken_57 rfl (nI_ne0 hl1 (by omega)) ?_
    refine ev_iconst (v := (-1)) dX6_broken_73 rfl ?_
    refine ev_istore dX6_broken_74 (by decide) ?_
    refine ev_iconst (v := 1) dX6_broken_76 rfl ?_
    refine ev_istore dX6_broken_77 (by decide) ?_
    have q := lp_X6_brk3 (mi := m) hB hN2 gp W ww hN20 ((hag 50 0 (by decide)).trans hgp) hgp20 hW (fun i hi => (hag 52 i (by decide)).trans (hww i hi)) hwb K l t hl1 (by omega) (by omega) (cs_w N W gp ww (l - 1)) (fun j v hv => by have h1 := cs_bd hW (l - 1) j v hv; have h2 : (l - 1) * 160000 ≤ 6 * 160000 := Nat.mul_le_mul_right _ (by omega); omega) (fun j hj => hr (l - 1) (by omega) j hj) Po ?_ 0 (Nat.zero_le _)
    · exact q
    · refine ev_aload_n dX6_broken_141 rfl ?_
      refine ev_getq dX6_broken_142 fl_X6_80 rfl (hB.1 29 _ rfl) (hB.2 29 29 _ rfl) ?_
      refine ev_bipush (v := 21) dX6_broken_145 rfl ?_
      refine ev_iload_n dX6_broken_147 rfl ?_
      refine ev_imul dX6_broken_148 ?_
      refine ev_iload dX6_broken_149 rfl ?_
      refine ev_iadd dX6_broken_151 ?_
      refine ev_iload dX6_broken_152 rfl ?_
      refine ev_iast dX6_broken_154 (hB.1 53 _ rfl) (j := 21 * l + t) (by rw [n_21, pk_mul, nI_add]) (by omega) (by decide) ?_
      refine ev_iinc dX6_broken_155 rfl rfl (by decide) ?_
      refine ev_goto (tgt := 51) dX6_broken_158 rfl ?_
      rw [dn_s]
      refine ev_fg 5 (ih (by omega) _ (fun a c h1 => (up_ne (Or.inl h1)).trans (hag a c h1)) (fun l2 hl2 j hj => (up_ne (Or.inr (by omega))).trans (hr l2 hl2 j hj)) (fun j hj1 hj2 => ?_))
      by_cases e : j = t
      · subst e; rw [up_at, cs_l hl1]
      · exact (up_ne (Or.inr (by omega))).trans (hrd j (by omega) hj2)
set_option maxRecDepth 100000 in
set_option maxHeartbeats 4000000 in
theorem lp_X6_brk7 {sh : SH} {mi : MI} {mr : MR} (hB : ba_c sh mr) (N gp W : Nat) (ww : Nat → Nat) (hN : mi 29 27 = nI N) (hN1 : 1 ≤ N) (hN20 : N ≤ 20) (hgp : mi 50 0 = nI gp) (hgp20 : gp ≤ 20) (hW : W ≤ 400) (hww : ∀ i, i < N → mi 52 i = nI (ww i)) (hwb : ∀ i, i < N → ww i ≤ 800) (K : Nat) (hK1 : 1 ≤ K) (hK6 : K ≤ 6) (L : Nat) (hL1 : 1 ≤ L) (hL6 : L ≤ 6) (v0 : Nat) (hv0 : cs_w N W gp ww L 0 = some v0) (hrows : ∀ l2, l2 ≤ L → ∀ j, j ≤ N → mi 53 (21 * l2 + j) = en_m (cs_w N W gp ww l2 j)) (Po : PO) (p3 : Int32) (i : Nat) (hi : i < L) (m : MI) (hag : (∀ a c, a ≠ 54 → m a c = mi a c)) (hLm : m 29 30 = nI L) (u : Nat) (hu : cs_w N W gp ww (L - i) (fr_w N W gp ww L i) = some u) (hbp1 : cd_w W gp ww (cs_w N W gp ww (L - i - 1)) (fr_w N W gp ww L i) (fw_w N W gp ww (L - i) (fr_w N W gp ww L i)) = some u) (hbp2 : ∀ n, 1 ≤ n → n < (fw_w N W gp ww (L - i) (fr_w N W gp ww L i)) → cd_w W gp ww (cs_w N W gp ww (L - i - 1)) (fr_w N W gp ww L i) n ≠ some u) (hub : u ≤ 1000000) (hfN : (fr_w N W gp ww L i) + (fw_w N W gp ww (L - i) (fr_w N W gp ww L i)) ≤ N) (hcont : EV none 2 0 0 mX6_broken 288 [some (pv_r 29), some (pv_i (nI W)), some (pv_i (nI K)), some (pv_i p3), some (pv_i (nI (fr_w N W gp ww L i))), some (pv_i (nI i)), some (pv_i (nI (fw_w N W gp ww (L - i) (fr_w N W gp ww L i)))), none] [] sh m mr Po) : ∀ n, n ≤ (fw_w N W gp ww (L - i) (fr_w N W gp ww L i)) → 1 ≤ n → EV none 2 0 0 mX6_broken 245 [some (pv_r 29), some (pv_i (nI W)), some (pv_i (nI K)), some (pv_i p3), some (pv_i (nI (fr_w N W gp ww L i))), some (pv_i (nI i)), some (pv_i (nI n)), none] [] sh m mr Po := by
  have hcv : m 53 (21 * (L - i) + (fr_w N W gp ww L i)) = nI u := by rw [hag 53 _ (by decide), hrows (L - i) (by omega) _ (by omega), hu]; rfl
  refine lp_i (fw_w N W gp ww (L - i) (fr_w N W gp ww L i)) (fun n hn0 ih => ?_)
  intro hn1
  refine ev_aload_n dX6_broken_245 rfl ?_
  refine ev_iload dX6_broken_246 rfl ?_
  refine ev_iload dX6_broken_248 rfl ?_
  refine ev_aload_n dX6_broken_250 rfl ?_
  refine ev_geti dX6_broken_251 fl_X6_182 rfl (hB.1 29 _ rfl) ?_
  refine ev_iload dX6_broken_254 rfl ?_
  refine ev_isub dX6_broken_256 ?_
  refine ev_iload_n dX6_broken_257 rfl ?_
  rw [hLm, pk_sub (a := L) (b := i) (by omega)]
  refine ev_v4i dX6_broken_258 cv_X6_178 (hB.1 29 _ rfl) (Nat.le_of_ble_eq_true rfl) (by decide) (t_X6_through (mi := m) hB N gp W ww hN20 ((hag 50 0 (by decide)).trans hgp) hgp20 hW (fun i hi => (hag 52 i (by decide)).trans (hww i hi)) hwb (fr_w N W gp ww L i) n hn1 (by omega) (L - i) (by omega) (by omega) (cs_w N W gp ww (L - i - 1)) (fun j v hv => by have h1 := cs_bd hW (L - i - 1) j v hv; have h2 : (L - i - 1) * 160000 ≤ 6 * 160000 := Nat.mul_le_mul_right _ (by omega); omega) (fun j hj => (hag 53 _ (by decide)).trans (hrows _ (by omega) j hj))) ?_
  refine ev_aload_n dX6_broken_261 rfl ?_
  refine ev_getq dX6_broken_262 fl_X6_80 rfl (hB.1 29 _ rfl) (hB.2 29 29 _ rfl) ?_
  refine ev_bipush (v := 21) dX6_broken_265 rfl ?_
  refine ev_aload_n dX6_broken_267 rfl ?_
  refine ev_geti dX6_broken_268 fl_X6_182 rfl (hB.1 29 _ rfl) ?_
  refine ev_iload dX6_broken_271 rfl ?_
  refine ev_isub dX6_broken_273 ?_
  refine ev_imul dX6_broken_274 ?_
  refine ev_iload dX6_broken_275 rfl ?_
  refine ev_iadd dX6_broken_277 ?_
  refine ev_iald dX6_broken_278 (hB.1 53 _ rfl) (j := 21 * (L - i) + (fr_w N W gp ww L i)) (by rw [hLm, pk_sub (by omega), n_21, pk_mul, nI_add]) (by omega) (by decide) ?_
  refine ev_icmp_eq (tgt := 288) dX6_broken_279 rfl (fun h279 => ?_) (fun h279 => ?_)
  · have hnf : n = (fw_w N W gp ww (L - i) (fr_w N W gp ww L i)) := by
      rw [hcv] at h279
      by_cases e : n = (fw_w N W gp ww (L - i) (fr_w N W gp ww L i))
      · exact e
      · exfalso
        cases hcd : cd_w W gp ww (cs_w N W gp ww (L - i - 1)) (fr_w N W gp ww L i) n with
        | none => rw [hcd] at h279; exact nI_m1 (by omega) h279.symm
        | some x =>
          rw [hcd] at h279
          have hx := bs_le hW (fun j v hv => by have h1 := cs_bd hW (L - i - 1) j v hv; have h2 : (L - i - 1) * 160000 ≤ 6 * 160000 := Nat.mul_le_mul_right _ (by omega); omega) hcd
          have ex : x = u := (nI_eq (by omega) (by omega)).mp h279
          rw [ex] at hcd
          exact hbp2 n hn1 (by omega) hcd
    rw [hnf]
    exact hcont
  · have hnf : n < (fw_w N W gp ww (L - i) (fr_w N W gp ww L i)) := by
      rcases Nat.lt_or_ge n (fw_w N W gp ww (L - i) (fr_w N W gp ww L i)) with e | e
      · exact e
      · have e2 : n = (fw_w N W gp ww (L - i) (fr_w N W gp ww L i)) := by omega
        exact absurd (by rw [hcv, e2, hbp1]; rfl) h279
    refine ev_iincN dX6_broken_282 rfl (by decide) ?_
    refine ev_goto (tgt := 245) dX6_broken_285 rfl ?_
    exact ih hnf (by omega)
theorem fw_p {N W gp : Nat} {ww : Nat → Nat} {l f u : Nat} (h : 1 ≤ l) (hu : cs_w N W gp ww l f = some u) : cd_w W gp ww (cs_w N W gp ww (l - 1)) f (fw_w N W gp ww l f) = some u ∧ ∀ n, 1 ≤ n → n < fw_w N W gp ww l f → cd_w W gp ww (cs_w N W gp ww (l - 1)) f n ≠ some u := by
  rw [cs_l h] at hu
  cases hb : bs_w W gp ww (cs_w N W gp ww (l - 1)) f (N - f) with
  | none => rw [hb] at hu; cases hu
  | some p =>
    rw [hb] at hu
    cases hu
    obtain ⟨-, -, h3, -, h5⟩ := bs_p _ p hb
    rw [fw_e, hb]
    exact ⟨h3, h5⟩
set_option maxRecDepth 100000 in
set_option maxHeartbeats 4000000 in
theorem lp_X6_brk6 {sh : SH} {mi : MI} {mr : MR} (hB : ba_c sh mr) (N gp W : Nat) (ww : Nat → Nat) (hN : mi 29 27 = nI N) (hN1 : 1 ≤ N) (hN20 : N ≤ 20) (hgp : mi 50 0 = nI gp) (hgp20 : gp ≤ 20) (hW : W ≤ 400) (hww : ∀ i, i < N → mi 52 i = nI (ww i)) (hwb : ∀ i, i < N → ww i ≤ 800) (K : Nat) (hK1 : 1 ≤ K) (hK6 : K ≤ 6) (L : Nat) (hL1 : 1 ≤ L) (hL6 : L ≤ 6) (v0 : Nat) (hv0 : cs_w N W gp ww L 0 = some v0) (hrows : ∀ l2, l2 ≤ L → ∀ j, j ≤ N → mi 53 (21 * l2 + j) = en_m (cs_w N W gp ww l2 j)) (p3 : Int32) : ∀ i, i ≤ L → ∀ m, (∀ a c, a ≠ 54 → m a c = mi a c) → m 29 30 = nI L → (∀ j, j < i → m 54 j = nI (fw_w N W gp ww (L - j) (fr_w N W gp ww L j))) → EV none 2 0 0 mX6_broken 233 [some (pv_r 29), some (pv_i (nI W)), some (pv_i (nI K)), some (pv_i p3), some (pv_i (nI (fr_w N W gp ww L i))), some (pv_i (nI i)), none, none] [] sh m mr (fun v_ sh_ mi_ mr_ => v_ = some (pv_i p3) ∧ sh_ = sh ∧ mr_ = mr ∧ (∀ a c, a ≠ 54 → mi_ a c = mi a c) ∧ ∀ i, i < L → mi_ 54 i = nI (fw_w N W gp ww (L - i) (fr_w N W gp ww L i))) := by
  refine lp_i L (fun i hi ih => ?_)
  intro m hag hLm hd
  refine ev_iload dX6_broken_233 rfl ?_
  refine ev_aload_n dX6_broken_235 rfl ?_
  refine ev_geti dX6_broken_236 fl_X6_182 rfl (hB.1 29 _ rfl) ?_
  refine ev_icmp_ge (tgt := 310) dX6_broken_239 rfl (fun h239 => ?_) (fun h239 => ?_)
  · have hin : L ≤ i := (nl_le hLm (b := i) rfl (by omega) (by omega)).mp h239
    refine ev_iload_n dX6_broken_310 rfl ?_
    exact ev_ireturn (ty := .int) dX6_broken_311 rfl rfl ⟨rfl, rfl, rfl, hag, fun j hj => hd j (by omega)⟩
  · have hlt : i < L := by have := (not_congr (nl_le hLm (b := i) rfl (by omega) (by omega))).mp h239; omega
    obtain ⟨u, hu⟩ := fr_ok hv0 i (by omega)
    obtain ⟨hf1, hf2⟩ := cs_in hu
    obtain ⟨hf3, hf4, hf5, -⟩ := hf2 (by omega)
    have hub : u ≤ 1000000 := by have h1 := cs_bd hW (L - i) _ u hu; have h2 : (L - i) * 160000 ≤ 6 * 160000 := Nat.mul_le_mul_right _ (by omega); omega
    obtain ⟨hq1, hq2⟩ := fw_p (by omega) hu
    refine ev_iconst (v := 1) dX6_broken_242 rfl ?_
    refine ev_istore dX6_broken_243 (by decide) ?_
    refine lp_X6_brk7 hB N gp W ww hN hN1 hN20 hgp hgp20 hW hww hwb K hK1 hK6 L hL1 hL6 v0 hv0 hrows _ p3 i hlt m hag hLm u hu hq1 hq2 hub (by omega) ?_ 1 (by omega) (by decide)
    refine ev_aload_n dX6_broken_288 rfl ?_
    refine ev_getq dX6_broken_289 fl_X6_83 rfl (hB.1 29 _ rfl) (hB.2 29 31 _ rfl) ?_
    refine ev_iload dX6_broken_292 rfl ?_
    refine ev_iload dX6_broken_294 rfl ?_
    refine ev_iast dX6_broken_296 (hB.1 54 _ rfl) (j := i) rfl (by omega) (by decide) ?_
    refine ev_iload dX6_broken_297 rfl ?_
    refine ev_iload dX6_broken_299 rfl ?_
    refine ev_iadd dX6_broken_301 ?_
    refine ev_istore dX6_broken_302 (by decide) ?_
    refine ev_iincN dX6_broken_304 rfl (by decide) ?_
    refine ev_goto (tgt := 233) dX6_broken_307 rfl ?_
    rw [nI_add]
    refine ev_fg 6 (ih hlt _ (fun a c h1 => (up_ne (Or.inl h1)).trans (hag a c h1)) ((up_ne (Or.inl (by decide))).trans hLm) (fun j hj => ?_))
    by_cases e : j = i
    · subst e; exact up_at
    · exact (up_ne (Or.inr e)).trans (hd j (by omega))
theorem bl_none {N W gp : Nat} {ww : Nat → Nat} (hN1 : 1 ≤ N) : cs_w N W gp ww 0 0 = none := if_neg (by omega)
set_option maxRecDepth 100000 in
set_option maxHeartbeats 4000000 in
theorem ev_zero {sh : SH} {m : MI} {mr : MR} (hB : ba_c sh mr) (N gp W : Nat) (ww : Nat → Nat) (K : Nat) {p3 : Int32} (hlm : m 29 30 = nI 0) {Po : PO} (hp : Po (some (pv_i p3)) sh m mr) : EV none 2 0 0 mX6_broken 233 [some (pv_r 29), some (pv_i (nI W)), some (pv_i (nI K)), some (pv_i p3), some (pv_i 0), some (pv_i 0), none, none] [] sh m mr Po := by
  refine ev_iload dX6_broken_233 rfl ?_
  refine ev_aload_n dX6_broken_235 rfl ?_
  refine ev_geti dX6_broken_236 fl_X6_182 rfl (hB.1 29 _ rfl) ?_
  refine ev_icmp_ge_t (tgt := 310) dX6_broken_239 rfl (by rw [hlm]; decide) ?_
  refine ev_iload_n dX6_broken_310 rfl ?_
  exact ev_ireturn (ty := .int) dX6_broken_311 rfl rfl hp
set_option maxRecDepth 100000 in
set_option maxHeartbeats 4000000 in
theorem lp_X6_brk5 {sh : SH} {mi : MI} {mr : MR} (hB : ba_c sh mr) (N gp W : Nat) (ww : Nat → Nat) (hN : mi 29 27 = nI N) (hN1 : 1 ≤ N) (hN20 : N ≤ 20) (hgp : mi 50 0 = nI gp) (hgp20 : gp ≤ 20) (hW : W ≤ 400) (hww : ∀ i, i < N → mi 52 i = nI (ww i)) (hwb : ∀ i, i < N → ww i ≤ 800) (K : Nat) (hK1 : 1 ≤ K) (hK6 : K ≤ 6) (hrows : ∀ l2, l2 ≤ K → ∀ j, j ≤ N → mi 53 (21 * l2 + j) = en_m (cs_w N W gp ww l2 j)) : ∀ l, l ≤ K + 1 → 1 ≤ l → ∀ (p3 : Int32) m, p3 = (if (bl_w N W gp ww (l - 1)) = 0 then -1 else nI (en_c (cs_w N W gp ww (bl_w N W gp ww (l - 1)) 0))) → (∀ a c, ¬ (a = 29 ∧ c = 30) → m a c = mi a c) → m 29 30 = nI (bl_w N W gp ww (l - 1)) → EV none 2 0 0 mX6_broken 177 [some (pv_r 29), some (pv_i (nI W)), some (pv_i (nI K)), some (pv_i p3), some (pv_i (nI l)), none, none, none] [] sh m mr (fun v_ sh_ mi_ mr_ => v_ = some (pv_i (if (bl_w N W gp ww K) = 0 then -1 else nI (en_c (cs_w N W gp ww (bl_w N W gp ww K) 0)))) ∧ sh_ = sh ∧ mr_ = mr ∧ (∀ a c, a ≠ 54 → ¬ (a = 29 ∧ c = 30) → mi_ a c = mi a c) ∧ mi_ 29 30 = nI (bl_w N W gp ww K) ∧ ∀ i, i < (bl_w N W gp ww K) → mi_ 54 i = nI (fw_w N W gp ww ((bl_w N W gp ww K) - i) (fr_w N W gp ww (bl_w N W gp ww K) i))) := by
  refine lp_i (K + 1) (fun l hl0 ih => ?_)
  intro hl1 p3 m hp3 hag hlm
  refine ev_iload dX6_broken_177 rfl ?_
  refine ev_iload_n dX6_broken_179 rfl ?_
  refine ev_icmp_gt (tgt := 227) dX6_broken_180 rfl (fun h180 => ?_) (fun h180 => ?_)
  · have hin : K < l := (nl_lt (x := nI K) rfl (b := l) rfl (by omega) (by omega)).mp h180
    refine ev_iconst (v := 0) dX6_broken_227 rfl ?_
    refine ev_istore dX6_broken_228 (by decide) ?_
    refine ev_iconst (v := 0) dX6_broken_230 rfl ?_
    refine ev_istore dX6_broken_231 (by decide) ?_
    have ekl : l - 1 = K := by omega
    rw [ekl] at hp3 hlm
    by_cases e0 : (bl_w N W gp ww K) = 0
    · rw [e0] at hlm
      refine ev_zero hB N gp W ww K hlm ?_
      exact ⟨by rw [hp3], rfl, rfl, fun a c h1 h2 => hag a c h2, by rw [e0]; exact hlm, fun i hi => by omega⟩
    · obtain ⟨v0, hv0⟩ := bl_some hW K hK6 e0
      have hbK := bl_le (N := N) (W := W) (gp := gp) (ww := ww) K
      have q := lp_X6_brk6 (mi := m) hB N gp W ww ((hag 29 27 (by decide)).trans hN) hN1 hN20 ((hag 50 0 (by decide)).trans hgp) hgp20 hW (fun i hi => (hag 52 i (by omega)).trans (hww i hi)) hwb K hK1 hK6 (bl_w N W gp ww K) (by omega) (by omega) v0 hv0 (fun l2 h1 j hj => (hag 53 _ (by omega)).trans (hrows l2 (by omega) j hj)) p3 0 (Nat.zero_le _) m (fun _ _ _ => rfl) hlm (fun j hj => by omega)
      exact ev_post (fun v_ s_ m_ r_ h_ => ⟨by rw [h_.1, hp3], h_.2.1, h_.2.2.1, fun a c h1 h2 => (h_.2.2.2.1 a c h1).trans (hag a c h2), (h_.2.2.2.1 29 30 (by decide)).trans hlm, h_.2.2.2.2⟩) q
  · have hlt : l ≤ K := by have := (not_congr (nl_lt (x := nI K) rfl (b := l) rfl (by omega) (by omega))).mp h180; omega
    have hcst : m 53 (21 * l) = en_m (cs_w N W gp ww l 0) := by rw [hag 53 _ (by omega)]; have := hrows l hlt 0 (by omega); rw [Nat.add_zero] at this; exact this
    have hbl := bl_le (N := N) (W := W) (gp := gp) (ww := ww) (l - 1)
    refine ev_aload_n dX6_broken_183 rfl ?_
    refine ev_getq dX6_broken_184 fl_X6_80 rfl (hB.1 29 _ rfl) (hB.2 29 29 _ rfl) ?_
    refine ev_bipush (v := 21) dX6_broken_187 rfl ?_
    refine ev_iload dX6_broken_189 rfl ?_
    refine ev_imul dX6_broken_191 ?_
    refine ev_iald dX6_broken_192 (hB.1 53 _ rfl) (j := 21 * l) (by rw [n_21, pk_mul]) (by omega) (by decide) ?_
    refine ev_istore dX6_broken_193 (by decide) ?_
    refine ev_iload dX6_broken_195 rfl ?_
    refine ev_iconst (v := (-1)) dX6_broken_197 rfl ?_
    refine ev_icmp_eq (tgt := 221) dX6_broken_198 rfl (fun h198 => ?_) (fun h198 => ?_)
    · refine ev_iincN dX6_broken_221 rfl (by decide) ?_
      refine ev_goto (tgt := 177) dX6_broken_224 rfl ?_
      have hcn := em_n (fun x hx => by have h1 := cs_bd hW l 0 x hx; have h2 : l * 160000 ≤ 6 * 160000 := Nat.mul_le_mul_right _ (by omega); omega) (hcst.symm.trans h198)
      have hnlt : ¬ en_c (cs_w N W gp ww l 0) < en_c (cs_w N W gp ww (bl_w N W gp ww (l - 1)) 0) := by rw [hcn]; have := en_le (N := N) (gp := gp) (ww := ww) hW (f := 0) (l := bl_w N W gp ww (l - 1)) (by omega); show ¬ 1000000000 < _; omega
      rw [Nat.add_sub_cancel, bl_f hl1 hnlt] at ih
      exact ev_fg 5 (ih (by omega) (by omega) _ m hp3 hag hlm)
    · refine ev_iload_n dX6_broken_201 rfl ?_
      refine ev_iconst (v := (-1)) dX6_broken_202 rfl ?_
      refine ev_icmp_eq (tgt := 212) dX6_broken_203 rfl (fun h203 => ?_) (fun h203 => ?_)
      · refine ev_iload dX6_broken_212 rfl ?_
        refine ev_istore_n dX6_broken_214 (by decide) ?_
        refine ev_aload_n dX6_broken_215 rfl ?_
        refine ev_iload dX6_broken_216 rfl ?_
        refine ev_puti dX6_broken_218 fl_X6_182 rfl rfl (hB.1 29 _ rfl) ?_
        refine ev_iincN dX6_broken_221 rfl (by decide) ?_
        refine ev_goto (tgt := 177) dX6_broken_224 rfl ?_
        obtain ⟨x, hx, hx2⟩ := em_s (fun e => h198 (hcst.trans e))
        have hxb : x ≤ 960000 := by have h1 := cs_bd hW l 0 x hx; have h2 : l * 160000 ≤ 6 * 160000 := Nat.mul_le_mul_right _ (by omega); omega
        have hb0 : bl_w N W gp ww (l - 1) = 0 := by
          rw [hp3] at h203
          by_cases e : bl_w N W gp ww (l - 1) = 0
          · exact e
          · rw [if_neg e] at h203
            have := en_le (N := N) (gp := gp) (ww := ww) hW (f := 0) (l := bl_w N W gp ww (l - 1)) (by omega)
            exact absurd h203 (nI_m1 (by omega))
        have hlt2 : en_c (cs_w N W gp ww l 0) < en_c (cs_w N W gp ww (bl_w N W gp ww (l - 1)) 0) := by rw [hb0, bl_none hN1, hx]; show x < 1000000000; omega
        rw [Nat.add_sub_cancel, bl_t hl1 hlt2] at ih
        refine ev_fg 5 (ih (by omega) (by omega) _ _ ?_ (fun a c h1 => (by simp only [up_2]; rw [if_neg h1] : up_2 m 29 30 (nI l) a c = m a c).trans (hag a c h1)) up_at)
        rw [if_neg (by omega), hcst, hx]
        rfl
      · refine ev_iload dX6_broken_206 rfl ?_
        refine ev_iload_n dX6_broken_208 rfl ?_
        refine ev_icmp_ge (tgt := 221) dX6_broken_209 rfl (fun h209 => ?_) (fun h209 => ?_)
        · refine ev_iincN dX6_broken_221 rfl (by decide) ?_
          refine ev_goto (tgt := 177) dX6_broken_224 rfl ?_
          obtain ⟨x, hx, hx2⟩ := em_s (fun e => h198 (hcst.trans e))
          have hxb : x ≤ 960000 := by have h1 := cs_bd hW l 0 x hx; have h2 : l * 160000 ≤ 6 * 160000 := Nat.mul_le_mul_right _ (by omega); omega
          have hb0 : bl_w N W gp ww (l - 1) ≠ 0 := fun e => h203 (by rw [hp3, if_pos e])
          rw [hp3, if_neg hb0, hcst, hx] at h209
          have hbb := en_le (N := N) (gp := gp) (ww := ww) hW (f := 0) (l := bl_w N W gp ww (l - 1)) (by omega)
          have hnlt : ¬ en_c (cs_w N W gp ww l 0) < en_c (cs_w N W gp ww (bl_w N W gp ww (l - 1)) 0) := by rw [hx]; have := (nI_leI (b := x) (by omega) (by omega)).mp h209; show ¬ x < _; omega
          rw [Nat.add_sub_cancel, bl_f hl1 hnlt] at ih
          exact ev_fg 5 (ih (by omega) (by omega) _ m hp3 hag hlm)
        · refine ev_iload dX6_broken_212 rfl ?_
          refine ev_istore_n dX6_broken_214 (by decide) ?_
          refine ev_aload_n dX6_broken_215 rfl ?_
          refine ev_iload dX6_broken_216 rfl ?_
          refine ev_puti dX6_broken_218 fl_X6_182 rfl rfl (hB.1 29 _ rfl) ?_
          refine ev_iincN dX6_broken_221 rfl (by decide) ?_
          refine ev_goto (tgt := 177) dX6_broken_224 rfl ?_
          obtain ⟨x, hx, hx2⟩ := em_s (fun e => h198 (hcst.trans e))
          have hxb : x ≤ 960000 := by have h1 := cs_bd hW l 0 x hx; have h2 : l * 160000 ≤ 6 * 160000 := Nat.mul_le_mul_right _ (by omega); omega
          have hb0 : bl_w N W gp ww (l - 1) ≠ 0 := fun e => h203 (by rw [hp3, if_pos e])
          rw [hp3, if_neg hb0, hcst, hx] at h209
          have hbb := en_le (N := N) (gp := gp) (ww := ww) hW (f := 0) (l := bl_w N W gp ww (l - 1)) (by omega)
          have hlt2 : en_c (cs_w N W gp ww l 0) < en_c (cs_w N W gp ww (bl_w N W gp ww (l - 1)) 0) := by rw [hx]; have := (not_congr (nI_leI (b := x) (by omega) (by omega))).mp h209; show x < _; omega
          rw [Nat.add_sub_cancel, bl_t hl1 hlt2] at ih
          refine ev_fg 5 (ih (by omega) (by omega) _ _ ?_ (fun a c h1 => (by simp only [up_2]; rw [if_neg h1] : up_2 m 29 30 (nI l) a c = m a c).trans (hag a c h1)) up_at)
          rw [if_neg (by omega), hcst, hx]
          rfl
set_option maxRecDepth 100000 in
set_option maxHeartbeats 4000000 in
theorem lp_X6_brk4 {sh : SH} {mi : MI} {mr : MR} (hB : ba_c sh mr) (N gp W : Nat) (ww : Nat → Nat) (hN : mi 29 27 = nI N) (hN1 : 1 ≤ N) (hN20 : N ≤ 20) (hgp : mi 50 0 = nI gp) (hgp20 : gp ≤ 20) (hW : W ≤ 400) (hww : ∀ i, i < N → mi 52 i = nI (ww i)) (hwb : ∀ i, i < N → ww i ≤ 800) (K : Nat) (hK1 : 1 ≤ K) (hK6 : K ≤ 6) : ∀ l, l ≤ K + 1 → 1 ≤ l → ∀ m, (∀ a c, a ≠ 53 → m a c = mi a c) → (∀ l2, l2 < l → ∀ j, j ≤ N → m 53 (21 * l2 + j) = en_m (cs_w N W gp ww l2 j)) → EV none 2 0 0 mX6_broken 40 [some (pv_r 29), some (pv_i (nI W)), some (pv_i (nI K)), some (pv_i (nI l)), none, none, none, none] [] sh m mr (fun v_ sh_ mi_ mr_ => v_ = some (pv_i (if (bl_w N W gp ww K) = 0 then -1 else nI (en_c (cs_w N W gp ww (bl_w N W gp ww K) 0)))) ∧ sh_ = sh ∧ mr_ = mr ∧ (∀ a c, a ≠ 53 → a ≠ 54 → ¬ (a = 29 ∧ c = 30) → mi_ a c = mi a c) ∧ mi_ 29 30 = nI (bl_w N W gp ww K) ∧ ∀ i, i < (bl_w N W gp ww K) → mi_ 54 i = nI (fw_w N W gp ww ((bl_w N W gp ww K) - i) (fr_w N W gp ww (bl_w N W gp ww K) i))) := by
  refine lp_i (K + 1) (fun l hl0 ih => ?_)
  intro hl1 m hag hr
  refine ev_iload_n dX6_broken_40 rfl ?_
  refine ev_iload_n dX6_broken_41 rfl ?_
  refine ev_icmp_gt (tgt := 167) dX6_broken_42 rfl (fun h42 => ?_) (fun h42 => ?_)
  · have hin : K < l := (nl_lt (x := nI K) rfl (b := l) rfl (by omega) (by omega)).mp h42
    refine ev_aload_n dX6_broken_167 rfl ?_
    refine ev_iconst (v := 0) dX6_broken_168 rfl ?_
    refine ev_puti dX6_broken_169 fl_X6_182 rfl rfl (hB.1 29 _ rfl) ?_
    refine ev_iconst (v := (-1)) dX6_broken_172 rfl ?_
    refine ev_istore_n dX6_broken_173 (by decide) ?_
    refine ev_iconst (v := 1) dX6_broken_174 rfl ?_
    refine ev_istore dX6_broken_175 (by decide) ?_
    have q := lp_X6_brk5 (mi := m) hB N gp W ww ((hag 29 27 (by decide)).trans hN) hN1 hN20 ((hag 50 0 (by decide)).trans hgp) hgp20 hW (fun i hi => (hag 52 i (by decide)).trans (hww i hi)) hwb K hK1 hK6 (fun l2 h1 j hj => hr l2 (by omega) j hj) 1 (by omega) (by decide) (-1) (up_2 m 29 30 0) rfl (fun a c h1 => by simp only [up_2]; rw [if_neg h1]) up_at
    exact ev_post (fun v_ s_ m_ r_ h_ => ⟨h_.1, h_.2.1, h_.2.2.1, fun a c h1 h2 h3 => (h_.2.2.2.1 a c h2 h3).trans (hag a c h1), h_.2.2.2.2.1, h_.2.2.2.2.2⟩) q
  · have hlt : l ≤ K := by have := (not_congr (nl_lt (x := nI K) rfl (b := l) rfl (by omega) (by omega))).mp h42; omega
    refine ev_aload_n dX6_broken_45 rfl ?_
    refine ev_geti dX6_broken_46 fl_X6_168 rfl (hB.1 29 _ rfl) ?_
    refine ev_istore dX6_broken_49 (by decide) ?_
    rw [(hag 29 27 (by decide)).trans hN]
    refine lp_X6_rowl hB N gp W ww hN hN1 hN20 hgp hgp20 hW hww hwb K hK1 hK6 _ l hl1 hlt (fun m2 hag2 hr2 => ?_) (N + 1) (Nat.le_refl _) m hag hr (fun j h1 h2 => by omega)
    refine ev_iincN dX6_broken_161 rfl (by decide) ?_
    refine ev_goto (tgt := 40) dX6_broken_164 rfl ?_
    exact ih (by omega) (by omega) m2 hag2 hr2
set_option maxRecDepth 100000 in
set_option maxHeartbeats 4000000 in
theorem lp_X6_brk0 {sh : SH} {mi : MI} {mr : MR} (hB : ba_c sh mr) (N gp W : Nat) (ww : Nat → Nat) (hN : mi 29 27 = nI N) (hN1 : 1 ≤ N) (hN20 : N ≤ 20) (hgp : mi 50 0 = nI gp) (hgp20 : gp ≤ 20) (hW : W ≤ 400) (hww : ∀ i, i < N → mi 52 i = nI (ww i)) (hwb : ∀ i, i < N → ww i ≤ 800) (K : Nat) (hK1 : 1 ≤ K) (hK6 : K ≤ 6) : EV none 2 0 0 mX6_broken 40 [some (pv_r 29), some (pv_i (nI W)), some (pv_i (nI K)), some (pv_i 0), none, none, none, none] [] sh mi mr (fun v_ sh_ mi_ mr_ => v_ = some (pv_i (if (bl_w N W gp ww K) = 0 then -1 else nI (en_c (cs_w N W gp ww (bl_w N W gp ww K) 0)))) ∧ sh_ = sh ∧ mr_ = mr ∧ (∀ a c, a ≠ 53 → a ≠ 54 → ¬ (a = 29 ∧ c = 30) → mi_ a c = mi a c) ∧ mi_ 29 30 = nI (bl_w N W gp ww K) ∧ ∀ i, i < (bl_w N W gp ww K) → mi_ 54 i = nI (fw_w N W gp ww ((bl_w N W gp ww K) - i) (fr_w N W gp ww (bl_w N W gp ww K) i))) := by
  refine ev_iload_n dX6_broken_40 rfl ?_
  refine ev_iload_n dX6_broken_41 rfl ?_
  refine ev_icmp_gt_f (tgt := 167) dX6_broken_42 rfl (fun h => absurd ((nl_lt (x := nI K) rfl (b := 0) rfl (by omega) (by decide)).mp h) (by omega)) ?_
  refine ev_aload_n dX6_broken_45 rfl ?_
  refine ev_geti dX6_broken_46 fl_X6_168 rfl (hB.1 29 _ rfl) ?_
  refine ev_istore dX6_broken_49 (by decide) ?_
  rw [hN]
  refine lp_X6_row0 hB N gp W ww hN hN1 hN20 hgp hgp20 hW hww hwb K hK1 hK6 _ (fun m2 hag2 hr2 => ?_) (N + 1) (Nat.le_refl _) mi (fun _ _ _ => rfl) (fun j h1 h2 => by omega)
  refine ev_iinc dX6_broken_161 rfl rfl (by decide) ?_
  refine ev_goto (tgt := 40) dX6_broken_164 rfl ?_
  exact lp_X6_brk4 hB N gp W ww hN hN1 hN20 hgp hgp20 hW hww hwb K hK1 hK6 1 (by omega) (by decide) m2 hag2 hr2
set_option maxRecDepth 100000 in
set_option maxHeartbeats 4000000 in
theorem t_X6_broken_k {sh : SH} {mi : MI} {mr : MR} (hB : ba_c sh mr) (n : Nat) (hn : mi 29 25 = nI n) (hn40 : n ≤ 40) (tx : Nat → Nat) (htx : ∀ i, i < n → mi 51 i = nI (tx i) ∧ tx i ≤ 26) (w : Nat → Nat) (hw : ∀ k, k ≤ 26 → mi 50 k = nI (w k)) (hw20 : ∀ k, k ≤ 26 → w k ≤ 20) (W K : Nat) (hWx : W ≤ 400) (hKx : K ≤ 6) (hW1 : 1 ≤ W) (hK1 : 1 ≤ K) : EV none 2 0 0 mX6_broken 0 (en_l mX6_broken [pv_r 29, pv_i (nI W), pv_i (nI K)]) [] sh mi mr (fun v_ sh_ mi_ mr_ => sh_ = sh ∧ mr_ = mr ∧ ((wc tx n = 0 ∧ v_ = some (pv_i (-4)) ∧ iw 29 52 27 tx w mi mi_ n) ∨ (wc tx n ≠ 0 ∧ v_ = some (pv_i (if (bl_w (wc tx n) W (w 0) (wx tx w n) K) = 0 then -1 else nI (en_c (cs_w (wc tx n) W (w 0) (wx tx w n) (bl_w (wc tx n) W (w 0) (wx tx w n) K) 0)))) ∧ (∀ a c, a ≠ 52 → a ≠ 53 → a ≠ 54 → ¬ (a = 29 ∧ (c = 30 ∨ c = 27)) → mi_ a c = mi a c) ∧ mi_ 29 30 = nI (bl_w (wc tx n) W (w 0) (wx tx w n) K) ∧ ∀ i, i < (bl_w (wc tx n) W (w 0) (wx tx w n) K) → mi_ 54 i = nI (fw_w (wc tx n) W (w 0) (wx tx w n) ((bl_w (wc tx n) W (w 0) (wx tx w n) K) - i) (fr_w (wc tx n) W (w 0) (wx tx w n) (bl_w (wc tx n) W (w 0) (wx tx w n) K) i))))) := by
  show EV none 2 0 0 mX6_broken 0 [some (pv_r 29), some (pv_i (nI W)), some (pv_i (nI K)), none, none, none, none, none] [] sh mi mr _
  refine ev_iload_n dX6_broken_0 rfl ?_
  refine ev_iconst (v := 1) dX6_broken_1 rfl ?_
  refine ev_sipush (v := 400) dX6_broken_2 rfl ?_
  refine ev_s3i dX6_broken_5 cs_X6_129 (Nat.le_of_ble_eq_true rfl) (by decide) (t_X6_in _ _ _) ?_
  refine ev_if_eq_f (tgt := 21) dX6_broken_8 rfl (by rw [bi_1 (show (1 : Int32) ≤ nI W ∧ nI W ≤ 400 from i_lh (lo := 1) (hi := 400) hW1 hWx (by decide))]; decide) ?_
  refine ev_iload_n dX6_broken_11 rfl ?_
  refine ev_iconst (v := 1) dX6_broken_12 rfl ?_
  refine ev_bipush (v := 6) dX6_broken_13 rfl ?_
  refine ev_s3i dX6_broken_15 cs_X6_129 (Nat.le_of_ble_eq_true rfl) (by decide) (t_X6_in _ _ _) ?_
  refine ev_if_ne_t (tgt := 24) dX6_broken_18 rfl (by rw [bi_1 (show (1 : Int32) ≤ nI K ∧ nI K ≤ 6 from i_lh (lo := 1) (hi := 6) hK1 hKx (by decide))]; decide) ?_
  refine ev_aload_n dX6_broken_24 rfl ?_
  refine ev_callv (av := []) dX6_broken_25 cv_X6_175 (hB.1 29 _ rfl) rfl rfl (Nat.le_of_ble_eq_true rfl) (by decide) (Or.inl (fun v_ s_ m_ r_ h_ => by rw [h_.2.1])) (Nat.zero_add _) (Nat.zero_add _) (t_X6_findWords hB n hn hn40 tx htx w hw) ?_
  rintro v_ sh_ m1 mr_ ⟨e1_, e2_, e3_, hI⟩
  subst e1_
  have e2_ := e2_.symm
  subst e2_
  have e3_ := e3_.symm
  subst e3_
  have hwc := wc_b tx n
  refine ev_aload_n dX6_broken_28 rfl ?_
  refine ev_geti dX6_broken_29 fl_X6_168 rfl (hB.1 29 _ rfl) ?_
  refine ev_if_ne (tgt := 38) dX6_broken_32 rfl (fun h32 => ?_) (fun h32 => ?_)
  · refine ev_iconst (v := 0) dX6_broken_38 rfl ?_
    refine ev_istore_n dX6_broken_39 (by decide) ?_
    have h0 : wc tx n ≠ 0 := fun e => h32 (by rw [hI.2.1, e]; rfl)
    have q := lp_X6_brk0 (mi := m1) hB (wc tx n) (w 0) W (wx tx w n) hI.2.1 (by omega) (by omega) ((hI.1 50 0 (by decide) (by decide)).trans (hw 0 (by decide))) (hw20 0 (by decide)) hWx hI.2.2 (fun i hi => by have := wx_bn hw20 (fun i hi => (htx i hi).2) n (Nat.le_refl n) i; omega) K hK1 hKx
    exact ev_post (fun v_ s_ m_ r_ h_ => ⟨h_.2.1, h_.2.2.1, Or.inr ⟨h0, h_.1, fun a c a1 a2 a3 a4 => (h_.2.2.2.1 a c a2 a3 (by omega)).trans (hI.1 a c a1 (by omega)), h_.2.2.2.2.1, h_.2.2.2.2.2⟩⟩) q
  · refine ev_bipush (v := (-4)) dX6_broken_35 rfl ?_
    exact ev_ireturn (ty := .int) dX6_broken_37 rfl rfl ⟨rfl, rfl, Or.inl ⟨by rw [hI.2.1] at h32; exact (nI_eq (b := 0) (by omega) (by decide)).mp h32, rfl, hI⟩⟩
set_option maxRecDepth 100000 in
set_option maxHeartbeats 4000000 in
theorem t_X6_broken_o {sh : SH} {mi : MI} {mr : MR} (hB : ba_c sh mr) (p1 p2 : Int32) (hv : ¬ ((1 ≤ p1 ∧ p1 ≤ 400) ∧ 1 ≤ p2 ∧ p2 ≤ 6)) : EV none 2 0 0 mX6_broken 0 (en_l mX6_broken [pv_r 29, pv_i p1, pv_i p2]) [] sh mi mr (ok_r sh mr (-3) mi) := by
  show EV none 2 0 0 mX6_broken 0 [some (pv_r 29), some (pv_i p1), some (pv_i p2), none, none, none, none, none] [] sh mi mr _
  refine ev_iload_n dX6_broken_0 rfl ?_
  refine ev_iconst (v := 1) dX6_broken_1 rfl ?_
  refine ev_sipush (v := 400) dX6_broken_2 rfl ?_
  refine ev_s3i dX6_broken_5 cs_X6_129 (Nat.le_of_ble_eq_true rfl) (by decide) (t_X6_in _ _ _) ?_
  refine ev_ifb_eq (tgt := 21) dX6_broken_8 rfl (fun h8 => ?_) (fun h8 => ?_)
  · refine ev_bipush (v := (-3)) dX6_broken_21 rfl ?_
    exact ev_ireturn (ty := .int) dX6_broken_23 rfl rfl ⟨rfl, rfl, rfl, rfl⟩
  · refine ev_iload_n dX6_broken_11 rfl ?_
    refine ev_iconst (v := 1) dX6_broken_12 rfl ?_
    refine ev_bipush (v := 6) dX6_broken_13 rfl ?_
    refine ev_s3i dX6_broken_15 cs_X6_129 (Nat.le_of_ble_eq_true rfl) (by decide) (t_X6_in _ _ _) ?_
    refine ev_ifb_ne (tgt := 24) dX6_broken_18 rfl (fun h18 => ?_) (fun h18 => ?_)
    · exact absurd ⟨h8, h18⟩ hv
    · refine ev_bipush (v := (-3)) dX6_broken_21 rfl ?_
      exact ev_ireturn (ty := .int) dX6_broken_23 rfl rfl ⟨rfl, rfl, rfl, rfl⟩
