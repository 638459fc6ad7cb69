/-- breaking a text: words of widths ww, a gap of gp, lines of W: how wide n words are from word f on; the best of the first k ways for the first line -/
def sw_w (ww : Nat → Nat) (f : Nat) : Nat → Nat
  | 0 => 0
  | k + 1 => sw_w ww f k + ww (f + k)
def wd_w (gp : Nat) (ww : Nat → Nat) (f n : Nat) : Nat := n * gp + sw_w ww f n - gp
def cd_w (W gp : Nat) (ww : Nat → Nat) (c : Nat → Option Nat) (f n : Nat) : Option Nat := if wd_w gp ww f n ≤ W then (c (f + n)).map (fun r => (W - wd_w gp ww f n) * (W - wd_w gp ww f n) + r) else none
def bs_s (a : Option (Nat × Nat)) (c : Option Nat) (n : Nat) : Option (Nat × Nat) := match c with
  | none => a
  | some v => match a with
    | none => some (v, n)
    | some b => if v < b.1 then some (v, n) else some b
def bs_w (W gp : Nat) (ww : Nat → Nat) (c : Nat → Option Nat) (f : Nat) : Nat → Option (Nat × Nat)
  | 0 => none
  | k + 1 => bs_s (bs_w W gp ww c f k) (cd_w W gp ww c f (k + 1)) (k + 1)
def cs_w (N W gp : Nat) (ww : Nat → Nat) : Nat → Nat → Option Nat
  | 0, f => if f = N then some 0 else none
  | l + 1, f => (bs_w W gp ww (cs_w N W gp ww l) f (N - f)).map (fun p => p.1)
def fw_w (N W gp : Nat) (ww : Nat → Nat) (l f : Nat) : Nat := match bs_w W gp ww (cs_w N W gp ww (l - 1)) f (N - f) with
  | none => 0
  | some p => p.2
theorem wd_mono {gp : Nat} {ww : Nat → Nat} {f : Nat} : ∀ {n m : Nat}, 1 ≤ n → n ≤ m → wd_w gp ww f n ≤ wd_w gp ww f m := by
  intro n m h1 h2
  induction m with
  | zero => omega
  | succ m ih =>
    by_cases e : n = m + 1
    · subst e; exact Nat.le_refl _
    · have h3 := ih (by omega)
      unfold wd_w at *
      simp only [sw_w, Nat.succ_mul]
      omega
theorem wd_1 {gp : Nat} {ww : Nat → Nat} {f n : Nat} (h : 1 ≤ n) : wd_w gp ww f n = (n - 1) * gp + sw_w ww f n := by
  unfold wd_w
  obtain ⟨m, rfl⟩ : ∃ m, n = m + 1 := ⟨n - 1, by omega⟩
  rw [Nat.add_sub_cancel, Nat.succ_mul]
  omega
/-- a line that is too wide stays so -/
theorem bs_stop {W gp : Nat} {ww : Nat → Nat} {c : Nat → Option Nat} {f k : Nat} (h : W < wd_w gp ww f (k + 1)) : ∀ m, k ≤ m → bs_w W gp ww c f m = bs_w W gp ww c f k
  | 0, hm => by rw [show k = 0 by omega]
  | m + 1, hm => by
    by_cases e : k = m + 1
    · rw [e]
    · have ih := bs_stop (c := c) h m (by omega)
      have h2 : wd_w gp ww f (k + 1) ≤ wd_w gp ww f (m + 1) := wd_mono (by omega) (by omega)
      show bs_s (bs_w W gp ww c f m) (cd_w W gp ww c f (m + 1)) (m + 1) = _
      unfold cd_w
      rw [if_neg (by omega), ih]
      rfl
theorem bs_n {W gp : Nat} {ww : Nat → Nat} {c : Nat → Option Nat} {f : Nat} : ∀ k, bs_w W gp ww c f k = none → ∀ n, 1 ≤ n → n ≤ k → cd_w W gp ww c f n = none
  | 0, _, n, h1, h2 => by omega
  | k + 1, h, n, h1, h2 => by
    have h : bs_s (bs_w W gp ww c f k) (cd_w W gp ww c f (k + 1)) (k + 1) = none := h
    cases hc : cd_w W gp ww c f (k + 1) with
    | none =>
      rw [hc] at h
      by_cases e : n = k + 1
      · subst e; exact hc
      · exact bs_n k h n h1 (by omega)
    | some v =>
      rw [hc] at h
      simp only [bs_s] at h
      split at h
      · cases h
      · split at h <;> cases h
theorem bs_p {W gp : Nat} {ww : Nat → Nat} {c : Nat → Option Nat} {f : Nat} : ∀ k p, bs_w W gp ww c f k = some p → 1 ≤ p.2 ∧ p.2 ≤ k ∧ cd_w W gp ww c f p.2 = some p.1 ∧ (∀ n v, 1 ≤ n → n ≤ k → cd_w W gp ww c f n = some v → p.1 ≤ v) ∧ ∀ n, 1 ≤ n → n < p.2 → cd_w W gp ww c f n ≠ some p.1
  | 0, p, h => by cases h
  | k + 1, p, h => by
    have h : bs_s (bs_w W gp ww c f k) (cd_w W gp ww c f (k + 1)) (k + 1) = some p := h
    cases hc : cd_w W gp ww c f (k + 1) with
    | none =>
      rw [hc] at h
      obtain ⟨h1, h2, h3, h4, h5⟩ := bs_p k p h
      refine ⟨h1, by omega, h3, fun n v a1 a2 a3 => ?_, h5⟩
      by_cases e : n = k + 1
      · subst e; rw [hc] at a3; cases a3
      · exact h4 n v a1 (by omega) a3
    | some v =>
      rw [hc] at h
      cases hb : bs_w W gp ww c f k with
      | none =>
        rw [hb] at h
        cases h
        refine ⟨by simp, Nat.le_refl _, hc, fun n v2 a1 a2 a3 => ?_, fun n a1 a2 a3 => ?_⟩
        · by_cases e : n = k + 1
          · subst e; rw [hc] at a3; cases a3; exact Nat.le_refl _
          · exact absurd (bs_n k hb n a1 (by omega)) (by rw [a3]; exact fun q => by cases q)
        · exact absurd (bs_n k hb n a1 (by simp only at a2; omega)) (by rw [a3]; exact fun q => by cases q)
      | some b =>
        rw [hb] at h
        obtain ⟨h1, h2, h3, h4, h5⟩ := bs_p k b hb
        simp only [bs_s] at h
        by_cases hlt : v < b.1
        · rw [if_pos hlt] at h
          cases h
          refine ⟨by simp, Nat.le_refl _, hc, fun n v2 a1 a2 a3 => ?_, fun n a1 a2 a3 => ?_⟩
          · by_cases e : n = k + 1
            · subst e; rw [hc] at a3; cases a3; exact Nat.le_refl _
            · have := h4 n v2 a1 (by omega) a3
              simp only
              omega
          · have := h4 n v a1 (by simp only at a2; omega) a3
            omega
        · rw [if_neg hlt] at h
          cases h
          refine ⟨h1, by omega, h3, fun n v2 a1 a2 a3 => ?_, h5⟩
          by_cases e : n = k + 1
          · subst e; rw [hc] at a3; cases a3; omega
          · exact h4 n v2 a1 (by omega) a3
theorem cs_bd {N W gp : Nat} {ww : Nat → Nat} (hW : W ≤ 400) : ∀ l f v, cs_w N W gp ww l f = some v → v ≤ l * 160000
  | 0, f, v, h => by
    simp only [cs_w] at h
    split at h
    · cases h; omega
    · cases h
  | l + 1, f, v, h => by
    simp only [cs_w] at h
    cases hb : bs_w W gp ww (cs_w N W gp ww l) f (N - f) with
    | none => rw [hb] at h; cases h
    | some p =>
      rw [hb] at h
      cases h
      obtain ⟨-, -, h3, -, -⟩ := bs_p _ p hb
      unfold cd_w at h3
      split at h3
      · cases hc : cs_w N W gp ww l (f + p.2) with
        | none => rw [hc] at h3; cases h3
        | some r =>
          rw [hc] at h3
          simp only [Option.map_some, Option.some.injEq] at h3
          have h4 := cs_bd hW l _ r hc
          have h5 : (W - wd_w gp ww f p.2) * (W - wd_w gp ww f p.2) ≤ 400 * 400 := Nat.mul_le_mul (by omega) (by omega)
          show p.1 ≤ _
          omega
      · cases h3
/-- as the class writes it down; as the model does -/
def en_c (v : Option Nat) : Nat := match v with
  | none => 1000000000
  | some x => x
def en_m (v : Option Nat) : Int32 := match v with
  | none => -1
  | some x => nI x
def bf_c (a : Option (Nat × Nat)) : Nat := match a with
  | none => 0
  | some p => p.2
theorem bs_up {W gp : Nat} {ww : Nat → Nat} {c : Nat → Option Nat} {f k v : Nat} (h : cd_w W gp ww c f (k + 1) = some v) (h2 : v < en_c ((bs_w W gp ww c f k).map (fun p => p.1))) : bs_w W gp ww c f (k + 1) = some (v, k + 1) := by
  show bs_s (bs_w W gp ww c f k) (cd_w W gp ww c f (k + 1)) (k + 1) = _
  rw [h]
  cases hb : bs_w W gp ww c f k with
  | none => rfl
  | some b =>
    rw [hb] at h2
    exact if_pos (c := v < b.1) h2
theorem bs_no {W gp : Nat} {ww : Nat → Nat} {c : Nat → Option Nat} {f k v : Nat} (h : cd_w W gp ww c f (k + 1) = some v) (hv : v < 1000000000) (h2 : ¬ v < en_c ((bs_w W gp ww c f k).map (fun p => p.1))) : bs_w W gp ww c f (k + 1) = bs_w W gp ww c f k := by
  show bs_s (bs_w W gp ww c f k) (cd_w W gp ww c f (k + 1)) (k + 1) = _
  rw [h]
  cases hb : bs_w W gp ww c f k with
  | none => rw [hb] at h2; exact absurd hv h2
  | some b =>
    rw [hb] at h2
    exact if_neg (c := v < b.1) h2
theorem bs_sk {W gp : Nat} {ww : Nat → Nat} {c : Nat → Option Nat} {f k : Nat} (h : cd_w W gp ww c f (k + 1) = none) : bs_w W gp ww c f (k + 1) = bs_w W gp ww c f k := by
  show bs_s (bs_w W gp ww c f k) (cd_w W gp ww c f (k + 1)) (k + 1) = _
  rw [h]
  rfl
theorem i_sg (x g w : Int32) : (x - g) + (g + w) = x + w := by
  apply Int32.toBitVec_inj.mp
  simp only [Int32.toBitVec_add, Int32.toBitVec_sub]
  bv_omega
theorem i_ng (x : Int32) : -x = nI 0 - x := by
  apply Int32.toBitVec_inj.mp
  simp only [Int32.toBitVec_neg, Int32.toBitVec_sub, nI]
  have : (Int32.ofNat 0).toBitVec = 0#32 := by decide
  rw [this]
  bv_omega
theorem sw_b {ww : Nat → Nat} {f N : Nat} (h : ∀ i, i < N → ww i ≤ 800) : ∀ k, f + k ≤ N → sw_w ww f k ≤ 800 * k
  | 0, _ => Nat.le_refl _
  | k + 1, hk => by
    have h1 := sw_b (f := f) h k (by omega)
    have h2 := h (f + k) (by omega)
    simp only [sw_w]
    omega
theorem sq_b {W x : Nat} (h : W ≤ 400) : (W - x) * (W - x) ≤ 160000 := by
  have : (W - x) * (W - x) ≤ 400 * 400 := Nat.mul_le_mul (by omega) (by omega)
  omega
theorem cd_yes {W gp : Nat} {ww : Nat → Nat} {c : Nat → Option Nat} {f n r : Nat} (h : wd_w gp ww f n ≤ W) (hc : c (f + n) = some r) : cd_w W gp ww c f n = some ((W - wd_w gp ww f n) * (W - wd_w gp ww f n) + r) := by
  unfold cd_w
  rw [if_pos h, hc]
  rfl
theorem cd_no {W gp : Nat} {ww : Nat → Nat} {c : Nat → Option Nat} {f n : Nat} (hc : c (f + n) = none) : cd_w W gp ww c f n = none := by
  unfold cd_w
  rw [hc]
  split <;> rfl
theorem i_wd {gp W k s w : Nat} (hg : gp ≤ 20) (h : (k + 1) * gp + (s + w) - gp ≤ W) (hW : W ≤ 400) (e : (k + 1) * gp + (s + w) - gp = k * gp + s + w) : nI W - ((nI (k * gp + s) - nI gp) + (nI gp + nI w)) = nI (W - ((k + 1) * gp + (s + w) - gp)) := by
  rw [i_sg, nI_add, pk_sub (by omega), e]
theorem bs_le {W gp : Nat} {ww : Nat → Nat} {c : Nat → Option Nat} {f n v : Nat} (hW : W ≤ 400) (hc : ∀ j v, c j = some v → v ≤ 1000000) (h : cd_w W gp ww c f n = some v) : v ≤ 1000000000 := by
  unfold cd_w at h
  split at h
  · cases hr : c (f + n) with
    | none => rw [hr] at h; cases h
    | some r =>
      rw [hr] at h
      have h1 := hc _ r hr
      have h2 := sq_b (x := wd_w gp ww f n) hW
      simp only [Option.map_some, Option.some.injEq] at h
      omega
  · cases h
set_option maxRecDepth 100000 in
set_option maxHeartbeats 4000000 in
theorem lp_X4_weigh {sh : SH} {mi : MI} {mr : MR} (hB : ba_c sh mr) (N gp W : Nat) (ww : Nat → Nat) (hN : mi 12 11 = nI N) (hN20 : N ≤ 20) (hgp : mi 13 0 = nI gp) (hgp20 : gp ≤ 20) (hW : W ≤ 400) (hww : ∀ i, i < N → mi 18 i = nI (ww i)) (hwb : ∀ i, i < N → ww i ≤ 800) (l f : Nat) (hl1 : 1 ≤ l) (hl6 : l ≤ 6) (hf : f ≤ N) (c : Nat → Option Nat) (hc : ∀ j v, c j = some v → v ≤ 1000000) (hrow : ∀ j, j ≤ N → mi 19 ((l - 1) * 21 + j) = nI (en_c (c j))) : ∀ k, k ≤ N - f → EV none 0 0 0 mX4_weigh 19 [some (pv_r 12), some (pv_i (nI l)), some (pv_i (nI f)), some (pv_i (nI W)), some (pv_i (nI (en_c ((bs_w W gp ww c f k).map (fun p => p.1))))), some (pv_i (nI (bf_c (bs_w W gp ww c f k)))), some (pv_i (nI (k * gp + sw_w ww f k) - nI gp)), some (pv_i (nI (f + k))), none, none] [] sh mi mr (ok_n sh mr (up_2 (up_2 mi 19 (l * 21 + f) (nI (en_c ((bs_w W gp ww c f (N - f)).map (fun p => p.1))))) 20 (l * 21 + f) (nI (bf_c (bs_w W gp ww c f (N - f)))))) := by
  refine lp_i (N - f) (fun k hk0 ih => ?_)
  refine ev_iload dX4_weigh_19 rfl ?_
  refine ev_aload_n dX4_weigh_21 rfl ?_
  refine ev_geti dX4_weigh_22 fl_X4_46 rfl (hB.1 12 _ rfl) ?_
  refine ev_icmp_ge (tgt := 123) dX4_weigh_25 rfl (fun h25 => ?_) (fun h25 => ?_)
  · have hin : f + k = N := by have := (nl_le hN (b := f + k) rfl (by omega) (by omega)).mp h25; omega
    have hk : k = N - f := by omega
    refine ev_aload_n dX4_weigh_123 rfl ?_
    refine ev_getq dX4_weigh_124 fl_X4_40 rfl (hB.1 12 _ rfl) (hB.2 12 9 _ rfl) ?_
    refine ev_iload_n dX4_weigh_127 rfl ?_
    refine ev_bipush (v := 21) dX4_weigh_128 rfl ?_
    refine ev_imul dX4_weigh_130 ?_
    refine ev_iload_n dX4_weigh_131 rfl ?_
    refine ev_iadd dX4_weigh_132 ?_
    refine ev_iload dX4_weigh_133 rfl ?_
    refine ev_iast dX4_weigh_135 (hB.1 19 _ rfl) (j := l * 21 + f) (by rw [n_21, pk_mul, nI_add]) (by omega) (by decide) ?_
    refine ev_aload_n dX4_weigh_136 rfl ?_
    refine ev_getq dX4_weigh_137 fl_X4_43 rfl (hB.1 12 _ rfl) (hB.2 12 10 _ rfl) ?_
    refine ev_iload_n dX4_weigh_140 rfl ?_
    refine ev_bipush (v := 21) dX4_weigh_141 rfl ?_
    refine ev_imul dX4_weigh_143 ?_
    refine ev_iload_n dX4_weigh_144 rfl ?_
    refine ev_iadd dX4_weigh_145 ?_
    refine ev_iload dX4_weigh_146 rfl ?_
    refine ev_iast dX4_weigh_148 (hB.1 20 _ rfl) (j := l * 21 + f) (by rw [n_21, pk_mul, nI_add]) (by omega) (by decide) ?_
    exact ev_return dX4_weigh_149 rfl ⟨rfl, rfl, by rw [← hk], rfl⟩
  · have hlt : f + k < N := by have := (not_congr (nl_le hN (b := f + k) rfl (by omega) (by omega))).mp h25; omega
    have hsb := sw_b (f := f) hwb k (by omega)
    have hkg : k * gp ≤ 20 * 20 := Nat.mul_le_mul (by omega) hgp20
    have hwk := hwb (f + k) hlt
    have ewd : wd_w gp ww f (k + 1) = k * gp + sw_w ww f k + ww (f + k) := by simp only [wd_w, sw_w, Nat.succ_mul]; omega
    refine ev_iload dX4_weigh_28 rfl ?_
    refine ev_aload_n dX4_weigh_30 rfl ?_
    refine ev_getq dX4_weigh_31 fl_X4_9 rfl (hB.1 12 _ rfl) (hB.2 12 0 _ rfl) ?_
    refine ev_iconst (v := 0) dX4_weigh_34 rfl ?_
    refine ev_iald dX4_weigh_35 (hB.1 13 _ rfl) (j := 0) rfl (by decide) (by decide) ?_
    refine ev_aload_n dX4_weigh_36 rfl ?_
    refine ev_getq dX4_weigh_37 fl_X4_37 rfl (hB.1 12 _ rfl) (hB.2 12 8 _ rfl) ?_
    refine ev_iload dX4_weigh_40 rfl ?_
    refine ev_iald dX4_weigh_42 (hB.1 18 _ rfl) (j := f + k) rfl (by omega) (by decide) ?_
    refine ev_iadd dX4_weigh_43 ?_
    refine ev_iadd dX4_weigh_44 ?_
    refine ev_istore dX4_weigh_45 (by decide) ?_
    refine ev_iload dX4_weigh_47 rfl ?_
    refine ev_iload_n dX4_weigh_49 rfl ?_
    refine ev_icmp_le (tgt := 56) dX4_weigh_50 rfl (fun h50 => ?_) (fun h50 => ?_)
    · have hle : wd_w gp ww f (k + 1) ≤ W := by rw [hgp, hww _ hlt, i_sg, nI_add] at h50; have := (nI_leI (by omega) (by omega)).mp h50; omega
      have hrw : mi 19 ((l - 1) * 21 + (f + k) + 1) = nI (en_c (c (f + (k + 1)))) := by rw [show (l - 1) * 21 + (f + k) + 1 = (l - 1) * 21 + (f + (k + 1)) by omega]; exact hrow _ (by omega)
      refine ev_aload_n dX4_weigh_56 rfl ?_
      refine ev_getq dX4_weigh_57 fl_X4_40 rfl (hB.1 12 _ rfl) (hB.2 12 9 _ rfl) ?_
      refine ev_iload_n dX4_weigh_60 rfl ?_
      refine ev_iconst (v := 1) dX4_weigh_61 rfl ?_
      refine ev_isub dX4_weigh_62 ?_
      refine ev_bipush (v := 21) dX4_weigh_63 rfl ?_
      refine ev_imul dX4_weigh_65 ?_
      refine ev_iload dX4_weigh_66 rfl ?_
      refine ev_iadd dX4_weigh_68 ?_
      refine ev_iconst (v := 1) dX4_weigh_69 rfl ?_
      refine ev_iadd dX4_weigh_70 ?_
      refine ev_iald dX4_weigh_71 (hB.1 19 _ rfl) (j := (l - 1) * 21 + (f + k) + 1) (by rw [n_1, pk_sub hl1, n_21, pk_mul, nI_add, nI_add]) (by omega) (by decide) ?_
      refine ev_istore dX4_weigh_72 (by decide) ?_
      refine ev_iload_n dX4_weigh_74 rfl ?_
      refine ev_iload dX4_weigh_75 rfl ?_
      refine ev_isub dX4_weigh_77 ?_
      refine ev_iload_n dX4_weigh_78 rfl ?_
      refine ev_iload dX4_weigh_79 rfl ?_
      refine ev_isub dX4_weigh_81 ?_
      refine ev_imul dX4_weigh_82 ?_
      refine ev_istore dX4_weigh_83 (by decide) ?_
      refine ev_iload dX4_weigh_85 rfl ?_
      refine ev_ldc dX4_weigh_87 kc_X4_53 ?_
      refine ev_icmp_eq (tgt := 117) dX4_weigh_89 rfl (fun h89 => ?_) (fun h89 => ?_)
      · refine ev_iincN dX4_weigh_117 rfl (by decide) ?_
        refine ev_goto (tgt := 19) dX4_weigh_120 rfl ?_
        have e6 : ((nI (k * gp + sw_w ww f k) - nI gp) + (nI gp + nI (ww (f + k)))) = (nI ((k + 1) * gp + sw_w ww f (k + 1)) - nI gp) := by rw [i_sg, nI_add, pk_sub (by simp only [Nat.succ_mul]; omega)]; simp only [sw_w, Nat.succ_mul]; congr 1; omega
        rw [hgp, hww _ hlt, e6]
        have hcn : c (f + (k + 1)) = none := by
          cases hcc : c (f + (k + 1)) with
          | none => rfl
          | some r =>
            rw [hrw, hcc] at h89
            have := hc _ r hcc
            exact absurd ((nI_eq (a := r) (b := 1000000000) (by omega) (by decide)).mp h89) (by omega)
        have q := ih (by omega)
        rw [bs_sk (cd_no hcn)] at q
        exact ev_fg 8 (ev_fg 9 q)
      · refine ev_iload dX4_weigh_92 rfl ?_
        refine ev_iload dX4_weigh_94 rfl ?_
        refine ev_iadd dX4_weigh_96 ?_
        refine ev_iload dX4_weigh_97 rfl ?_
        refine ev_icmp_ge (tgt := 117) dX4_weigh_99 rfl (fun h99 => ?_) (fun h99 => ?_)
        · refine ev_iincN dX4_weigh_117 rfl (by decide) ?_
          refine ev_goto (tgt := 19) dX4_weigh_120 rfl ?_
          have e6 : ((nI (k * gp + sw_w ww f k) - nI gp) + (nI gp + nI (ww (f + k)))) = (nI ((k + 1) * gp + sw_w ww f (k + 1)) - nI gp) := by rw [i_sg, nI_add, pk_sub (by simp only [Nat.succ_mul]; omega)]; simp only [sw_w, Nat.succ_mul]; congr 1; omega
          obtain ⟨r, hcc⟩ : ∃ r, c (f + (k + 1)) = some r := by
            cases hcc : c (f + (k + 1)) with
            | none => rw [hrw, hcc] at h89; exact absurd rfl h89
            | some r => exact ⟨r, rfl⟩
          have hr6 := hc _ r hcc
          have hsq := sq_b (x := wd_w gp ww f (k + 1)) hW
          have ev : ((mi 19 ((l - 1) * 21 + (f + k) + 1)) + ((nI W - ((nI (k * gp + sw_w ww f k) - nI gp) + (mi 13 0 + mi 18 (f + k)))) * (nI W - ((nI (k * gp + sw_w ww f k) - nI gp) + (mi 13 0 + mi 18 (f + k)))))) = nI ((W - wd_w gp ww f (k + 1)) * (W - wd_w gp ww f (k + 1)) + r) := by rw [hrw, hcc, hgp, hww _ hlt, i_sg, nI_add, ← ewd, pk_sub hle, pk_mul]; show nI r + _ = _; rw [nI_add, Nat.add_comm]
          have hcd := cd_yes hle hcc
          have hen : en_c ((bs_w W gp ww c f k).map (fun p => p.1)) ≤ 1000000000 := by
            cases hb : (bs_w W gp ww c f k) with
            | none => exact Nat.le_refl _
            | some p => obtain ⟨-, -, h3, -, -⟩ := bs_p _ p hb; exact bs_le hW hc h3
          rw [ev] at h99
          have q := ih (by omega)
          rw [bs_no hcd (by omega) (by have := (nI_leI (by omega) (by omega)).mp h99; omega)] at q
          rw [hgp, hww _ hlt, e6]
          exact ev_fg 8 (ev_fg 9 q)
        · refine ev_iload dX4_weigh_102 rfl ?_
          refine ev_iload dX4_weigh_104 rfl ?_
          refine ev_iadd dX4_weigh_106 ?_
          refine ev_istore dX4_weigh_107 (by decide) ?_
          refine ev_iload dX4_weigh_109 rfl ?_
          refine ev_iload_n dX4_weigh_111 rfl ?_
          refine ev_isub dX4_weigh_112 ?_
          refine ev_iconst (v := 1) dX4_weigh_113 rfl ?_
          refine ev_iadd dX4_weigh_114 ?_
          refine ev_istore dX4_weigh_115 (by decide) ?_
          refine ev_iincN dX4_weigh_117 rfl (by decide) ?_
          refine ev_goto (tgt := 19) dX4_weigh_120 rfl ?_
          have e6 : ((nI (k * gp + sw_w ww f k) - nI gp) + (nI gp + nI (ww (f + k)))) = (nI ((k + 1) * gp + sw_w ww f (k + 1)) - nI gp) := by rw [i_sg, nI_add, pk_sub (by simp only [Nat.succ_mul]; omega)]; simp only [sw_w, Nat.succ_mul]; congr 1; omega
          obtain ⟨r, hcc⟩ : ∃ r, c (f + (k + 1)) = some r := by
            cases hcc : c (f + (k + 1)) with
            | none => rw [hrw, hcc] at h89; exact absurd rfl h89
            | some r => exact ⟨r, rfl⟩
          have hr6 := hc _ r hcc
          have hsq := sq_b (x := wd_w gp ww f (k + 1)) hW
          have ev : ((mi 19 ((l - 1) * 21 + (f + k) + 1)) + ((nI W - ((nI (k * gp + sw_w ww f k) - nI gp) + (mi 13 0 + mi 18 (f + k)))) * (nI W - ((nI (k * gp + sw_w ww f k) - nI gp) + (mi 13 0 + mi 18 (f + k)))))) = nI ((W - wd_w gp ww f (k + 1)) * (W - wd_w gp ww f (k + 1)) + r) := by rw [hrw, hcc, hgp, hww _ hlt, i_sg, nI_add, ← ewd, pk_sub hle, pk_mul]; show nI r + _ = _; rw [nI_add, Nat.add_comm]
          have hcd := cd_yes hle hcc
          have hen : en_c ((bs_w W gp ww c f k).map (fun p => p.1)) ≤ 1000000000 := by
            cases hb : (bs_w W gp ww c f k) with
            | none => exact Nat.le_refl _
            | some p => obtain ⟨-, -, h3, -, -⟩ := bs_p _ p hb; exact bs_le hW hc h3
          rw [ev] at h99
          have q := ih (by omega)
          rw [bs_up hcd (by have := (not_congr (nI_leI (by omega) (by omega))).mp h99; omega)] at q
          rw [ev, pk_sub (a := f + k) (b := f) (by omega), nI_1, show f + k - f + 1 = k + 1 by omega]
          rw [hgp, hww _ hlt, e6]
          exact ev_fg 8 (ev_fg 9 q)
    · have hgt : W < wd_w gp ww f (k + 1) := by rw [hgp, hww _ hlt, i_sg, nI_add] at h50; have := (not_congr (nI_leI (a := k * gp + sw_w ww f k + ww (f + k)) (b := W) (by omega) (by omega))).mp h50; omega
      refine ev_goto (tgt := 123) dX4_weigh_53 rfl ?_
      refine ev_aload_n dX4_weigh_123 rfl ?_
      refine ev_getq dX4_weigh_124 fl_X4_40 rfl (hB.1 12 _ rfl) (hB.2 12 9 _ rfl) ?_
      refine ev_iload_n dX4_weigh_127 rfl ?_
      refine ev_bipush (v := 21) dX4_weigh_128 rfl ?_
      refine ev_imul dX4_weigh_130 ?_
      refine ev_iload_n dX4_weigh_131 rfl ?_
      refine ev_iadd dX4_weigh_132 ?_
      refine ev_iload dX4_weigh_133 rfl ?_
      refine ev_iast dX4_weigh_135 (hB.1 19 _ rfl) (j := l * 21 + f) (by rw [n_21, pk_mul, nI_add]) (by omega) (by decide) ?_
      refine ev_aload_n dX4_weigh_136 rfl ?_
      refine ev_getq dX4_weigh_137 fl_X4_43 rfl (hB.1 12 _ rfl) (hB.2 12 10 _ rfl) ?_
      refine ev_iload_n dX4_weigh_140 rfl ?_
      refine ev_bipush (v := 21) dX4_weigh_141 rfl ?_
      refine ev_imul dX4_weigh_143 ?_
      refine ev_iload_n dX4_weigh_144 rfl ?_
      refine ev_iadd dX4_weigh_145 ?_
      refine ev_iload dX4_weigh_146 rfl ?_
      refine ev_iast dX4_weigh_148 (hB.1 20 _ rfl) (j := l * 21 + f) (by rw [n_21, pk_mul, nI_add]) (by omega) (by decide) ?_
      exact ev_return dX4_weigh_149 rfl ⟨rfl, rfl, by rw [bs_stop hgt (N - f) (by omega)], rfl⟩
set_option maxRecDepth 100000 in
set_option maxHeartbeats 4000000 in
theorem t_X4_weigh {sh : SH} {mi : MI} {mr : MR} (hB : ba_c sh mr) (N gp W : Nat) (ww : Nat → Nat) (hN : mi 12 11 = nI N) (hN20 : N ≤ 20) (hgp : mi 13 0 = nI gp) (hgp20 : gp ≤ 20) (hW : W ≤ 400) (hww : ∀ i, i < N → mi 18 i = nI (ww i)) (hwb : ∀ i, i < N → ww i ≤ 800) (l f : Nat) (hl1 : 1 ≤ l) (hl6 : l ≤ 6) (hf : f ≤ N) (c : Nat → Option Nat) (hc : ∀ j v, c j = some v → v ≤ 1000000) (hrow : ∀ j, j ≤ N → mi 19 ((l - 1) * 21 + j) = nI (en_c (c j))) : EV none 0 0 0 mX4_weigh 0 (en_l mX4_weigh [pv_r 12, pv_i (nI l), pv_i (nI f), pv_i (nI W)]) [] sh mi mr (ok_n sh mr (up_2 (up_2 mi 19 (l * 21 + f) (nI (en_c ((bs_w W gp ww c f (N - f)).map (fun p => p.1))))) 20 (l * 21 + f) (nI (bf_c (bs_w W gp ww c f (N - f)))))) := by
  show EV none 0 0 0 mX4_weigh 0 [some (pv_r 12), some (pv_i (nI l)), some (pv_i (nI f)), some (pv_i (nI W)), none, none, none, none, none, none] [] sh mi mr _
  refine ev_ldc dX4_weigh_0 kc_X4_53 ?_
  refine ev_istore dX4_weigh_2 (by decide) ?_
  refine ev_iconst (v := 0) dX4_weigh_4 rfl ?_
  refine ev_istore dX4_weigh_5 (by decide) ?_
  refine ev_aload_n dX4_weigh_7 rfl ?_
  refine ev_getq dX4_weigh_8 fl_X4_9 rfl (hB.1 12 _ rfl) (hB.2 12 0 _ rfl) ?_
  refine ev_iconst (v := 0) dX4_weigh_11 rfl ?_
  refine ev_iald dX4_weigh_12 (hB.1 13 _ rfl) (j := 0) rfl (by decide) (by decide) ?_
  refine ev_ineg dX4_weigh_13 ?_
  refine ev_istore dX4_weigh_14 (by decide) ?_
  refine ev_iload_n dX4_weigh_16 rfl ?_
  refine ev_istore dX4_weigh_17 (by decide) ?_
  have q := lp_X4_weigh hB N gp W ww hN hN20 hgp hgp20 hW hww hwb l f hl1 hl6 hf c hc hrow 0 (Nat.zero_le _)
  rw [hgp, i_ng]
  rw [Nat.zero_mul] at q
  exact q
