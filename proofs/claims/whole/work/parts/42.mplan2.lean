set_option maxRecDepth 100000 in
set_option maxHeartbeats 4000000 in
theorem lp_X6_p91 {sh : SH} {mi : MI} {mr : MR} (hB : ba_c sh mr) {H : Nat → Nat → Nat} {Dr Pm Pc : Nat → Nat} (hbd : bd_o 10 H Dr Pm Pc) (u K : Nat) (hu : u < 1024) (hK : (mb u 10).length = K) (hK1 : 1 ≤ K) (hK7 : K ≤ 7) (hH : ∀ b, b < 10 → (∀ k, k < 5 → mi 37 (5 * b + k) = nI (H b k)) ∧ mi 38 b = nI (Dr b)) (hPP : ∀ b, b < 10 → mi 39 b = nI (Pm b) ∧ mi 40 b = nI (Pc b)) : ∀ j, j ≤ K → 1 ≤ j → EV none 1 0 0 mX6_plan 91 [some (pv_r 29), some (pv_i (nI u)), some (pv_i (nI K)), some (pv_i (nI (fa j))), some (pv_i (nI (j + 1))), none, none, none, none, none] [] sh (cq_m (cq_m mi 45 37 50) 46 38 10) mr (fun v_ sh_ mi_ mr_ => v_ = some (pv_i (nI (be_o K (fun j => H ((mb u 10).getD j 0)) (fun j => Dr ((mb u 10).getD j 0)) (fun j => Pm ((mb u 10).getD j 0)) (fun j => Pc ((mb u 10).getD j 0))).1)) ∧ sh_ = sh ∧ mr_ = mr ∧ (∀ a c, ¬ (a = 29 ∧ c = 16) → (a < 43 ∨ 49 < a) → mi_ a c = mi a c) ∧ (∀ c, c < 50 → mi_ 45 c = mi 37 c) ∧ (∀ c, c < 10 → mi_ 46 c = mi 38 c) ∧ mi_ 29 16 = nI K ∧ ∀ i, i < K → mi_ 43 i = nI ((mb u 10).getD ((be_o K (fun j => H ((mb u 10).getD j 0)) (fun j => Dr ((mb u 10).getD j 0)) (fun j => Pm ((mb u 10).getD j 0)) (fun j => Pc ((mb u 10).getD j 0))).2.2.getD i 0) 0) ∧ mi_ 44 i = nI (cl_o (fun j => H ((mb u 10).getD j 0)) (fun j => Dr ((mb u 10).getD j 0)) ((be_o K (fun j => H ((mb u 10).getD j 0)) (fun j => Dr ((mb u 10).getD j 0)) (fun j => Pm ((mb u 10).getD j 0)) (fun j => Pc ((mb u 10).getD j 0))).2.2.take (i + 1)) 4)) := by
  refine lp_i K (fun j hj ih => ?_)
  intro hj1
  refine ev_iload dX6_plan_91 rfl ?_
  refine ev_iload_n dX6_plan_93 rfl ?_
  refine ev_icmp_gt (tgt := 108) dX6_plan_94 rfl (fun h94 => ?_) (fun h94 => ?_)
  · have hin : K = j := by have := (nI_ltI (by omega) (by omega)).mp h94; omega
    subst hin
    refine ev_iconst (v := (-1)) dX6_plan_108 rfl ?_
    refine ev_istore dX6_plan_109 (by decide) ?_
    refine ev_iconst (v := 0) dX6_plan_111 rfl ?_
    refine ev_istore dX6_plan_112 (by decide) ?_
    refine ev_iconst (v := 0) dX6_plan_114 rfl ?_
    refine ev_istore dX6_plan_115 (by decide) ?_
    refine ev_post (fun v_ s_ m_ r_ h_ => ?_) (lp_X6_plan (mi := (cq_m (cq_m mi 45 37 50) 46 38 10)) hB hbd u K hu hK hK1 hK7 (fun b hb => ⟨fun k hk => ?_, ?_⟩) hPP 0 (Nat.zero_le _) (cq_m (cq_m mi 45 37 50) 46 38 10) (fun _ _ _ => rfl) (fun b hb => by simp at hb))
    · refine ⟨h_.1, h_.2.1, h_.2.2.1, fun a c g1 g2 => (h_.2.2.2.1 a c g1 (by omega)).trans ?_, fun c hc => (h_.2.2.2.1 45 c (by omega) (by omega)).trans ?_, fun c hc => (h_.2.2.2.1 46 c (by omega) (by omega)).trans ?_, h_.2.2.2.2.1, h_.2.2.2.2.2⟩
      · simp only [cq_m]
        rw [if_neg (by omega), if_neg (by omega)]
      · simp only [cq_m]
        rw [if_neg (by omega), if_pos ⟨trivial, hc⟩]
      · simp only [cq_m]
        rw [if_pos ⟨trivial, hc⟩, if_neg (by omega)]
    · rw [← (hH b hb).1 k hk]
      simp only [cq_m]
      rw [if_neg (by omega), if_pos ⟨trivial, by omega⟩]
    · rw [← (hH b hb).2]
      simp only [cq_m]
      rw [if_pos ⟨trivial, hb⟩, if_neg (by omega)]
  · have hlt : j < K := by have := (not_congr (nI_ltI (by omega) (by omega))).mp h94; omega
    refine ev_iload_n dX6_plan_97 rfl ?_
    refine ev_iload dX6_plan_98 rfl ?_
    refine ev_imul dX6_plan_100 ?_
    refine ev_istore_n dX6_plan_101 (by decide) ?_
    refine ev_iincN dX6_plan_102 rfl (by decide) ?_
    refine ev_goto (tgt := 91) dX6_plan_105 rfl ?_
    have q := ih hlt (by omega)
    rw [show fa (j + 1) = fa j * (j + 1) from Nat.mul_comm _ _, ← pk_mul] at q
    exact q
set_option maxRecDepth 100000 in
set_option maxHeartbeats 4000000 in
theorem lp_X6_p62 {sh : SH} {mi : MI} {mr : MR} (hB : ba_c sh mr) {H : Nat → Nat → Nat} {Dr Pm Pc : Nat → Nat} (hbd : bd_o 10 H Dr Pm Pc) (u K : Nat) (hu : u < 1024) (hK : (mb u 10).length = K) (hK1 : 1 ≤ K) (hK7 : K ≤ 7) (hH : ∀ b, b < 10 → (∀ k, k < 5 → mi 37 (5 * b + k) = nI (H b k)) ∧ mi 38 b = nI (Dr b)) (hPP : ∀ b, b < 10 → mi 39 b = nI (Pm b) ∧ mi 40 b = nI (Pc b)) : ∀ i, i ≤ 10 → EV none 1 0 0 mX6_plan 62 [some (pv_r 29), some (pv_i (nI u)), some (pv_i (nI K)), some (pv_i (nI i)), none, none, none, none, none, none] [] sh (cq_m (cq_m mi 45 37 50) 46 38 i) mr (fun v_ sh_ mi_ mr_ => v_ = some (pv_i (nI (be_o K (fun j => H ((mb u 10).getD j 0)) (fun j => Dr ((mb u 10).getD j 0)) (fun j => Pm ((mb u 10).getD j 0)) (fun j => Pc ((mb u 10).getD j 0))).1)) ∧ sh_ = sh ∧ mr_ = mr ∧ (∀ a c, ¬ (a = 29 ∧ c = 16) → (a < 43 ∨ 49 < a) → mi_ a c = mi a c) ∧ (∀ c, c < 50 → mi_ 45 c = mi 37 c) ∧ (∀ c, c < 10 → mi_ 46 c = mi 38 c) ∧ mi_ 29 16 = nI K ∧ ∀ i, i < K → mi_ 43 i = nI ((mb u 10).getD ((be_o K (fun j => H ((mb u 10).getD j 0)) (fun j => Dr ((mb u 10).getD j 0)) (fun j => Pm ((mb u 10).getD j 0)) (fun j => Pc ((mb u 10).getD j 0))).2.2.getD i 0) 0) ∧ mi_ 44 i = nI (cl_o (fun j => H ((mb u 10).getD j 0)) (fun j => Dr ((mb u 10).getD j 0)) ((be_o K (fun j => H ((mb u 10).getD j 0)) (fun j => Dr ((mb u 10).getD j 0)) (fun j => Pm ((mb u 10).getD j 0)) (fun j => Pc ((mb u 10).getD j 0))).2.2.take (i + 1)) 4)) := by
  refine lp_i 10 (fun i hi ih => ?_)
  refine ev_iload_n dX6_plan_62 rfl ?_
  refine ev_bipush (v := 10) dX6_plan_63 rfl ?_
  refine ev_icmp_ge (tgt := 86) dX6_plan_65 rfl (fun h65 => ?_) (fun h65 => ?_)
  · have hin : i = 10 := by have := (nl_le (show (10 : Int32) = nI 10 from rfl) rfl (by omega) (by omega)).mp h65; omega
    subst hin
    refine ev_iconst (v := 1) dX6_plan_86 rfl ?_
    refine ev_istore_n dX6_plan_87 (by decide) ?_
    refine ev_iconst (v := 2) dX6_plan_88 rfl ?_
    refine ev_istore dX6_plan_89 (by decide) ?_
    exact lp_X6_p91 hB hbd u K hu hK hK1 hK7 hH hPP 1 hK1 (Nat.le_refl 1)
  · have hlt : i < 10 := by have := (not_congr (nl_le (show (10 : Int32) = nI 10 from rfl) rfl (by omega) (by omega))).mp h65; omega
    refine ev_aload_n dX6_plan_68 rfl ?_
    refine ev_getq dX6_plan_69 fl_X6_59 rfl (hB.1 29 _ rfl) (hB.2 29 20 _ rfl) ?_
    refine ev_iload_n dX6_plan_72 rfl ?_
    refine ev_aload_n dX6_plan_73 rfl ?_
    refine ev_getq dX6_plan_74 fl_X6_35 rfl (hB.1 29 _ rfl) (hB.2 29 10 _ rfl) ?_
    refine ev_iload_n dX6_plan_77 rfl ?_
    refine ev_iald dX6_plan_78 (hB.1 38 _ rfl) (j := i) rfl (by omega) (by decide) ?_
    refine ev_iast dX6_plan_79 (hB.1 46 _ rfl) (j := i) rfl (by omega) (by decide) ?_
    refine ev_iincN dX6_plan_80 rfl (by decide) ?_
    refine ev_goto (tgt := 62) dX6_plan_83 rfl ?_
    have q := ih hlt
    rw [← cq_s (by decide)] at q
    exact q
set_option maxRecDepth 100000 in
set_option maxHeartbeats 4000000 in
theorem lp_X6_p36 {sh : SH} {mi : MI} {mr : MR} (hB : ba_c sh mr) {H : Nat → Nat → Nat} {Dr Pm Pc : Nat → Nat} (hbd : bd_o 10 H Dr Pm Pc) (u K : Nat) (hu : u < 1024) (hK : (mb u 10).length = K) (hK1 : 1 ≤ K) (hK7 : K ≤ 7) (hH : ∀ b, b < 10 → (∀ k, k < 5 → mi 37 (5 * b + k) = nI (H b k)) ∧ mi 38 b = nI (Dr b)) (hPP : ∀ b, b < 10 → mi 39 b = nI (Pm b) ∧ mi 40 b = nI (Pc b)) : ∀ i, i ≤ 50 → EV none 1 0 0 mX6_plan 36 [some (pv_r 29), some (pv_i (nI u)), some (pv_i (nI K)), some (pv_i (nI i)), none, none, none, none, none, none] [] sh (cq_m mi 45 37 i) mr (fun v_ sh_ mi_ mr_ => v_ = some (pv_i (nI (be_o K (fun j => H ((mb u 10).getD j 0)) (fun j => Dr ((mb u 10).getD j 0)) (fun j => Pm ((mb u 10).getD j 0)) (fun j => Pc ((mb u 10).getD j 0))).1)) ∧ sh_ = sh ∧ mr_ = mr ∧ (∀ a c, ¬ (a = 29 ∧ c = 16) → (a < 43 ∨ 49 < a) → mi_ a c = mi a c) ∧ (∀ c, c < 50 → mi_ 45 c = mi 37 c) ∧ (∀ c, c < 10 → mi_ 46 c = mi 38 c) ∧ mi_ 29 16 = nI K ∧ ∀ i, i < K → mi_ 43 i = nI ((mb u 10).getD ((be_o K (fun j => H ((mb u 10).getD j 0)) (fun j => Dr ((mb u 10).getD j 0)) (fun j => Pm ((mb u 10).getD j 0)) (fun j => Pc ((mb u 10).getD j 0))).2.2.getD i 0) 0) ∧ mi_ 44 i = nI (cl_o (fun j => H ((mb u 10).getD j 0)) (fun j => Dr ((mb u 10).getD j 0)) ((be_o K (fun j => H ((mb u 10).getD j 0)) (fun j => Dr ((mb u 10).getD j 0)) (fun j => Pm ((mb u 10).getD j 0)) (fun j => Pc ((mb u 10).getD j 0))).2.2.take (i + 1)) 4)) := by
  refine lp_i 50 (fun i hi ih => ?_)
  refine ev_iload_n dX6_plan_36 rfl ?_
  refine ev_bipush (v := 50) dX6_plan_37 rfl ?_
  refine ev_icmp_ge (tgt := 60) dX6_plan_39 rfl (fun h39 => ?_) (fun h39 => ?_)
  · have hin : i = 50 := by have := (nl_le (show (50 : Int32) = nI 50 from rfl) rfl (by omega) (by omega)).mp h39; omega
    subst hin
    refine ev_iconst (v := 0) dX6_plan_60 rfl ?_
    refine ev_istore_n dX6_plan_61 (by decide) ?_
    have q := lp_X6_p62 hB hbd u K hu hK hK1 hK7 hH hPP 0 (by decide)
    rw [cq_0] at q
    exact q
  · have hlt : i < 50 := by have := (not_congr (nl_le (show (50 : Int32) = nI 50 from rfl) rfl (by omega) (by omega))).mp h39; omega
    refine ev_aload_n dX6_plan_42 rfl ?_
    refine ev_getq dX6_plan_43 fl_X6_56 rfl (hB.1 29 _ rfl) (hB.2 29 19 _ rfl) ?_
    refine ev_iload_n dX6_plan_46 rfl ?_
    refine ev_aload_n dX6_plan_47 rfl ?_
    refine ev_getq dX6_plan_48 fl_X6_32 rfl (hB.1 29 _ rfl) (hB.2 29 9 _ rfl) ?_
    refine ev_iload_n dX6_plan_51 rfl ?_
    refine ev_iald dX6_plan_52 (hB.1 37 _ rfl) (j := i) rfl (by omega) (by decide) ?_
    refine ev_iast dX6_plan_53 (hB.1 45 _ rfl) (j := i) rfl (by omega) (by decide) ?_
    refine ev_iincN dX6_plan_54 rfl (by decide) ?_
    refine ev_goto (tgt := 36) dX6_plan_57 rfl ?_
    have q := ih hlt
    rw [← cq_s (by decide)] at q
    exact q
set_option maxRecDepth 100000 in
set_option maxHeartbeats 4000000 in
theorem t_X6_plan_q {sh : SH} {mi : MI} {mr : MR} (hB : ba_c sh mr) (nb : Nat) (hnb : mi 29 1 = nI nb) (hnb10 : nb ≤ 10) {H : Nat → Nat → Nat} {Dr Pm Pc : Nat → Nat} (hbd : bd_o 10 H Dr Pm Pc) (u K : Nat) (hu : u < 2 ^ nb) (hK : (mb u 10).length = K) (hK1 : 1 ≤ K) (hK7 : K ≤ 7) (hH : ∀ b, b < 10 → (∀ k, k < 5 → mi 37 (5 * b + k) = nI (H b k)) ∧ mi 38 b = nI (Dr b)) (hPP : ∀ b, b < 10 → mi 39 b = nI (Pm b) ∧ mi 40 b = nI (Pc b)) : EV none 1 0 0 mX6_plan 0 (en_l mX6_plan [pv_r 29, pv_i (nI u)]) [] sh mi mr (fun v_ sh_ mi_ mr_ => v_ = some (pv_i (nI (be_o K (fun j => H ((mb u 10).getD j 0)) (fun j => Dr ((mb u 10).getD j 0)) (fun j => Pm ((mb u 10).getD j 0)) (fun j => Pc ((mb u 10).getD j 0))).1)) ∧ sh_ = sh ∧ mr_ = mr ∧ (∀ a c, ¬ (a = 29 ∧ c = 16) → (a < 43 ∨ 49 < a) → mi_ a c = mi a c) ∧ (∀ c, c < 50 → mi_ 45 c = mi 37 c) ∧ (∀ c, c < 10 → mi_ 46 c = mi 38 c) ∧ mi_ 29 16 = nI K ∧ ∀ i, i < K → mi_ 43 i = nI ((mb u 10).getD ((be_o K (fun j => H ((mb u 10).getD j 0)) (fun j => Dr ((mb u 10).getD j 0)) (fun j => Pm ((mb u 10).getD j 0)) (fun j => Pc ((mb u 10).getD j 0))).2.2.getD i 0) 0) ∧ mi_ 44 i = nI (cl_o (fun j => H ((mb u 10).getD j 0)) (fun j => Dr ((mb u 10).getD j 0)) ((be_o K (fun j => H ((mb u 10).getD j 0)) (fun j => Dr ((mb u 10).getD j 0)) (fun j => Pm ((mb u 10).getD j 0)) (fun j => Pc ((mb u 10).getD j 0))).2.2.take (i + 1)) 4)) := by
  show EV none 1 0 0 mX6_plan 0 [some (pv_r 29), some (pv_i (nI u)), none, none, none, none, none, none, none, none] [] sh mi mr _
  have hu10 : u < 1024 := Nat.lt_of_lt_of_le hu (p2_10 nb hnb10)
  refine ev_iload_n dX6_plan_0 rfl ?_
  refine ev_if_lt_f (tgt := 13) dX6_plan_1 rfl (set_m hnb10 hu).1 ?_
  refine ev_iload_n dX6_plan_4 rfl ?_
  refine ev_aload_n dX6_plan_5 rfl ?_
  refine ev_geti dX6_plan_6 fl_X6_126 rfl (hB.1 29 _ rfl) ?_
  refine ev_ishr dX6_plan_9 ?_
  refine ev_if_eq_t (tgt := 16) dX6_plan_10 rfl (by rw [hnb]; exact (set_m hnb10 hu).2) ?_
  refine ev_iload_n dX6_plan_16 rfl ?_
  refine ev_s1i dX6_plan_17 cs_X6_141 (Nat.le_of_ble_eq_true rfl) (by decide) (t_X6_many _) ?_
  rw [(bc_10 u hu10).2, hK]
  refine ev_istore_n dX6_plan_20 (by decide) ?_
  refine ev_iload_n dX6_plan_21 rfl ?_
  refine ev_iconst (v := 1) dX6_plan_22 rfl ?_
  refine ev_bipush (v := 7) dX6_plan_23 rfl ?_
  refine ev_s3i dX6_plan_25 cs_X6_129 (Nat.le_of_ble_eq_true rfl) (by decide) (t_X6_in _ _ _) ?_
  refine ev_if_ne_t (tgt := 34) dX6_plan_28 rfl (by rw [bi_1 ⟨nI_le (a := 1) hK1 (by omega), nI_le (b := 7) hK7 (by decide)⟩]; decide) ?_
  refine ev_iconst (v := 0) dX6_plan_34 rfl ?_
  refine ev_istore_n dX6_plan_35 (by decide) ?_
  have q := lp_X6_p36 hB hbd u K hu10 hK hK1 hK7 hH hPP 0 (by decide)
  rw [cq_0] at q
  exact q
theorem t_X6_plan_k {sh : SH} {mi : MI} {mr : MR} (hB : ba_c sh mr) (nb : Nat) (hnb : mi 29 1 = nI nb) (hnb10 : nb ≤ 10) (H : Nat → Nat → Nat) (Dr Pm Pc : Nat → Nat) (hbd : bd_o 10 H Dr Pm Pc) (u : Nat) (hu : u < 2 ^ nb) (hu1 : 1 ≤ (mb u nb).length) (hu7 : (mb u nb).length ≤ 7) (hH : ∀ b, b < 10 → (∀ k, k < 5 → mi 37 (5 * b + k) = nI (H b k)) ∧ mi 38 b = nI (Dr b)) (hPP : ∀ b, b < 10 → mi 39 b = nI (Pm b) ∧ mi 40 b = nI (Pc b)) : EV none 1 0 0 mX6_plan 0 (en_l mX6_plan [pv_r 29, pv_i (nI u)]) [] sh mi mr (fun v_ sh_ mi_ mr_ => v_ = some (pv_i (nI (be_o (mb u nb).length (fun j => H ((mb u nb).getD j 0)) (fun j => Dr ((mb u nb).getD j 0)) (fun j => Pm ((mb u nb).getD j 0)) (fun j => Pc ((mb u nb).getD j 0))).1)) ∧ sh_ = sh ∧ mr_ = mr ∧ (∀ a c, ¬ (a = 29 ∧ c = 16) → (a < 43 ∨ 49 < a) → mi_ a c = mi a c) ∧ (∀ c, c < 50 → mi_ 45 c = mi 37 c) ∧ (∀ c, c < 10 → mi_ 46 c = mi 38 c) ∧ mi_ 29 16 = nI (mb u nb).length ∧ ∀ i, i < (mb u nb).length → mi_ 43 i = nI ((mb u nb).getD ((be_o (mb u nb).length (fun j => H ((mb u nb).getD j 0)) (fun j => Dr ((mb u nb).getD j 0)) (fun j => Pm ((mb u nb).getD j 0)) (fun j => Pc ((mb u nb).getD j 0))).2.2.getD i 0) 0) ∧ mi_ 44 i = nI (cl_o (fun j => H ((mb u nb).getD j 0)) (fun j => Dr ((mb u nb).getD j 0)) ((be_o (mb u nb).length (fun j => H ((mb u nb).getD j 0)) (fun j => Dr ((mb u nb).getD j 0)) (fun j => Pm ((mb u nb).getD j 0)) (fun j => Pc ((mb u nb).getD j 0))).2.2.take (i + 1)) 4)) := by
  have e := mb_up hu 10 hnb10
  rw [← e] at hu1 hu7 ⊢
  exact t_X6_plan_q hB nb hnb hnb10 hbd u _ hu rfl hu1 hu7 hH hPP
set_option maxRecDepth 100000 in
set_option maxHeartbeats 4000000 in
theorem t_X6_plan_o {sh : SH} {mi : MI} {mr : MR} (hB : ba_c sh mr) (nb : Nat) (hnb : mi 29 1 = nI nb) (hnb10 : nb ≤ 10) (u : Nat) (hu : u < 2 ^ nb) (hu1 : ¬ (1 ≤ (mb u nb).length ∧ (mb u nb).length ≤ 7)) : EV none 1 0 0 mX6_plan 0 (en_l mX6_plan [pv_r 29, pv_i (nI u)]) [] sh mi mr (ok_r sh mr (-3) mi) := by
  show EV none 1 0 0 mX6_plan 0 [some (pv_r 29), some (pv_i (nI u)), none, none, none, none, none, none, none, none] [] sh mi mr _
  have hu10 : u < 1024 := Nat.lt_of_lt_of_le hu (p2_10 nb hnb10)
  have hl10 : (mb u 10).length ≤ 10 := mb_10 u 10
  rw [← mb_up hu 10 hnb10] at hu1
  refine ev_iload_n dX6_plan_0 rfl ?_
  refine ev_if_lt_f (tgt := 13) dX6_plan_1 rfl (set_m hnb10 hu).1 ?_
  refine ev_iload_n dX6_plan_4 rfl ?_
  refine ev_aload_n dX6_plan_5 rfl ?_
  refine ev_geti dX6_plan_6 fl_X6_126 rfl (hB.1 29 _ rfl) ?_
  refine ev_ishr dX6_plan_9 ?_
  refine ev_if_eq_t (tgt := 16) dX6_plan_10 rfl (by rw [hnb]; exact (set_m hnb10 hu).2) ?_
  refine ev_iload_n dX6_plan_16 rfl ?_
  refine ev_s1i dX6_plan_17 cs_X6_141 (Nat.le_of_ble_eq_true rfl) (by decide) (t_X6_many _) ?_
  rw [(bc_10 u hu10).2]
  refine ev_istore_n dX6_plan_20 (by decide) ?_
  refine ev_iload_n dX6_plan_21 rfl ?_
  refine ev_iconst (v := 1) dX6_plan_22 rfl ?_
  refine ev_bipush (v := 7) dX6_plan_23 rfl ?_
  refine ev_s3i dX6_plan_25 cs_X6_129 (Nat.le_of_ble_eq_true rfl) (by decide) (t_X6_in _ _ _) ?_
  refine ev_if_ne_f (tgt := 34) dX6_plan_28 rfl (bi_f (fun e => hu1 ⟨(nI_leI (a := 1) (by decide) (by omega)).mp e.1, (nI_leI (b := 7) (by omega) (by decide)).mp e.2⟩)) ?_
  refine ev_bipush (v := (-3)) dX6_plan_31 rfl ?_
  exact ev_ireturn (ty := .int) dX6_plan_33 rfl rfl ⟨rfl, rfl, rfl, rfl⟩
set_option maxRecDepth 100000 in
set_option maxHeartbeats 4000000 in
theorem t_X6_plan_u {sh : SH} {mi : MI} {mr : MR} (hB : ba_c sh mr) (nb : Nat) (hnb : mi 29 1 = nI nb) (hnb10 : nb ≤ 10) (p1 : Int32) (hu : ¬ ∃ u, u < 2 ^ nb ∧ p1 = nI u) : EV none 1 0 0 mX6_plan 0 (en_l mX6_plan [pv_r 29, pv_i p1]) [] sh mi mr (ok_r sh mr (-2) mi) := by
  show EV none 1 0 0 mX6_plan 0 [some (pv_r 29), some (pv_i p1), none, none, none, none, none, none, none, none] [] sh mi mr _
  refine ev_iload_n dX6_plan_0 rfl ?_
  refine ev_if_lt (tgt := 13) dX6_plan_1 rfl (fun h1 => ?_) (fun h1 => ?_)
  · refine ev_bipush (v := (-2)) dX6_plan_13 rfl ?_
    exact ev_ireturn (ty := .int) dX6_plan_15 rfl rfl ⟨rfl, rfl, rfl, rfl⟩
  · refine ev_iload_n dX6_plan_4 rfl ?_
    refine ev_aload_n dX6_plan_5 rfl ?_
    refine ev_geti dX6_plan_6 fl_X6_126 rfl (hB.1 29 _ rfl) ?_
    refine ev_ishr dX6_plan_9 ?_
    refine ev_if_eq_f (tgt := 16) dX6_plan_10 rfl (by rw [hnb]; exact set_n hnb10 h1 hu) ?_
    refine ev_bipush (v := (-2)) dX6_plan_13 rfl ?_
    exact ev_ireturn (ty := .int) dX6_plan_15 rfl rfl ⟨rfl, rfl, rfl, rfl⟩
set_option maxRecDepth 100000 in
set_option maxHeartbeats 4000000 in
theorem t_X6_planned_u {sh : SH} {mi : MI} {mr : MR} (hB : ba_c sh mr) (p1 p2 : Int32) (hu : ¬ (0 ≤ p1 ∧ p1 ≤ ((mi 29 16) - 1))) : EV none 1 0 0 mX6_planned 0 (en_l mX6_planned [pv_r 29, pv_i p1, pv_i p2]) [] sh mi mr (ok_r sh mr (-3) mi) := by
  show EV none 1 0 0 mX6_planned 0 [some (pv_r 29), some (pv_i p1), some (pv_i p2)] [] sh mi mr _
  refine ev_iload_n dX6_planned_0 rfl ?_
  refine ev_iconst (v := 0) dX6_planned_1 rfl ?_
  refine ev_aload_n dX6_planned_2 rfl ?_
  refine ev_geti dX6_planned_3 fl_X6_162 rfl (hB.1 29 _ rfl) ?_
  refine ev_iconst (v := 1) dX6_planned_6 rfl ?_
  refine ev_isub dX6_planned_7 ?_
  refine ev_s3i dX6_planned_8 cs_X6_129 (Nat.le_of_ble_eq_true rfl) (by decide) (t_X6_in _ _ _) ?_
  refine ev_if_eq_t (tgt := 23) dX6_planned_11 rfl (bi_f hu) ?_
  refine ev_bipush (v := (-3)) dX6_planned_23 rfl ?_
  exact ev_ireturn (ty := .int) dX6_planned_25 rfl rfl ⟨rfl, rfl, rfl, rfl⟩
set_option maxRecDepth 100000 in
set_option maxHeartbeats 4000000 in
theorem t_X6_planned_k {sh : SH} {mi : MI} {mr : MR} (hB : ba_c sh mr) (K : Nat) (hK : mi 29 16 = nI K) (hK7 : K ≤ 7) (i : Nat) (hlt : i < K) (p2 : Int32) : EV none 1 0 0 mX6_planned 0 (en_l mX6_planned [pv_r 29, pv_i (nI i), pv_i p2]) [] sh mi mr (fun v_ sh_ mi_ mr_ => ((0 ≤ p2 ∧ p2 ≤ 1) ∧ (¬ p2 = 0) ∧ (ok_r sh mr (mi 44 i) mi) v_ sh_ mi_ mr_) ∨ ((0 ≤ p2 ∧ p2 ≤ 1) ∧ (p2 = 0) ∧ (ok_r sh mr (mi 43 i) mi) v_ sh_ mi_ mr_) ∨ ((¬ (0 ≤ p2 ∧ p2 ≤ 1)) ∧ (ok_r sh mr (-3) mi) v_ sh_ mi_ mr_)) := by
  show EV none 1 0 0 mX6_planned 0 [some (pv_r 29), some (pv_i (nI i)), some (pv_i p2)] [] sh mi mr _
  refine ev_iload_n dX6_planned_0 rfl ?_
  refine ev_iconst (v := 0) dX6_planned_1 rfl ?_
  refine ev_aload_n dX6_planned_2 rfl ?_
  refine ev_geti dX6_planned_3 fl_X6_162 rfl (hB.1 29 _ rfl) ?_
  refine ev_iconst (v := 1) dX6_planned_6 rfl ?_
  refine ev_isub dX6_planned_7 ?_
  refine ev_s3i dX6_planned_8 cs_X6_129 (Nat.le_of_ble_eq_true rfl) (by decide) (t_X6_in _ _ _) ?_
  refine ev_if_eq_f (tgt := 23) dX6_planned_11 rfl (by rw [bi_1 (by rw [hK]; exact (i_cases (by omega)).mpr ⟨i, hlt, rfl⟩)]; decide) ?_
  refine ev_iload_n dX6_planned_14 rfl ?_
  refine ev_iconst (v := 0) dX6_planned_15 rfl ?_
  refine ev_iconst (v := 1) dX6_planned_16 rfl ?_
  refine ev_s3i dX6_planned_17 cs_X6_129 (Nat.le_of_ble_eq_true rfl) (by decide) (t_X6_in _ _ _) ?_
  refine ev_ifb_ne (tgt := 26) dX6_planned_20 rfl (fun h20 => ?_) (fun h20 => ?_)
  · refine ev_iload_n dX6_planned_26 rfl ?_
    refine ev_if_ne (tgt := 39) dX6_planned_27 rfl (fun h27 => ?_) (fun h27 => ?_)
    · refine ev_aload_n dX6_planned_39 rfl ?_
      refine ev_getq dX6_planned_40 fl_X6_53 rfl (hB.1 29 _ rfl) (hB.2 29 18 _ rfl) ?_
      refine ev_iload_n dX6_planned_43 rfl ?_
      refine ev_iald dX6_planned_44 (hB.1 44 _ rfl) (j := i) rfl (by omega) (by decide) ?_
      exact ev_ireturn (ty := .int) dX6_planned_45 rfl rfl (Or.inl ⟨h20, h27, rfl, rfl, rfl, rfl⟩)
    · refine ev_aload_n dX6_planned_30 rfl ?_
      refine ev_getq dX6_planned_31 fl_X6_50 rfl (hB.1 29 _ rfl) (hB.2 29 17 _ rfl) ?_
      refine ev_iload_n dX6_planned_34 rfl ?_
      refine ev_iald dX6_planned_35 (hB.1 43 _ rfl) (j := i) rfl (by omega) (by decide) ?_
      refine ev_goto (tgt := 45) dX6_planned_36 rfl ?_
      exact ev_ireturn (ty := .int) dX6_planned_45 rfl rfl (Or.inr (Or.inl ⟨h20, h27, rfl, rfl, rfl, rfl⟩))
  · refine ev_bipush (v := (-3)) dX6_planned_23 rfl ?_
    exact ev_ireturn (ty := .int) dX6_planned_25 rfl rfl (Or.inr (Or.inr ⟨h20, rfl, rfl, rfl, rfl⟩))
