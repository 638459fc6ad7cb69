theorem ups_e {α : Type} {f : Nat → α} {i : Nat} {v : α} : up_s f i v i = v := if_pos rfl
theorem ups_n {α : Type} {f : Nat → α} {i s : Nat} {v : α} (h : s ≠ i) : up_s f i v s = f s := if_neg h
/-- the model's skins -/
def mm_c (m : MI) (ns : Nat) (Wd Hd : Nat → Nat) (tn : Nat → Int32) (S : Nat → (Nat → Nat → Int32) × Nat) : Prop := ∀ s, s < ns → m 56 s = nI (Wd s) ∧ m 57 s = nI (Hd s) ∧ m 58 s = tn s ∧ m 60 s = nI (S s).2 ∧ ∀ x y, x < Wd s → y < Hd s → m 59 (144 * s + 12 * y + x) = (S s).1 x y
def wh_c (ns : Nat) (Wd Hd : Nat → Nat) : Prop := ∀ s, s < ns → Wd s ≤ 12 ∧ Hd s ≤ 12
def mk_f (Wd Hd : Nat → Nat) (tn : Nat → Int32) (S : Nat → (Nat → Nat → Int32) × Nat) (w h : Nat) (t : Int32) (n : Nat) (ca : Nat → Nat) : Nat → Nat
  | 0 => 0
  | i + 1 => mk_f Wd Hd tn S w h t n ca i + (if tn i = t ∧ ca i ≠ 0 then 2 ^ i else 0)
def pc_n (u : Nat) : Nat := (u % 2) + (u / 2 % 2) + (u / 4 % 2) + (u / 8 % 2) + (u / 16 % 2) + (u / 32 % 2)
theorem mk_lt {Wd Hd : Nat → Nat} {tn : Nat → Int32} {S : Nat → (Nat → Nat → Int32) × Nat} {w h : Nat} {t : Int32} {n : Nat} {ca : Nat → Nat} : ∀ i, mk_f Wd Hd tn S w h t n ca i < 2 ^ i
  | 0 => by simp [mk_f]
  | i + 1 => by
    have := mk_lt (Wd := Wd) (Hd := Hd) (tn := tn) (S := S) (w := w) (h := h) (t := t) (n := n) (ca := ca) i
    simp only [mk_f, Nat.pow_succ]
    split <;> omega
set_option maxRecDepth 100000 in
theorem or_k : ∀ i, i < 6 → ∀ u, u < 64 → nI u ||| ((1 : Int32) <<< (nI i &&& 31)) = nI (u ||| 2 ^ i) := by decide +kernel
set_option maxRecDepth 100000 in
theorem or_n : ∀ i, i < 6 → ∀ u, u < 2 ^ i → (u ||| 2 ^ i) = u + 2 ^ i ∧ ((u + 2 ^ i) ||| 2 ^ i) = u + 2 ^ i ∧ u + 2 ^ i < 64 ∧ pc_n (u + 2 ^ i) = pc_n u + 1 := by decide +kernel
set_option maxRecDepth 100000 in
theorem mn_k : ∀ u, u < 64 → mn (nI u) 16 = nI (pc_n u) := by decide +kernel
theorem p2_le : ∀ i, i ≤ 6 → 2 ^ i ≤ 64 := by decide
theorem mk_pc {Wd Hd : Nat → Nat} {tn : Nat → Int32} {S : Nat → (Nat → Nat → Int32) × Nat} {w h : Nat} {p1 : Int32} {n : Nat} : ∀ i, i ≤ 6 → pc_n (mk_f Wd Hd tn S w h p1 n (fun i => (ca_f (Wd i) (Hd i) w h (cv_f Wd Hd tn S w h p1 n i).1 (S i)).1) i) = (cv_f Wd Hd tn S w h p1 n i).2.1
  | 0, _ => by simp [mk_f, cv_f, pc_n]
  | i + 1, hi => by
    have ih := mk_pc (Wd := Wd) (Hd := Hd) (tn := tn) (S := S) (w := w) (h := h) (p1 := p1) (n := n) i (by omega)
    have hl := mk_lt (Wd := Wd) (Hd := Hd) (tn := tn) (S := S) (w := w) (h := h) (t := p1) (n := n) (ca := (fun i => (ca_f (Wd i) (Hd i) w h (cv_f Wd Hd tn S w h p1 n i).1 (S i)).1)) i
    simp only [mk_f]
    by_cases e : tn i = p1
    · rw [cv_yes e]
      by_cases e2 : (ca_f (Wd i) (Hd i) w h (cv_f Wd Hd tn S w h p1 n i).1 (S i)).1 = 0
      · rw [if_neg (fun q => q.2 e2), Nat.add_zero, ih]; simp [e2]
      · rw [if_pos ⟨e, e2⟩, (or_n i (by omega) _ hl).2.2.2, ih]; simp [e2]
    · rw [cv_not e, if_neg (fun q => e q.1), Nat.add_zero, ih]
def ag_4 (mi m : MI) : Prop := ∀ a c, a ≠ 59 → a ≠ 60 → m a c = mi a c
def ag_5 (mi m : MI) : Prop := ∀ a c, a ≠ 59 → a ≠ 60 → a ≠ 61 → a ≠ 62 → m a c = mi a c
set_option maxRecDepth 100000 in
set_option maxHeartbeats 4000000 in
theorem lp_X6_cov5 {sh : SH} {mi : MI} {mr : MR} (hB : ba_c sh mr) (M0 : MI) (hk1 : ∀ c, c < 864 → M0 61 c = mi 59 c) (hk2 : ∀ c, c < 6 → M0 62 c = mi 60 c) (h05 : ag_5 mi M0) (w h n : Nat) (p1 p5 p6 : Int32) : ∀ i, i ≤ 6 → ∀ m, ag_4 M0 m → (∀ c, c < 864 → m 59 c = mi 59 c) → (∀ c, c < i → m 60 c = mi 60 c) → EV none 2 0 0 mX6_covers 215 [some (pv_r 29), some (pv_i p1), some (pv_i (nI w)), some (pv_i (nI h)), some (pv_i (nI n)), some (pv_i p5), some (pv_i p6), some (pv_i (nI i))] [] sh m mr (fun v_ sh_ mi_ mr_ => v_ = some (pv_i (-4)) ∧ sh_ = sh ∧ mr_ = mr ∧ ag_5 mi mi_ ∧ (∀ c, c < 864 → mi_ 59 c = mi 59 c) ∧ (∀ c, c < 6 → mi_ 60 c = mi 60 c)) := by
  refine lp_i 6 (fun i hi ih => ?_)
  intro m hag h59 h60
  refine ev_iload dX6_covers_215 rfl ?_
  refine ev_bipush (v := 6) dX6_covers_217 rfl ?_
  refine ev_icmp_ge (tgt := 242) dX6_covers_219 rfl (fun h219 => ?_) (fun h219 => ?_)
  · have hin : 6 ≤ i := (nl_le (x := 6) (a := 6) rfl (b := i) rfl (by decide) (by omega)).mp h219
    refine ev_bipush (v := (-4)) dX6_covers_242 rfl ?_
    exact ev_ireturn (ty := .int) dX6_covers_244 rfl rfl ⟨rfl, rfl, rfl, fun a c h1 h2 h3 h4 => (hag a c h1 h2).trans (h05 a c h1 h2 h3 h4), h59, fun c hc => h60 c (by omega)⟩
  · have hlt : i < 6 := by have := (not_congr (nl_le (x := 6) (a := 6) rfl (b := i) rfl (by decide) (by omega))).mp h219; omega
    refine ev_aload_n dX6_covers_222 rfl ?_
    refine ev_getq dX6_covers_223 fl_X6_105 rfl (hB.1 29 _ rfl) (hB.2 29 39 _ rfl) ?_
    refine ev_iload dX6_covers_226 rfl ?_
    refine ev_aload_n dX6_covers_228 rfl ?_
    refine ev_getq dX6_covers_229 fl_X6_111 rfl (hB.1 29 _ rfl) (hB.2 29 41 _ rfl) ?_
    refine ev_iload dX6_covers_232 rfl ?_
    refine ev_iald dX6_covers_234 (hB.1 62 _ rfl) (j := i) rfl (by omega) (by decide) ?_
    refine ev_iast dX6_covers_235 (hB.1 60 _ rfl) (j := i) rfl (by omega) (by decide) ?_
    refine ev_iincN dX6_covers_236 rfl (by decide) ?_
    refine ev_goto (tgt := 215) dX6_covers_239 rfl ?_
    refine ih hlt _ (fun a c h1 h2 => (up_ne (Or.inl h2)).trans (hag a c h1 h2)) (fun c hc => (up_ne (Or.inl (by decide))).trans (h59 c hc)) (fun c hc => ?_)
    by_cases e : c = i
    · subst e; rw [up_at, hag 62 c (by decide) (by decide)]; exact hk2 c hlt
    · exact (up_ne (Or.inr e)).trans (h60 c (by omega))
set_option maxRecDepth 100000 in
set_option maxHeartbeats 4000000 in
theorem lp_X6_cov4 {sh : SH} {mi : MI} {mr : MR} (hB : ba_c sh mr) (M0 : MI) (hk1 : ∀ c, c < 864 → M0 61 c = mi 59 c) (hk2 : ∀ c, c < 6 → M0 62 c = mi 60 c) (h05 : ag_5 mi M0) (w h n : Nat) (p1 p5 p6 : Int32) : ∀ i, i ≤ 864 → ∀ m, ag_4 M0 m → (∀ c, c < i → m 59 c = mi 59 c) → EV none 2 0 0 mX6_covers 184 [some (pv_r 29), some (pv_i p1), some (pv_i (nI w)), some (pv_i (nI h)), some (pv_i (nI n)), some (pv_i p5), some (pv_i p6), some (pv_i (nI i))] [] sh m mr (fun v_ sh_ mi_ mr_ => v_ = some (pv_i (-4)) ∧ sh_ = sh ∧ mr_ = mr ∧ ag_5 mi mi_ ∧ (∀ c, c < 864 → mi_ 59 c = mi 59 c) ∧ (∀ c, c < 6 → mi_ 60 c = mi 60 c)) := by
  refine lp_i 864 (fun i hi ih => ?_)
  intro m hag h59
  refine ev_iload dX6_covers_184 rfl ?_
  refine ev_sipush (v := 864) dX6_covers_186 rfl ?_
  refine ev_icmp_ge (tgt := 212) dX6_covers_189 rfl (fun h189 => ?_) (fun h189 => ?_)
  · have hin : 864 ≤ i := (nl_le (x := 864) (a := 864) rfl (b := i) rfl (by decide) (by omega)).mp h189
    refine ev_iconst (v := 0) dX6_covers_212 rfl ?_
    refine ev_istore dX6_covers_213 (by decide) ?_
    exact lp_X6_cov5 hB M0 hk1 hk2 h05 w h n p1 p5 p6 0 (by decide) m hag (fun c hc => h59 c (by omega)) (fun c hc => by omega)
  · have hlt : i < 864 := by have := (not_congr (nl_le (x := 864) (a := 864) rfl (b := i) rfl (by decide) (by omega))).mp h189; omega
    refine ev_aload_n dX6_covers_192 rfl ?_
    refine ev_getq dX6_covers_193 fl_X6_102 rfl (hB.1 29 _ rfl) (hB.2 29 38 _ rfl) ?_
    refine ev_iload dX6_covers_196 rfl ?_
    refine ev_aload_n dX6_covers_198 rfl ?_
    refine ev_getq dX6_covers_199 fl_X6_108 rfl (hB.1 29 _ rfl) (hB.2 29 40 _ rfl) ?_
    refine ev_iload dX6_covers_202 rfl ?_
    refine ev_iald dX6_covers_204 (hB.1 61 _ rfl) (j := i) rfl (by omega) (by decide) ?_
    refine ev_iast dX6_covers_205 (hB.1 59 _ rfl) (j := i) rfl (by omega) (by decide) ?_
    refine ev_iincN dX6_covers_206 rfl (by decide) ?_
    refine ev_goto (tgt := 184) dX6_covers_209 rfl ?_
    refine ih hlt _ (fun a c h1 h2 => (up_ne (Or.inl h1)).trans (hag a c h1 h2)) (fun c hc => ?_)
    by_cases e : c = i
    · subst e; rw [up_at, hag 61 c (by decide) (by decide)]; exact hk1 c hlt
    · exact (up_ne (Or.inr e)).trans (h59 c (by omega))
set_option maxRecDepth 100000 in
set_option maxHeartbeats 4000000 in
theorem lp_X6_cov3b {sh : SH} {mi : MI} {mr : MR} (hB : ba_c sh mr) (ns : Nat) (hns : mi 29 34 = nI ns) (hns6 : ns ≤ 6) (Wd Hd : Nat → Nat) (hD : wh_c ns Wd Hd) (tn : Nat → Int32) (S : Nat → (Nat → Nat → Int32) × Nat) (hC : ∀ s, s < ns → (S s).2 ≤ 5000) (p1 : Int32) (w h n : Nat) (hw : w ≤ 12) (hh : h ≤ 12) (hn : n ≤ 8) (M0 : MI) (hM0 : M0 29 34 = nI ns) (i : Nat) (hins : i < ns) (htp : tn i = p1) (hc : ∀ m, ag_4 M0 m → mm_c m ns Wd Hd tn (up_s (cv_f Wd Hd tn S w h p1 n i).2.2 i (ca_f (Wd i) (Hd i) w h (cv_f Wd Hd tn S w h p1 n i).1 (S i)).2) → (∀ c, (∀ s a b, s < ns → a < Wd s → b < Hd s → c ≠ 144 * s + 12 * b + a) → m 59 c = M0 59 c) → (∀ c, ns ≤ c → m 60 c = M0 60 c) → EV none 2 0 0 mX6_covers 168 [some (pv_r 29), some (pv_i p1), some (pv_i (nI w)), some (pv_i (nI h)), some (pv_i (nI n)), some (pv_i (nI (n - (cv_f Wd Hd tn S w h p1 n i).1 + (ca_f (Wd i) (Hd i) w h (cv_f Wd Hd tn S w h p1 n i).1 (S i)).1))), some (pv_i (nI (if (ca_f (Wd i) (Hd i) w h (cv_f Wd Hd tn S w h p1 n i).1 (S i)).1 = 0 then (mk_f Wd Hd tn S w h p1 n (fun i => (ca_f (Wd i) (Hd i) w h (cv_f Wd Hd tn S w h p1 n i).1 (S i)).1) i) else (mk_f Wd Hd tn S w h p1 n (fun i => (ca_f (Wd i) (Hd i) w h (cv_f Wd Hd tn S w h p1 n i).1 (S i)).1) i) + 2 ^ i))), some (pv_i (nI i))] [] sh m mr (fun v_ sh_ mi_ mr_ => sh_ = sh ∧ mr_ = mr ∧ ag_5 mi mi_ ∧ ((0 < (cv_f Wd Hd tn S w h p1 n ns).1 ∧ v_ = some (pv_i (-4)) ∧ (∀ c, c < 864 → mi_ 59 c = mi 59 c) ∧ (∀ c, c < 6 → mi_ 60 c = mi 60 c)) ∨ ((cv_f Wd Hd tn S w h p1 n ns).1 = 0 ∧ v_ = some (pv_i (nI (cv_f Wd Hd tn S w h p1 n ns).2.1)) ∧ mm_c mi_ ns Wd Hd tn (cv_f Wd Hd tn S w h p1 n ns).2.2 ∧ (∀ c, (∀ s a b, s < ns → a < Wd s → b < Hd s → c ≠ 144 * s + 12 * b + a) → mi_ 59 c = mi 59 c) ∧ ∀ c, ns ≤ c → mi_ 60 c = mi 60 c)))) : ∀ j, j ≤ (cv_f Wd Hd tn S w h p1 n i).1 → ∀ m s1, ag_4 M0 m → mm_c m ns Wd Hd tn (up_s (cv_f Wd Hd tn S w h p1 n i).2.2 i s1) → (∀ c, (∀ s a b, s < ns → a < Wd s → b < Hd s → c ≠ 144 * s + 12 * b + a) → m 59 c = M0 59 c) → (∀ c, ns ≤ c → m 60 c = M0 60 c) → (ca_f (Wd i) (Hd i) w h (cv_f Wd Hd tn S w h p1 n i).1 (S i)) = (j + (ca_f (Wd i) (Hd i) w h ((cv_f Wd Hd tn S w h p1 n i).1 - j) s1).1, (ca_f (Wd i) (Hd i) w h ((cv_f Wd Hd tn S w h p1 n i).1 - j) s1).2) → s1.2 ≤ 5000 + j → EV none 2 0 0 mX6_covers 123 [some (pv_r 29), some (pv_i p1), some (pv_i (nI w)), some (pv_i (nI h)), some (pv_i (nI n)), some (pv_i (nI (n - (cv_f Wd Hd tn S w h p1 n i).1 + j))), some (pv_i (nI (if j = 0 then (mk_f Wd Hd tn S w h p1 n (fun i => (ca_f (Wd i) (Hd i) w h (cv_f Wd Hd tn S w h p1 n i).1 (S i)).1) i) else (mk_f Wd Hd tn S w h p1 n (fun i => (ca_f (Wd i) (Hd i) w h (cv_f Wd Hd tn S w h p1 n i).1 (S i)).1) i) + 2 ^ i))), some (pv_i (nI i))] [] sh m mr (fun v_ sh_ mi_ mr_ => sh_ = sh ∧ mr_ = mr ∧ ag_5 mi mi_ ∧ ((0 < (cv_f Wd Hd tn S w h p1 n ns).1 ∧ v_ = some (pv_i (-4)) ∧ (∀ c, c < 864 → mi_ 59 c = mi 59 c) ∧ (∀ c, c < 6 → mi_ 60 c = mi 60 c)) ∨ ((cv_f Wd Hd tn S w h p1 n ns).1 = 0 ∧ v_ = some (pv_i (nI (cv_f Wd Hd tn S w h p1 n ns).2.1)) ∧ mm_c mi_ ns Wd Hd tn (cv_f Wd Hd tn S w h p1 n ns).2.2 ∧ (∀ c, (∀ s a b, s < ns → a < Wd s → b < Hd s → c ≠ 144 * s + 12 * b + a) → mi_ 59 c = mi 59 c) ∧ ∀ c, ns ≤ c → mi_ 60 c = mi 60 c))) := by
  have hcvb := cv_b (Wd := Wd) (Hd := Hd) (tn := tn) (S := S) (w := w) (h := h) (t := p1) (n := n) i
  refine lp_i (cv_f Wd Hd tn S w h p1 n i).1 (fun j hj ih => ?_)
  intro m s1 hag hm ho1 ho2 hca hCb
  have hmi := hm i hins
  rw [ups_e] at hmi
  refine ev_iload dX6_covers_123 rfl ?_
  refine ev_iload dX6_covers_125 rfl ?_
  refine ev_icmp_ge (tgt := 168) dX6_covers_127 rfl (fun h127 => ?_) (fun h127 => ?_)
  · have hin : j = (cv_f Wd Hd tn S w h p1 n i).1 := by have := (nl_le (x := nI n) rfl (b := n - (cv_f Wd Hd tn S w h p1 n i).1 + j) rfl (by omega) (by omega)).mp h127; omega
    have hf : (ca_f (Wd i) (Hd i) w h (cv_f Wd Hd tn S w h p1 n i).1 (S i)) = (j, s1) := by rw [hca, hin, Nat.sub_self]; rfl
    have q := hc m hag (by rw [hf]; exact hm) ho1 ho2
    rw [hf] at q
    exact q
  · have hlt : j < (cv_f Wd Hd tn S w h p1 n i).1 := by have := (not_congr (nl_le (x := nI n) rfl (b := n - (cv_f Wd Hd tn S w h p1 n i).1 + j) rfl (by omega) (by omega))).mp h127; omega
    refine ev_aload_n dX6_covers_130 rfl ?_
    refine ev_getq dX6_covers_131 fl_X6_99 rfl (hB.1 29 _ rfl) (hB.2 29 37 _ rfl) ?_
    refine ev_iload dX6_covers_134 rfl ?_
    refine ev_iald dX6_covers_136 (hB.1 58 _ rfl) (j := i) rfl (by omega) (by decide) ?_
    refine ev_iload_n dX6_covers_137 rfl ?_
    refine ev_icmp_ne (tgt := 168) dX6_covers_138 rfl (fun h138 => ?_) (fun h138 => ?_)
    · exact absurd (hmi.2.2.1.trans htp) h138
    · refine ev_aload_n dX6_covers_141 rfl ?_
      refine ev_iload dX6_covers_142 rfl ?_
      refine ev_iload_n dX6_covers_144 rfl ?_
      refine ev_iload_n dX6_covers_145 rfl ?_
      refine ev_callv (av := [pv_i (nI i), pv_i (nI w), pv_i (nI h)]) dX6_covers_146 cv_X6_205 (hB.1 29 _ rfl) rfl rfl (Nat.le_of_ble_eq_true rfl) (by decide) (Or.inl (fun v_ s_ m_ r_ h_ => by rw [h_.1])) (Nat.zero_add _) (Nat.zero_add _) (t_X6_cutOf hB i (by omega) (Wd i) (Hd i) hmi.1 hmi.2.1 (hD i hins).1 (hD i hins).2 s1.1 hmi.2.2.2.2 w h hw hh s1.2 hmi.2.2.2.1) ?_
      rintro v_ sh_ m1 mr_ ⟨e2_, e3_, h_⟩
      have e2_ := e2_.symm
      subst e2_
      have e3_ := e3_.symm
      subst e3_
      rcases h_ with ⟨hno, e1_, e4_⟩ | ⟨x, y, t, hcu, e1_, hA, hA2, hA3, hA4⟩
      · subst e1_
        have e4_ := e4_.symm
        subst e4_
        refine ev_iconst (v := (-1)) dX6_covers_149 rfl ?_
        refine ev_icmp_eq_t (tgt := 168) dX6_covers_150 rfl (by decide) ?_
        have hf : (ca_f (Wd i) (Hd i) w h (cv_f Wd Hd tn S w h p1 n i).1 (S i)) = (j, s1) := by rw [hca, ca_n (cs_none hno)]; rfl
        have q := hc m hag (by rw [hf]; exact hm) ho1 ho2
        rw [hf] at q
        exact q
      · subst e1_
        refine ev_iconst (v := (-1)) dX6_covers_149 rfl ?_
        refine ev_icmp_eq_f (tgt := 168) dX6_covers_150 rfl (nI_m1 (by have := cu_lt (hD i hins).1 (hD i hins).2 hcu; omega)) ?_
        refine ev_iincN dX6_covers_153 rfl (by decide) ?_
        refine ev_iload dX6_covers_156 rfl ?_
        refine ev_iconst (v := 1) dX6_covers_158 rfl ?_
        refine ev_iload dX6_covers_159 rfl ?_
        refine ev_ishl dX6_covers_161 ?_
        refine ev_ior dX6_covers_162 ?_
        refine ev_istore dX6_covers_163 (by decide) ?_
        refine ev_goto (tgt := 123) dX6_covers_165 rfl ?_
        have ec := cs_some (C := s1.2) hcu
        have hl := mk_lt (Wd := Wd) (Hd := Hd) (tn := tn) (S := S) (w := w) (h := h) (t := p1) (n := n) (ca := (fun i => (ca_f (Wd i) (Hd i) w h (cv_f Wd Hd tn S w h p1 n i).1 (S i)).1)) i
        have ho := or_n i (by omega) _ hl
        have hb6 := p2_le i (by omega)
        rw [show (nI (if j = 0 then (mk_f Wd Hd tn S w h p1 n (fun i => (ca_f (Wd i) (Hd i) w h (cv_f Wd Hd tn S w h p1 n i).1 (S i)).1) i) else (mk_f Wd Hd tn S w h p1 n (fun i => (ca_f (Wd i) (Hd i) w h (cv_f Wd Hd tn S w h p1 n i).1 (S i)).1) i) + 2 ^ i)) ||| ((1 : Int32) <<< (nI i &&& 31)) = (nI (if (j + 1) = 0 then (mk_f Wd Hd tn S w h p1 n (fun i => (ca_f (Wd i) (Hd i) w h (cv_f Wd Hd tn S w h p1 n i).1 (S i)).1) i) else (mk_f Wd Hd tn S w h p1 n (fun i => (ca_f (Wd i) (Hd i) w h (cv_f Wd Hd tn S w h p1 n i).1 (S i)).1) i) + 2 ^ i)) by
          rw [if_neg (Nat.succ_ne_zero j)]
          by_cases e : j = 0
          · rw [if_pos e, or_k i (by omega) _ (by omega), ho.1]
          · rw [if_neg e, or_k i (by omega) _ ho.2.2.1, ho.2.1]]
        refine ih hlt m1 (cu_f s1.1 w h x y t (nI (2 + s1.2)), s1.2 + 1) (fun a c h1 h2 => (hA a c h1 (by omega)).trans (hag a c h1 h2)) (fun s hs => ?_) (fun c hc2 => (hA4 c (fun a b ha hb => hc2 i a b hins ha hb)).trans (ho1 c hc2)) (fun c hc2 => (hA 60 c (by decide) (by omega)).trans (ho2 c hc2)) ?_ (by simp only; omega)
        · by_cases e : s = i
          · subst e
            rw [ups_e]
            exact ⟨(hA 56 s (by decide) (by omega)).trans hmi.1, (hA 57 s (by decide) (by omega)).trans hmi.2.1, (hA 58 s (by decide) (by omega)).trans hmi.2.2.1, hA2, hA3⟩
          · rw [ups_n e]
            have hq := hm s hs
            rw [ups_n e] at hq
            exact ⟨(hA 56 s (by decide) (by omega)).trans hq.1, (hA 57 s (by decide) (by omega)).trans hq.2.1, (hA 58 s (by decide) (by omega)).trans hq.2.2.1, (hA 60 s (by decide) (by omega)).trans hq.2.2.2.1, fun x2 y2 hx2 hy2 => (hA4 _ (fun a b ha hb he => e (by have h1 := hD s hs; have h2 := hD i hins; omega))).trans (hq.2.2.2.2 x2 y2 hx2 hy2)⟩
        · rw [hca, show (cv_f Wd Hd tn S w h p1 n i).1 - j = ((cv_f Wd Hd tn S w h p1 n i).1 - (j + 1)) + 1 by omega, ca_s ec]
          simp only [Nat.add_assoc, Nat.add_comm 1]
set_option maxRecDepth 100000 in
set_option maxHeartbeats 4000000 in
theorem lp_X6_cov3 {sh : SH} {mi : MI} {mr : MR} (hB : ba_c sh mr) (ns : Nat) (hns : mi 29 34 = nI ns) (hns6 : ns ≤ 6) (Wd Hd : Nat → Nat) (hD : wh_c ns Wd Hd) (tn : Nat → Int32) (S : Nat → (Nat → Nat → Int32) × Nat) (hC : ∀ s, s < ns → (S s).2 ≤ 5000) (p1 : Int32) (w h n : Nat) (hw : w ≤ 12) (hh : h ≤ 12) (hn : n ≤ 8) (M0 : MI) (hM0 : M0 29 34 = nI ns) (hk1 : ∀ c, c < 864 → M0 61 c = mi 59 c) (hk2 : ∀ c, c < 6 → M0 62 c = mi 60 c) (h05 : ag_5 mi M0) (hk3 : ∀ c, M0 59 c = mi 59 c) (hk4 : ∀ c, M0 60 c = mi 60 c) : ∀ i, i ≤ ns → ∀ m, ag_4 M0 m → mm_c m ns Wd Hd tn (cv_f Wd Hd tn S w h p1 n i).2.2 → (∀ c, (∀ s a b, s < ns → a < Wd s → b < Hd s → c ≠ 144 * s + 12 * b + a) → m 59 c = M0 59 c) → (∀ c, ns ≤ c → m 60 c = M0 60 c) → EV none 2 0 0 mX6_covers 114 [some (pv_r 29), some (pv_i p1), some (pv_i (nI w)), some (pv_i (nI h)), some (pv_i (nI n)), some (pv_i (nI (n - (cv_f Wd Hd tn S w h p1 n i).1))), some (pv_i (nI (mk_f Wd Hd tn S w h p1 n (fun i => (ca_f (Wd i) (Hd i) w h (cv_f Wd Hd tn S w h p1 n i).1 (S i)).1) i))), some (pv_i (nI i))] [] sh m mr (fun v_ sh_ mi_ mr_ => sh_ = sh ∧ mr_ = mr ∧ ag_5 mi mi_ ∧ ((0 < (cv_f Wd Hd tn S w h p1 n ns).1 ∧ v_ = some (pv_i (-4)) ∧ (∀ c, c < 864 → mi_ 59 c = mi 59 c) ∧ (∀ c, c < 6 → mi_ 60 c = mi 60 c)) ∨ ((cv_f Wd Hd tn S w h p1 n ns).1 = 0 ∧ v_ = some (pv_i (nI (cv_f Wd Hd tn S w h p1 n ns).2.1)) ∧ mm_c mi_ ns Wd Hd tn (cv_f Wd Hd tn S w h p1 n ns).2.2 ∧ (∀ c, (∀ s a b, s < ns → a < Wd s → b < Hd s → c ≠ 144 * s + 12 * b + a) → mi_ 59 c = mi 59 c) ∧ ∀ c, ns ≤ c → mi_ 60 c = mi 60 c))) := by
  refine lp_i ns (fun i hi ih => ?_)
  intro m hag hm ho1 ho2
  have hns2 : m 29 34 = nI ns := (hag 29 34 (by decide) (by decide)).trans hM0
  have hcvb := cv_b (Wd := Wd) (Hd := Hd) (tn := tn) (S := S) (w := w) (h := h) (t := p1) (n := n) i
  refine ev_iload dX6_covers_114 rfl ?_
  refine ev_aload_n dX6_covers_116 rfl ?_
  refine ev_geti dX6_covers_117 fl_X6_188 rfl (hB.1 29 _ rfl) ?_
  refine ev_icmp_ge (tgt := 174) dX6_covers_120 rfl (fun h120 => ?_) (fun h120 => ?_)
  · have hin : i = ns := by have := (nl_le hns2 (b := i) rfl (by omega) (by omega)).mp h120; omega
    subst hin
    refine ev_iload dX6_covers_174 rfl ?_
    refine ev_iload dX6_covers_176 rfl ?_
    refine ev_icmp_ge (tgt := 245) dX6_covers_178 rfl (fun h178 => ?_) (fun h178 => ?_)
    · refine ev_iload dX6_covers_245 rfl ?_
      refine ev_s1i dX6_covers_247 cs_X6_141 (Nat.le_of_ble_eq_true rfl) (by decide) (t_X6_many _) ?_
      exact ev_ireturn (ty := .int) dX6_covers_250 rfl rfl ⟨rfl, rfl, fun a c h1 h2 h3 h4 => (hag a c h1 h2).trans (h05 a c h1 h2 h3 h4), Or.inr ⟨(by have := (nl_le (x := nI n) rfl (b := n - (cv_f Wd Hd tn S w h p1 n i).1) rfl (by omega) (by omega)).mp h178; omega), by rw [mn_k _ (Nat.lt_of_lt_of_le (mk_lt i) (p2_le i (by omega))), mk_pc i (by omega)], hm, fun c hc => (ho1 c hc).trans (hk3 c), fun c hc => (ho2 c hc).trans (hk4 c)⟩⟩
    · refine ev_iconst (v := 0) dX6_covers_181 rfl ?_
      refine ev_istore dX6_covers_182 (by decide) ?_
      have hpos : 0 < (cv_f Wd Hd tn S w h p1 n i).1 := by have := (not_congr (nl_le (x := nI n) rfl (b := n - (cv_f Wd Hd tn S w h p1 n i).1) rfl (by omega) (by omega))).mp h178; omega
      exact ev_post (fun v_ s_ m_ r_ h_ => ⟨h_.2.1, h_.2.2.1, h_.2.2.2.1, Or.inl ⟨hpos, h_.1, h_.2.2.2.2.1, h_.2.2.2.2.2⟩⟩) (lp_X6_cov4 hB m (fun c hc => (hag 61 c (by decide) (by decide)).trans (hk1 c hc)) (fun c hc => (hag 62 c (by decide) (by decide)).trans (hk2 c hc)) (fun a c h1 h2 h3 h4 => (hag a c h1 h2).trans (h05 a c h1 h2 h3 h4)) w h n p1 _ _ 0 (by decide) m (fun _ _ _ _ => rfl) (fun c hc => by omega))
  · have hlt : i < ns := by have := (not_congr (nl_le hns2 (b := i) rfl (by omega) (by omega))).mp h120; omega
    by_cases htp : tn i = p1
    · have q := lp_X6_cov3b hB ns hns hns6 Wd Hd hD tn S hC p1 w h n hw hh hn M0 hM0 i hlt htp (fun m2 hag2 hm2 ho3 ho4 => ?_) 0 (Nat.zero_le _) m (S i) hag (fun s hs => by
          by_cases e : s = i
          · subst e; rw [ups_e]; have := hm s hs; rw [hcvb.2.2 s (Nat.le_refl s)] at this; exact this
          · rw [ups_n e]; exact hm s hs) ho1 ho2 (by rw [Nat.zero_add, Nat.sub_zero]) (hC i hlt)
      · rw [Nat.add_zero, if_pos rfl] at q
        exact q
      · have hcab := ca_b (W := Wd i) (H := Hd i) (w := w) (h := h) (cv_f Wd Hd tn S w h p1 n i).1 (S i)
        rw [cv_yes htp] at ih
        simp only [mk_f] at ih
        rw [show n - ((cv_f Wd Hd tn S w h p1 n i).1 - (ca_f (Wd i) (Hd i) w h (cv_f Wd Hd tn S w h p1 n i).1 (S i)).1) = n - (cv_f Wd Hd tn S w h p1 n i).1 + (ca_f (Wd i) (Hd i) w h (cv_f Wd Hd tn S w h p1 n i).1 (S i)).1 by omega, show (mk_f Wd Hd tn S w h p1 n (fun i => (ca_f (Wd i) (Hd i) w h (cv_f Wd Hd tn S w h p1 n i).1 (S i)).1) i) + (if tn i = p1 ∧ (ca_f (Wd i) (Hd i) w h (cv_f Wd Hd tn S w h p1 n i).1 (S i)).1 ≠ 0 then 2 ^ i else 0) = (if (ca_f (Wd i) (Hd i) w h (cv_f Wd Hd tn S w h p1 n i).1 (S i)).1 = 0 then (mk_f Wd Hd tn S w h p1 n (fun i => (ca_f (Wd i) (Hd i) w h (cv_f Wd Hd tn S w h p1 n i).1 (S i)).1) i) else (mk_f Wd Hd tn S w h p1 n (fun i => (ca_f (Wd i) (Hd i) w h (cv_f Wd Hd tn S w h p1 n i).1 (S i)).1) i) + 2 ^ i) by
          by_cases e : (ca_f (Wd i) (Hd i) w h (cv_f Wd Hd tn S w h p1 n i).1 (S i)).1 = 0
          · rw [if_neg (fun q => q.2 e), if_pos e, Nat.add_zero]
          · rw [if_pos ⟨htp, e⟩, if_neg e]] at ih
        refine ev_iincN dX6_covers_168 rfl (by decide) ?_
        refine ev_goto (tgt := 114) dX6_covers_171 rfl ?_
        exact ih hlt m2 hag2 hm2 ho3 ho4
    · rw [cv_not htp] at ih
      simp only [mk_f] at ih
      rw [if_neg (fun q => htp q.1), Nat.add_zero] at ih
      refine ev_iload dX6_covers_123 rfl ?_
      refine ev_iload dX6_covers_125 rfl ?_
      refine ev_icmp_ge (tgt := 168) dX6_covers_127 rfl (fun h127 => ?_) (fun h127 => ?_)
      · refine ev_iincN dX6_covers_168 rfl (by decide) ?_
        refine ev_goto (tgt := 114) dX6_covers_171 rfl ?_
        exact ih hlt m hag hm ho1 ho2
      · refine ev_aload_n dX6_covers_130 rfl ?_
        refine ev_getq dX6_covers_131 fl_X6_99 rfl (hB.1 29 _ rfl) (hB.2 29 37 _ rfl) ?_
        refine ev_iload dX6_covers_134 rfl ?_
        refine ev_iald dX6_covers_136 (hB.1 58 _ rfl) (j := i) rfl (by omega) (by decide) ?_
        refine ev_iload_n dX6_covers_137 rfl ?_
        refine ev_icmp_ne_t (tgt := 168) dX6_covers_138 rfl (fun e => htp ((hm i hlt).2.2.1.symm.trans e)) ?_
        refine ev_iincN dX6_covers_168 rfl (by decide) ?_
        refine ev_goto (tgt := 114) dX6_covers_171 rfl ?_
        exact ih hlt m hag hm ho1 ho2
set_option maxRecDepth 100000 in
set_option maxHeartbeats 4000000 in
theorem lp_X6_cov2 {sh : SH} {mi : MI} {mr : MR} (hB : ba_c sh mr) (ns : Nat) (hns : mi 29 34 = nI ns) (hns6 : ns ≤ 6) (Wd Hd : Nat → Nat) (hD : wh_c ns Wd Hd) (tn : Nat → Int32) (S : Nat → (Nat → Nat → Int32) × Nat) (hC : ∀ s, s < ns → (S s).2 ≤ 5000) (p1 : Int32) (w h n : Nat) (hw : w ≤ 12) (hh : h ≤ 12) (hn : n ≤ 8) (hm : mm_c mi ns Wd Hd tn S) : ∀ i, i ≤ 6 → ∀ m, (∀ a c, a ≠ 61 → a ≠ 62 → m a c = mi a c) → (∀ c, c < 864 → m 61 c = mi 59 c) → (∀ c, c < i → m 62 c = mi 60 c) → EV none 2 0 0 mX6_covers 78 [some (pv_r 29), some (pv_i p1), some (pv_i (nI w)), some (pv_i (nI h)), some (pv_i (nI n)), some (pv_i (nI i)), none, none] [] sh m mr (fun v_ sh_ mi_ mr_ => sh_ = sh ∧ mr_ = mr ∧ ag_5 mi mi_ ∧ ((0 < (cv_f Wd Hd tn S w h p1 n ns).1 ∧ v_ = some (pv_i (-4)) ∧ (∀ c, c < 864 → mi_ 59 c = mi 59 c) ∧ (∀ c, c < 6 → mi_ 60 c = mi 60 c)) ∨ ((cv_f Wd Hd tn S w h p1 n ns).1 = 0 ∧ v_ = some (pv_i (nI (cv_f Wd Hd tn S w h p1 n ns).2.1)) ∧ mm_c mi_ ns Wd Hd tn (cv_f Wd Hd tn S w h p1 n ns).2.2 ∧ (∀ c, (∀ s a b, s < ns → a < Wd s → b < Hd s → c ≠ 144 * s + 12 * b + a) → mi_ 59 c = mi 59 c) ∧ ∀ c, ns ≤ c → mi_ 60 c = mi 60 c))) := by
  refine lp_i 6 (fun i hi ih => ?_)
  intro m hag h61 h62
  refine ev_iload dX6_covers_78 rfl ?_
  refine ev_bipush (v := 6) dX6_covers_80 rfl ?_
  refine ev_icmp_ge (tgt := 105) dX6_covers_82 rfl (fun h82 => ?_) (fun h82 => ?_)
  · have hin : 6 ≤ i := (nl_le (x := 6) (a := 6) rfl (b := i) rfl (by decide) (by omega)).mp h82
    refine ev_iconst (v := 0) dX6_covers_105 rfl ?_
    refine ev_istore dX6_covers_106 (by decide) ?_
    refine ev_iconst (v := 0) dX6_covers_108 rfl ?_
    refine ev_istore dX6_covers_109 (by decide) ?_
    refine ev_iconst (v := 0) dX6_covers_111 rfl ?_
    refine ev_istore dX6_covers_112 (by decide) ?_
    have q := lp_X6_cov3 hB ns hns hns6 Wd Hd hD tn S hC p1 w h n hw hh hn m ((hag 29 34 (by decide) (by decide)).trans hns) h61 (fun c hc => h62 c (by omega)) (fun a c h1 h2 h3 h4 => hag a c h3 h4) (fun c => hag 59 c (by decide) (by decide)) (fun c => hag 60 c (by decide) (by decide)) 0 (Nat.zero_le ns) m (fun _ _ _ _ => rfl) (fun s hs => by have hq := hm s hs; exact ⟨(hag 56 s (by decide) (by decide)).trans hq.1, (hag 57 s (by decide) (by decide)).trans hq.2.1, (hag 58 s (by decide) (by decide)).trans hq.2.2.1, (hag 60 s (by decide) (by decide)).trans hq.2.2.2.1, fun x y hx hy => (hag 59 _ (by decide) (by decide)).trans (hq.2.2.2.2 x y hx hy)⟩) (fun _ _ => rfl) (fun _ _ => rfl)
    simp only [cv_f, mk_f, Nat.sub_self] at q
    exact q
  · have hlt : i < 6 := by have := (not_congr (nl_le (x := 6) (a := 6) rfl (b := i) rfl (by decide) (by omega))).mp h82; omega
    refine ev_aload_n dX6_covers_85 rfl ?_
    refine ev_getq dX6_covers_86 fl_X6_111 rfl (hB.1 29 _ rfl) (hB.2 29 41 _ rfl) ?_
    refine ev_iload dX6_covers_89 rfl ?_
    refine ev_aload_n dX6_covers_91 rfl ?_
    refine ev_getq dX6_covers_92 fl_X6_105 rfl (hB.1 29 _ rfl) (hB.2 29 39 _ rfl) ?_
    refine ev_iload dX6_covers_95 rfl ?_
    refine ev_iald dX6_covers_97 (hB.1 60 _ rfl) (j := i) rfl (by omega) (by decide) ?_
    refine ev_iast dX6_covers_98 (hB.1 62 _ rfl) (j := i) rfl (by omega) (by decide) ?_
    refine ev_iincN dX6_covers_99 rfl (by decide) ?_
    refine ev_goto (tgt := 78) dX6_covers_102 rfl ?_
    refine ih hlt _ (fun a c h1 h2 => (up_ne (Or.inl h2)).trans (hag a c h1 h2)) (fun c hc => (up_ne (Or.inl (by decide))).trans (h61 c hc)) (fun c hc => ?_)
    by_cases e : c = i
    · subst e; rw [up_at, hag 60 c (by decide) (by decide)]
    · exact (up_ne (Or.inr e)).trans (h62 c (by omega))
set_option maxRecDepth 100000 in
set_option maxHeartbeats 4000000 in
theorem lp_X6_cov1 {sh : SH} {mi : MI} {mr : MR} (hB : ba_c sh mr) (ns : Nat) (hns : mi 29 34 = nI ns) (hns6 : ns ≤ 6) (Wd Hd : Nat → Nat) (hD : wh_c ns Wd Hd) (tn : Nat → Int32) (S : Nat → (Nat → Nat → Int32) × Nat) (hC : ∀ s, s < ns → (S s).2 ≤ 5000) (p1 : Int32) (w h n : Nat) (hw : w ≤ 12) (hh : h ≤ 12) (hn : n ≤ 8) (hm : mm_c mi ns Wd Hd tn S) : ∀ i, i ≤ 864 → ∀ m, (∀ a c, a ≠ 61 → a ≠ 62 → m a c = mi a c) → (∀ c, c < i → m 61 c = mi 59 c) → EV none 2 0 0 mX6_covers 47 [some (pv_r 29), some (pv_i p1), some (pv_i (nI w)), some (pv_i (nI h)), some (pv_i (nI n)), some (pv_i (nI i)), none, none] [] sh m mr (fun v_ sh_ mi_ mr_ => sh_ = sh ∧ mr_ = mr ∧ ag_5 mi mi_ ∧ ((0 < (cv_f Wd Hd tn S w h p1 n ns).1 ∧ v_ = some (pv_i (-4)) ∧ (∀ c, c < 864 → mi_ 59 c = mi 59 c) ∧ (∀ c, c < 6 → mi_ 60 c = mi 60 c)) ∨ ((cv_f Wd Hd tn S w h p1 n ns).1 = 0 ∧ v_ = some (pv_i (nI (cv_f Wd Hd tn S w h p1 n ns).2.1)) ∧ mm_c mi_ ns Wd Hd tn (cv_f Wd Hd tn S w h p1 n ns).2.2 ∧ (∀ c, (∀ s a b, s < ns → a < Wd s → b < Hd s → c ≠ 144 * s + 12 * b + a) → mi_ 59 c = mi 59 c) ∧ ∀ c, ns ≤ c → mi_ 60 c = mi 60 c))) := by
  refine lp_i 864 (fun i hi ih => ?_)
  intro m hag h61
  refine ev_iload dX6_covers_47 rfl ?_
  refine ev_sipush (v := 864) dX6_covers_49 rfl ?_
  refine ev_icmp_ge (tgt := 75) dX6_covers_52 rfl (fun h52 => ?_) (fun h52 => ?_)
  · have hin : 864 ≤ i := (nl_le (x := 864) (a := 864) rfl (b := i) rfl (by decide) (by omega)).mp h52
    refine ev_iconst (v := 0) dX6_covers_75 rfl ?_
    refine ev_istore dX6_covers_76 (by decide) ?_
    exact lp_X6_cov2 hB ns hns hns6 Wd Hd hD tn S hC p1 w h n hw hh hn hm 0 (by decide) m hag (fun c hc => h61 c (by omega)) (fun c hc => by omega)
  · have hlt : i < 864 := by have := (not_congr (nl_le (x := 864) (a := 864) rfl (b := i) rfl (by decide) (by omega))).mp h52; omega
    refine ev_aload_n dX6_covers_55 rfl ?_
    refine ev_getq dX6_covers_56 fl_X6_108 rfl (hB.1 29 _ rfl) (hB.2 29 40 _ rfl) ?_
    refine ev_iload dX6_covers_59 rfl ?_
    refine ev_aload_n dX6_covers_61 rfl ?_
    refine ev_getq dX6_covers_62 fl_X6_102 rfl (hB.1 29 _ rfl) (hB.2 29 38 _ rfl) ?_
    refine ev_iload dX6_covers_65 rfl ?_
    refine ev_iald dX6_covers_67 (hB.1 59 _ rfl) (j := i) rfl (by omega) (by decide) ?_
    refine ev_iast dX6_covers_68 (hB.1 61 _ rfl) (j := i) rfl (by omega) (by decide) ?_
    refine ev_iincN dX6_covers_69 rfl (by decide) ?_
    refine ev_goto (tgt := 47) dX6_covers_72 rfl ?_
    refine ih hlt _ (fun a c h1 h2 => (up_ne (Or.inl h1)).trans (hag a c h1 h2)) (fun c hc => ?_)
    by_cases e : c = i
    · subst e; rw [up_at, hag 59 c (by decide) (by decide)]
    · exact (up_ne (Or.inr e)).trans (h61 c (by omega))
set_option maxRecDepth 100000 in
set_option maxHeartbeats 4000000 in
theorem t_X6_covers_o {sh : SH} {mi : MI} {mr : MR} (hB : ba_c sh mr) (p1 p2 p3 p4 : Int32) (hv : ¬ ((0 ≤ p1 ∧ p1 ≤ 9) ∧ ((1 ≤ p2 ∧ p2 ≤ 12) ∧ 1 ≤ p3 ∧ p3 ≤ 12) ∧ 1 ≤ p4 ∧ p4 ≤ 8)) : EV none 2 0 0 mX6_covers 0 (en_l mX6_covers [pv_r 29, pv_i p1, pv_i p2, pv_i p3, pv_i p4]) [] sh mi mr (ok_r sh mr (-3) mi) := by
  show EV none 2 0 0 mX6_covers 0 [some (pv_r 29), some (pv_i p1), some (pv_i p2), some (pv_i p3), some (pv_i p4), none, none, none] [] sh mi mr _
  refine ev_iload_n dX6_covers_0 rfl ?_
  refine ev_iconst (v := 0) dX6_covers_1 rfl ?_
  refine ev_bipush (v := 9) dX6_covers_2 rfl ?_
  refine ev_s3i dX6_covers_4 cs_X6_129 (Nat.le_of_ble_eq_true rfl) (by decide) (t_X6_in _ _ _) ?_
  refine ev_ifb_eq (tgt := 41) dX6_covers_7 rfl (fun h7 => ?_) (fun h7 => ?_)
  · refine ev_bipush (v := (-3)) dX6_covers_41 rfl ?_
    exact ev_ireturn (ty := .int) dX6_covers_43 rfl rfl ⟨rfl, rfl, rfl, rfl⟩
  · refine ev_iload_n dX6_covers_10 rfl ?_
    refine ev_iconst (v := 1) dX6_covers_11 rfl ?_
    refine ev_bipush (v := 12) dX6_covers_12 rfl ?_
    refine ev_s3i dX6_covers_14 cs_X6_129 (Nat.le_of_ble_eq_true rfl) (by decide) (t_X6_in _ _ _) ?_
    refine ev_ifb_eq (tgt := 41) dX6_covers_17 rfl (fun h17 => ?_) (fun h17 => ?_)
    · refine ev_bipush (v := (-3)) dX6_covers_41 rfl ?_
      exact ev_ireturn (ty := .int) dX6_covers_43 rfl rfl ⟨rfl, rfl, rfl, rfl⟩
    · refine ev_iload_n dX6_covers_20 rfl ?_
      refine ev_iconst (v := 1) dX6_covers_21 rfl ?_
      refine ev_bipush (v := 12) dX6_covers_22 rfl ?_
      refine ev_s3i dX6_covers_24 cs_X6_129 (Nat.le_of_ble_eq_true rfl) (by decide) (t_X6_in _ _ _) ?_
      refine ev_ifb_eq (tgt := 41) dX6_covers_27 rfl (fun h27 => ?_) (fun h27 => ?_)
      · refine ev_bipush (v := (-3)) dX6_covers_41 rfl ?_
        exact ev_ireturn (ty := .int) dX6_covers_43 rfl rfl ⟨rfl, rfl, rfl, rfl⟩
      · refine ev_iload dX6_covers_30 rfl ?_
        refine ev_iconst (v := 1) dX6_covers_32 rfl ?_
        refine ev_bipush (v := 8) dX6_covers_33 rfl ?_
        refine ev_s3i dX6_covers_35 cs_X6_129 (Nat.le_of_ble_eq_true rfl) (by decide) (t_X6_in _ _ _) ?_
        refine ev_ifb_ne (tgt := 44) dX6_covers_38 rfl (fun h38 => ?_) (fun h38 => ?_)
        · exact absurd ⟨h7, ⟨h17, h27⟩, h38⟩ hv
        · refine ev_bipush (v := (-3)) dX6_covers_41 rfl ?_
          exact ev_ireturn (ty := .int) dX6_covers_43 rfl rfl ⟨rfl, rfl, rfl, rfl⟩
set_option maxRecDepth 100000 in
set_option maxHeartbeats 4000000 in
theorem t_X6_covers_k {sh : SH} {mi : MI} {mr : MR} (hB : ba_c sh mr) (ns : Nat) (hns : mi 29 34 = nI ns) (hns6 : ns ≤ 6) (Wd Hd : Nat → Nat) (hD : wh_c ns Wd Hd) (tn : Nat → Int32) (S : Nat → (Nat → Nat → Int32) × Nat) (hC : ∀ s, s < ns → (S s).2 ≤ 5000) (p1 : Int32) (w h n : Nat) (hw : w ≤ 12) (hh : h ≤ 12) (hn : n ≤ 8) (hm : mm_c mi ns Wd Hd tn S) (hp1 : 0 ≤ p1 ∧ p1 ≤ 9) (hw1 : 1 ≤ w) (hh1 : 1 ≤ h) (hn1 : 1 ≤ n) : EV none 2 0 0 mX6_covers 0 (en_l mX6_covers [pv_r 29, pv_i p1, pv_i (nI w), pv_i (nI h), pv_i (nI n)]) [] sh mi mr (fun v_ sh_ mi_ mr_ => sh_ = sh ∧ mr_ = mr ∧ ag_5 mi mi_ ∧ ((0 < (cv_f Wd Hd tn S w h p1 n ns).1 ∧ v_ = some (pv_i (-4)) ∧ (∀ c, c < 864 → mi_ 59 c = mi 59 c) ∧ (∀ c, c < 6 → mi_ 60 c = mi 60 c)) ∨ ((cv_f Wd Hd tn S w h p1 n ns).1 = 0 ∧ v_ = some (pv_i (nI (cv_f Wd Hd tn S w h p1 n ns).2.1)) ∧ mm_c mi_ ns Wd Hd tn (cv_f Wd Hd tn S w h p1 n ns).2.2 ∧ (∀ c, (∀ s a b, s < ns → a < Wd s → b < Hd s → c ≠ 144 * s + 12 * b + a) → mi_ 59 c = mi 59 c) ∧ ∀ c, ns ≤ c → mi_ 60 c = mi 60 c))) := by
  show EV none 2 0 0 mX6_covers 0 [some (pv_r 29), some (pv_i p1), some (pv_i (nI w)), some (pv_i (nI h)), some (pv_i (nI n)), none, none, none] [] sh mi mr _
  refine ev_iload_n dX6_covers_0 rfl ?_
  refine ev_iconst (v := 0) dX6_covers_1 rfl ?_
  refine ev_bipush (v := 9) dX6_covers_2 rfl ?_
  refine ev_s3i dX6_covers_4 cs_X6_129 (Nat.le_of_ble_eq_true rfl) (by decide) (t_X6_in _ _ _) ?_
  refine ev_if_eq_f (tgt := 41) dX6_covers_7 rfl (by rw [bi_1 hp1]; decide) ?_
  refine ev_iload_n dX6_covers_10 rfl ?_
  refine ev_iconst (v := 1) dX6_covers_11 rfl ?_
  refine ev_bipush (v := 12) dX6_covers_12 rfl ?_
  refine ev_s3i dX6_covers_14 cs_X6_129 (Nat.le_of_ble_eq_true rfl) (by decide) (t_X6_in _ _ _) ?_
  refine ev_if_eq_f (tgt := 41) dX6_covers_17 rfl (by rw [bi_1 (show (1 : Int32) ≤ nI w ∧ nI w ≤ 12 from i_lh (lo := 1) (hi := 12) hw1 hw (by decide))]; decide) ?_
  refine ev_iload_n dX6_covers_20 rfl ?_
  refine ev_iconst (v := 1) dX6_covers_21 rfl ?_
  refine ev_bipush (v := 12) dX6_covers_22 rfl ?_
  refine ev_s3i dX6_covers_24 cs_X6_129 (Nat.le_of_ble_eq_true rfl) (by decide) (t_X6_in _ _ _) ?_
  refine ev_if_eq_f (tgt := 41) dX6_covers_27 rfl (by rw [bi_1 (show (1 : Int32) ≤ nI h ∧ nI h ≤ 12 from i_lh (lo := 1) (hi := 12) hh1 hh (by decide))]; decide) ?_
  refine ev_iload dX6_covers_30 rfl ?_
  refine ev_iconst (v := 1) dX6_covers_32 rfl ?_
  refine ev_bipush (v := 8) dX6_covers_33 rfl ?_
  refine ev_s3i dX6_covers_35 cs_X6_129 (Nat.le_of_ble_eq_true rfl) (by decide) (t_X6_in _ _ _) ?_
  refine ev_if_ne_t (tgt := 44) dX6_covers_38 rfl (by rw [bi_1 (show (1 : Int32) ≤ nI n ∧ nI n ≤ 8 from i_lh (lo := 1) (hi := 8) hn1 hn (by decide))]; decide) ?_
  refine ev_iconst (v := 0) dX6_covers_44 rfl ?_
  refine ev_istore dX6_covers_45 (by decide) ?_
  exact lp_X6_cov1 hB ns hns hns6 Wd Hd hD tn S hC p1 w h n hw hh hn hm 0 (by decide) mi (fun _ _ _ _ => rfl) (fun c hc => by omega)
