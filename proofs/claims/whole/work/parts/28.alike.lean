/-- one more cover of a skin (its grid, how many covers were cut of it); at most n more -/
noncomputable def cs_f (W H w h : Nat) (s : (Nat → Nat → Int32) × Nat) : Option ((Nat → Nat → Int32) × Nat) := @dite _ (∃ p : Nat × Nat × Bool, cu_g W H s.1 w h p.1 p.2.1 p.2.2) (Classical.propDecidable _) (fun hc => some (cu_f s.1 w h (Classical.choose hc).1 (Classical.choose hc).2.1 (Classical.choose hc).2.2 (nI (2 + s.2)), s.2 + 1)) (fun _ => none)
theorem cs_some {W H w h x y C : Nat} {g : Nat → Nat → Int32} {t : Bool} (hc : cu_g W H g w h x y t) : cs_f W H w h (g, C) = some (cu_f g w h x y t (nI (2 + C)), C + 1) := by
  have hx : ∃ p : Nat × Nat × Bool, cu_g W H (g, C).1 w h p.1 p.2.1 p.2.2 := ⟨(x, y, t), hc⟩
  unfold cs_f
  rw [dif_pos hx]
  obtain ⟨e1, e2, e3⟩ := cu_one (Classical.choose_spec hx) hc
  rw [e1, e2, e3]
theorem cs_none {W H w h C : Nat} {g : Nat → Nat → Int32} (hn : no_g W H g w h) : cs_f W H w h (g, C) = none := by
  unfold cs_f
  rw [dif_neg]
  rintro ⟨p, hp⟩
  exact cu_no hp hn
noncomputable def ca_f (W H w h : Nat) : Nat → ((Nat → Nat → Int32) × Nat) → Nat × ((Nat → Nat → Int32) × Nat)
  | 0, s => (0, s)
  | n + 1, s => match cs_f W H w h s with
    | none => (0, s)
    | some s2 => ((ca_f W H w h n s2).1 + 1, (ca_f W H w h n s2).2)
theorem ca_s {W H w h n : Nat} {s s2 : (Nat → Nat → Int32) × Nat} (e : cs_f W H w h s = some s2) : ca_f W H w h (n + 1) s = ((ca_f W H w h n s2).1 + 1, (ca_f W H w h n s2).2) := by
  simp only [ca_f, e]
theorem ca_n {W H w h n : Nat} {s : (Nat → Nat → Int32) × Nat} (e : cs_f W H w h s = none) : ca_f W H w h n s = (0, s) := by
  cases n with
  | zero => rfl
  | succ n => simp only [ca_f, e]
theorem cs_C {W H w h : Nat} {s s2 : (Nat → Nat → Int32) × Nat} (e : cs_f W H w h s = some s2) : s2.2 = s.2 + 1 := by
  unfold cs_f at e
  by_cases hc : ∃ p : Nat × Nat × Bool, cu_g W H s.1 w h p.1 p.2.1 p.2.2
  · rw [dif_pos hc] at e
    cases e
    rfl
  · rw [dif_neg hc] at e
    cases e
theorem ca_b {W H w h : Nat} : ∀ (n : Nat) (s : (Nat → Nat → Int32) × Nat), (ca_f W H w h n s).1 ≤ n ∧ (ca_f W H w h n s).2.2 = s.2 + (ca_f W H w h n s).1
  | 0, s => ⟨Nat.le_refl _, rfl⟩
  | n + 1, s => by
    cases e : cs_f W H w h s with
    | none => rw [ca_n e]; exact ⟨Nat.zero_le _, rfl⟩
    | some s2 =>
      rw [ca_s e]
      have h1 := ca_b (W := W) (H := H) (w := w) (h := h) n s2
      have h2 := cs_C e
      refine ⟨by omega, ?_⟩
      show (ca_f W H w h n s2).2.2 = s.2 + ((ca_f W H w h n s2).1 + 1)
      omega
/-- what a skin's cells hold -/
def sk_m (m : MI) (q W H : Nat) (s : (Nat → Nat → Int32) × Nat) : Prop := m q 1 = nI W ∧ m q 2 = nI H ∧ m q 4 = nI s.2 ∧ ∀ x y, x < W → y < H → m (q + 1) (y * W + x) = s.1 x y
def ag_s (q : Nat) (mi m : MI) : Prop := ∀ a c, a ≠ q + 1 → ¬ (a = q ∧ (c = 4 ∨ c = 5)) → m a c = mi a c
set_option maxRecDepth 100000 in
set_option maxHeartbeats 4000000 in
theorem lp_X3_cutAlike {sh : SH} {mi : MI} {mr : MR} {q W H : Nat} (hk : sk_c sh mr q (W * H)) (hW12 : W ≤ 12) (hH12 : H ≤ 12) (w h n : Nat) (hw : w ≤ 12) (hh : h ≤ 12) (hn : n ≤ 8) (s0 : (Nat → Nat → Int32) × Nat) (hC : s0.2 ≤ 5000) : ∀ i, i ≤ n → i ≤ n → ∀ m s1, sk_m m q W H s1 → ag_s q mi m → m q 5 = nI s0.2 → ca_f W H w h n s0 = (i + (ca_f W H w h (n - i) s1).1, (ca_f W H w h (n - i) s1).2) → s1.2 ≤ 5000 + i → EV none 3 0 0 mX3_cutAlike 11 [some (pv_r q), some (pv_i (nI w)), some (pv_i (nI h)), some (pv_i (nI n)), some (pv_i (nI i))] [] sh m mr (fun v_ sh_ mi_ mr_ => v_ = some (pv_i (nI (ca_f W H w h n s0).1)) ∧ sh_ = sh ∧ mr_ = mr ∧ ag_s q mi mi_ ∧ mi_ q 5 = nI s0.2 ∧ sk_m mi_ q W H (ca_f W H w h n s0).2) := by
  refine lp_i n (fun i hi ih => ?_)
  intro hi2 m s1 hs hag h5 hca hCb
  refine ev_iload dX3_cutAlike_11 rfl ?_
  refine ev_iload_n dX3_cutAlike_13 rfl ?_
  refine ev_icmp_ge (tgt := 36) dX3_cutAlike_14 rfl (fun h14 => ?_) (fun h14 => ?_)
  · have hin : i = n := by have := (nl_le (x := nI n) rfl (b := i) rfl (by omega) (by omega)).mp h14; omega
    refine ev_iload_n dX3_cutAlike_36 rfl ?_
    exact ev_ireturn (ty := .int) dX3_cutAlike_37 rfl rfl ⟨by rw [hca, hin, Nat.sub_self]; rfl, rfl, rfl, hag, h5, by rw [hca, hin, Nat.sub_self]; exact hs⟩
  · have hlt : i < n := by have := (not_congr (nl_le (x := nI n) rfl (b := i) rfl (by omega) (by omega))).mp h14; omega
    refine ev_aload_n dX3_cutAlike_17 rfl ?_
    refine ev_iload_n dX3_cutAlike_18 rfl ?_
    refine ev_iload_n dX3_cutAlike_19 rfl ?_
    refine ev_callv (av := [pv_i (nI w), pv_i (nI h)]) dX3_cutAlike_20 cv_X3_39 hk.1 rfl rfl (Nat.le_of_ble_eq_true rfl) (by decide) (Or.inl (fun v_ s_ m_ r_ h_ => by rw [h_.1])) (Nat.zero_add _) (Nat.zero_add _) (t_X3_cutCover hk hs.1 hs.2.1 hW12 hH12 s1.1 hs.2.2.2 w h hw hh s1.2 hs.2.2.1) ?_
    rintro v_ sh_ m1 mr_ ⟨e2_, e3_, h_⟩
    have e2_ := e2_.symm
    subst e2_
    have e3_ := e3_.symm
    subst e3_
    rcases h_ with ⟨hno, e1_, e4_⟩ | ⟨x, y, t, hcu, e1_, hA, hA2, hA3⟩
    · subst e1_
      have e4_ := e4_.symm
      subst e4_
      refine ev_iconst (v := (-1)) dX3_cutAlike_23 rfl ?_
      refine ev_icmp_ne_f (tgt := 30) dX3_cutAlike_24 rfl (by decide) ?_
      refine ev_iload dX3_cutAlike_27 rfl ?_
      exact ev_ireturn (ty := .int) dX3_cutAlike_29 rfl rfl ⟨by rw [hca, ca_n (cs_none hno)]; rfl, rfl, rfl, hag, h5, by rw [hca, ca_n (cs_none hno)]; exact hs⟩
    · subst e1_
      refine ev_iconst (v := (-1)) dX3_cutAlike_23 rfl ?_
      refine ev_icmp_ne_t (tgt := 30) dX3_cutAlike_24 rfl (nI_m1 (by have := cu_lt hW12 hH12 hcu; omega)) ?_
      refine ev_iincN dX3_cutAlike_30 rfl (by decide) ?_
      refine ev_goto (tgt := 11) dX3_cutAlike_33 rfl ?_
      have ec := cs_some (C := s1.2) hcu
      refine ih hlt (by omega) m1 (cu_f s1.1 w h x y t (nI (2 + s1.2)), s1.2 + 1) ⟨(hA q 1 (by omega) (by omega)).trans hs.1, (hA q 2 (by omega) (by omega)).trans hs.2.1, hA2, hA3⟩ (fun a c h1 h2 => (hA a c h1 (by omega)).trans (hag a c h1 h2)) ((hA q 5 (by omega) (by omega)).trans h5) ?_ (by simp only; omega)
      rw [hca, show n - i = (n - (i + 1)) + 1 by omega, ca_s ec]
      simp only [Nat.add_assoc, Nat.add_comm 1]
set_option maxRecDepth 100000 in
set_option maxHeartbeats 4000000 in
theorem t_X3_cutAlike {sh : SH} {mi : MI} {mr : MR} {q W H : Nat} (hk : sk_c sh mr q (W * H)) (hW12 : W ≤ 12) (hH12 : H ≤ 12) (w h n : Nat) (hw : w ≤ 12) (hh : h ≤ 12) (hn : n ≤ 8) (s0 : (Nat → Nat → Int32) × Nat) (hC : s0.2 ≤ 5000) (hs : sk_m mi q W H s0) : EV none 3 0 0 mX3_cutAlike 0 (en_l mX3_cutAlike [pv_r q, pv_i (nI w), pv_i (nI h), pv_i (nI n)]) [] sh mi mr (fun v_ sh_ mi_ mr_ => v_ = some (pv_i (nI (ca_f W H w h n s0).1)) ∧ sh_ = sh ∧ mr_ = mr ∧ ag_s q mi mi_ ∧ mi_ q 5 = nI s0.2 ∧ sk_m mi_ q W H (ca_f W H w h n s0).2) := by
  show EV none 3 0 0 mX3_cutAlike 0 [some (pv_r q), some (pv_i (nI w)), some (pv_i (nI h)), some (pv_i (nI n)), none] [] sh mi mr _
  refine ev_aload_n dX3_cutAlike_0 rfl ?_
  refine ev_aload_n dX3_cutAlike_1 rfl ?_
  refine ev_geti dX3_cutAlike_2 fl_X3_9 rfl hk.1 ?_
  refine ev_puti dX3_cutAlike_5 fl_X3_15 rfl rfl hk.1 ?_
  refine ev_iconst (v := 0) dX3_cutAlike_8 rfl ?_
  refine ev_istore dX3_cutAlike_9 (by decide) ?_
  refine lp_X3_cutAlike hk hW12 hH12 w h n hw hh hn s0 hC 0 (Nat.zero_le n) (Nat.zero_le n) _ s0 ⟨(up_ne (Or.inr (by decide))).trans hs.1, (up_ne (Or.inr (by decide))).trans hs.2.1, (up_ne (Or.inr (by decide))).trans hs.2.2.1, fun x y hx hy => (up_ne (Or.inl (by omega))).trans (hs.2.2.2 x y hx hy)⟩ (fun a c h1 h2 => up_ne (by omega)) (by rw [up_at]; exact hs.2.2.1) ?_ (by omega)
  simp
set_option maxRecDepth 100000 in
set_option maxHeartbeats 4000000 in
theorem lp_X3_takeBack {sh : SH} {mi : MI} {mr : MR} {q W H : Nat} (hk : sk_c sh mr q (W * H)) (hW12 : W ≤ 12) (hH12 : H ≤ 12) : ∀ i, i ≤ W * H → ∀ m, ag_1 (q + 1) mi m → (∀ c, i ≤ c → c < W * H → m (q + 1) c = mi (q + 1) c) → (∀ c, c < i → m (q + 1) c = if mi (q + 1) c < 2 + mi q 5 then mi (q + 1) c else 0) → EV none 0 0 0 mX3_takeBackAlike 2 [some (pv_r q), some (pv_i (nI i))] [] sh m mr (fun v_ sh_ mi_ mr_ => v_ = none ∧ sh_ = sh ∧ mr_ = mr ∧ ag_s q mi mi_ ∧ mi_ q 4 = mi q 5 ∧ ∀ c, c < W * H → mi_ (q + 1) c = if mi (q + 1) c < 2 + mi q 5 then mi (q + 1) c else 0) := by
  refine lp_i (W * H) (fun i hi ih => ?_)
  intro m hag hr hz
  refine ev_iload_n dX3_takeBackAlike_2 rfl ?_
  refine ev_aload_n dX3_takeBackAlike_3 rfl ?_
  refine ev_getq dX3_takeBackAlike_4 fl_X3_27 rfl hk.1 hk.2.1 ?_
  refine ev_alen dX3_takeBackAlike_7 hk.2.2 (by decide) ?_
  refine ev_icmp_ge (tgt := 39) dX3_takeBackAlike_8 rfl (fun h8 => ?_) (fun h8 => ?_)
  · have hin : i = W * H := by have := (nl_le (x := nI (W * H)) rfl (b := i) rfl (WH_b hW12 hH12) (by have := WH_b hW12 hH12; omega)).mp h8; omega
    refine ev_aload_n dX3_takeBackAlike_39 rfl ?_
    refine ev_aload_n dX3_takeBackAlike_40 rfl ?_
    refine ev_geti dX3_takeBackAlike_41 fl_X3_15 rfl hk.1 ?_
    refine ev_puti dX3_takeBackAlike_44 fl_X3_9 rfl rfl hk.1 ?_
    exact ev_return dX3_takeBackAlike_47 rfl ⟨rfl, rfl, rfl, fun a c h1 h2 => (up_ne (by omega)).trans (hag a c h1), by rw [up_at]; exact hag q 5 (by omega), fun c h1 => (up_ne (Or.inl (by omega))).trans (hz c (by omega))⟩
  · have hlt : i < W * H := by have := (not_congr (nl_le (x := nI (W * H)) rfl (b := i) rfl (WH_b hW12 hH12) (by have := WH_b hW12 hH12; omega))).mp h8; omega
    refine ev_aload_n dX3_takeBackAlike_11 rfl ?_
    refine ev_getq dX3_takeBackAlike_12 fl_X3_27 rfl hk.1 hk.2.1 ?_
    refine ev_iload_n dX3_takeBackAlike_15 rfl ?_
    refine ev_iald dX3_takeBackAlike_16 hk.2.2 (j := i) rfl hlt (WH_b hW12 hH12) ?_
    refine ev_iconst (v := 2) dX3_takeBackAlike_17 rfl ?_
    refine ev_aload_n dX3_takeBackAlike_18 rfl ?_
    refine ev_geti dX3_takeBackAlike_19 fl_X3_15 rfl hk.1 ?_
    refine ev_iadd dX3_takeBackAlike_22 ?_
    refine ev_icmp_lt (tgt := 33) dX3_takeBackAlike_23 rfl (fun h23 => ?_) (fun h23 => ?_)
    · refine ev_iincN dX3_takeBackAlike_33 rfl (by decide) ?_
      refine ev_goto (tgt := 2) dX3_takeBackAlike_36 rfl ?_
      refine ih hlt m hag (fun c h1 h2 => hr c (by omega) h2) (fun c h1 => ?_)
      by_cases e : c = i
      · subst e; rw [hr c (Nat.le_refl c) hlt, if_pos (by rw [← hr c (Nat.le_refl c) hlt, ← hag q 5 (by omega)]; exact h23)]
      · exact hz c (by omega)
    · refine ev_aload_n dX3_takeBackAlike_26 rfl ?_
      refine ev_getq dX3_takeBackAlike_27 fl_X3_27 rfl hk.1 hk.2.1 ?_
      refine ev_iload_n dX3_takeBackAlike_30 rfl ?_
      refine ev_iconst (v := 0) dX3_takeBackAlike_31 rfl ?_
      refine ev_iast dX3_takeBackAlike_32 hk.2.2 (j := i) rfl hlt (WH_b hW12 hH12) ?_
      refine ev_iincN dX3_takeBackAlike_33 rfl (by decide) ?_
      refine ev_goto (tgt := 2) dX3_takeBackAlike_36 rfl ?_
      refine ih hlt _ (fun a c h1 => (up_ne (Or.inl h1)).trans (hag a c h1)) (fun c h1 h2 => ?_) (fun c h1 => ?_)
      · exact (up_ne (Or.inr (by omega))).trans (hr c (by omega) h2)
      · by_cases e : c = i
        · subst e; rw [up_at, if_neg (by rw [← hr c (Nat.le_refl c) hlt, ← hag q 5 (by omega)]; exact h23)]
        · exact (up_ne (Or.inr e)).trans (hz c (by omega))
set_option maxRecDepth 100000 in
set_option maxHeartbeats 4000000 in
theorem t_X3_takeBackAlike {sh : SH} {mi : MI} {mr : MR} {q W H : Nat} (hk : sk_c sh mr q (W * H)) (hW12 : W ≤ 12) (hH12 : H ≤ 12) : EV none 0 0 0 mX3_takeBackAlike 0 (en_l mX3_takeBackAlike [pv_r q]) [] sh mi mr (fun v_ sh_ mi_ mr_ => v_ = none ∧ sh_ = sh ∧ mr_ = mr ∧ ag_s q mi mi_ ∧ mi_ q 4 = mi q 5 ∧ ∀ c, c < W * H → mi_ (q + 1) c = if mi (q + 1) c < 2 + mi q 5 then mi (q + 1) c else 0) := by
  show EV none 0 0 0 mX3_takeBackAlike 0 [some (pv_r q), none] [] sh mi mr _
  refine ev_iconst (v := 0) dX3_takeBackAlike_0 rfl ?_
  refine ev_istore_n dX3_takeBackAlike_1 (by decide) ?_
  exact lp_X3_takeBack hk hW12 hH12 0 (Nat.zero_le _) mi (fun _ _ _ => rfl) (fun _ _ _ => rfl) (fun c h => by omega)
/-- what was cut since C0 bears numbers from C0 on, and was free -/
def tb_g (W H C0 : Nat) (g g2 : Nat → Nat → Int32) : Prop := ∀ x y, x < W → y < H → (g2 x y = g x y ∧ ∃ v, v < 2 + C0 ∧ g x y = nI v) ∨ (g x y = 0 ∧ ∃ v, 2 + C0 ≤ v ∧ v ≤ 9000 ∧ g2 x y = nI v)
theorem tb_cs {W H C0 w h : Nat} {g : Nat → Nat → Int32} {s s2 : (Nat → Nat → Int32) × Nat} (h1 : tb_g W H C0 g s.1) (hC : C0 ≤ s.2) (hb : s.2 ≤ 8000) (e : cs_f W H w h s = some s2) : tb_g W H C0 g s2.1 := by
  unfold cs_f at e
  by_cases hc : ∃ p : Nat × Nat × Bool, cu_g W H s.1 w h p.1 p.2.1 p.2.2
  · rw [dif_pos hc] at e
    cases e
    have hp := Classical.choose_spec hc
    generalize Classical.choose hc = p at hp
    obtain ⟨px, py, t⟩ := p
    have key : ∀ (x y ww hh : Nat), ft_g W H s.1 x y ww hh → tb_g W H C0 g (fi_g s.1 x y ww hh (nI (2 + s.2))) := by
      intro x y ww hh hf a b ha hb2
      unfold fi_g
      by_cases hin : x ≤ a ∧ a < x + ww ∧ y ≤ b ∧ b < y + hh
      · rw [if_pos hin]
        have h0 := hf.2.2 a b hin.1 hin.2.1 hin.2.2.1 hin.2.2.2
        have hg0 : g a b = 0 := by
          rcases h1 a b ha hb2 with ⟨e1, -⟩ | ⟨e1, -⟩
          · rw [← e1]; exact h0
          · exact e1
        exact Or.inr ⟨hg0, 2 + s.2, by omega, by omega, rfl⟩
      · rw [if_neg hin]
        exact h1 a b ha hb2
    show tb_g W H C0 g (cu_f s.1 w h px py t (nI (2 + s.2)))
    unfold cu_f
    cases t with
    | false => exact key px py w h (hp.2.2.2.1 rfl)
    | true => exact key px py h w (hp.2.2.2.2 rfl).2
  · rw [dif_neg hc] at e
    cases e
theorem tb_ca {W H C0 w h : Nat} {g : Nat → Nat → Int32} : ∀ (n : Nat) (s : (Nat → Nat → Int32) × Nat), tb_g W H C0 g s.1 → C0 ≤ s.2 → s.2 + n ≤ 8000 → tb_g W H C0 g (ca_f W H w h n s).2.1
  | 0, s, h1, _, _ => h1
  | n + 1, s, h1, h2, h3 => by
    cases e : cs_f W H w h s with
    | none => rw [ca_n e]; exact h1
    | some s2 =>
      rw [ca_s e]
      have h4 := cs_C e
      exact tb_ca n s2 (tb_cs h1 h2 (by omega) e) (by omega) (by omega)
theorem tb_back {W H C0 : Nat} {g g2 : Nat → Nat → Int32} (hC : C0 ≤ 8000) (h : tb_g W H C0 g g2) {x y : Nat} (hx : x < W) (hy : y < H) : (if g2 x y < 2 + nI C0 then g2 x y else 0) = g x y := by
  have e2 : (2 : Int32) + nI C0 = nI (2 + C0) := by rw [show (2 : Int32) = nI 2 from rfl, nI_add]
  rw [e2]
  rcases h x y hx hy with ⟨e1, v, hv, e3⟩ | ⟨e1, v, hv, hv2, e3⟩
  · rw [e1, if_pos (by rw [e3]; exact nI_lt hv (by omega))]
  · rw [e3, if_neg (nI_nlt hv (by omega)), e1]
/-- what a skin's grid holds: no number beyond its covers' -/
def gi_g (W H C : Nat) (g : Nat → Nat → Int32) : Prop := ∀ x y, x < W → y < H → ∃ v, v < 2 + C ∧ g x y = nI v
theorem tb_0 {W H C : Nat} {g : Nat → Nat → Int32} (h : gi_g W H C g) : tb_g W H C g g := fun x y hx hy => Or.inl ⟨rfl, h x y hx hy⟩
theorem gi_cs {W H w h : Nat} {s s2 : (Nat → Nat → Int32) × Nat} (h1 : gi_g W H s.2 s.1) (e : cs_f W H w h s = some s2) : gi_g W H s2.2 s2.1 := by
  have hC := cs_C e
  unfold cs_f at e
  by_cases hc : ∃ p : Nat × Nat × Bool, cu_g W H s.1 w h p.1 p.2.1 p.2.2
  · rw [dif_pos hc] at e
    cases e
    generalize Classical.choose hc = p
    intro a b ha hb
    obtain ⟨v, hv, hg⟩ := h1 a b ha hb
    show ∃ v, v < 2 + (s.2 + 1) ∧ cu_f s.1 w h p.1 p.2.1 p.2.2 (nI (2 + s.2)) a b = nI v
    unfold cu_f fi_g
    split
    · dsimp only
      split
      · exact ⟨2 + s.2, by omega, rfl⟩
      · exact ⟨v, by omega, hg⟩
    · dsimp only
      split
      · exact ⟨2 + s.2, by omega, rfl⟩
      · exact ⟨v, by omega, hg⟩
  · rw [dif_neg hc] at e
    cases e
theorem gi_ca {W H w h : Nat} : ∀ (n : Nat) (s : (Nat → Nat → Int32) × Nat), gi_g W H s.2 s.1 → gi_g W H (ca_f W H w h n s).2.2 (ca_f W H w h n s).2.1
  | 0, _, h1 => h1
  | n + 1, s, h1 => by
    cases e : cs_f W H w h s with
    | none => rw [ca_n e]; exact h1
    | some s2 => rw [ca_s e]; exact gi_ca n s2 (gi_cs h1 e)
