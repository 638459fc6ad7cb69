/-- where the skins stand; what their cells hold -/
def ks_c (sh : SH) (mr : MR) (ns : Nat) (ks Wd Hd : Nat → Nat) : Prop := (∀ s, s < ns → mr 21 s = some (ks s) ∧ sk_c sh mr (ks s) (Wd s * Hd s)) ∧ (∀ s, s < ns → Wd s ≤ 12 ∧ Hd s ≤ 12 ∧ 67 ≤ ks s) ∧ ∀ s s2, s < s2 → s2 < ns → ks s + 2 ≤ ks s2
def ms_c (m : MI) (ns : Nat) (ks Wd Hd : Nat → Nat) (S : Nat → (Nat → Nat → Int32) × Nat) : Prop := ∀ s, s < ns → sk_m m (ks s) (Wd s) (Hd s) (S s)
/-- nothing differs but in the skins' grids and numbers -/
def ag_k (ns : Nat) (ks : Nat → Nat) (mi m : MI) : Prop := ∀ a c, (∀ s, s < ns → a ≠ ks s + 1 ∧ ¬ (a = ks s ∧ (c = 4 ∨ c = 5))) → m a c = mi a c
def mx_s {α : Type} (f g : Nat → α) (i : Nat) : Nat → α := fun s => if s < i then f s else g s
theorem mx_lt {α : Type} {f g : Nat → α} {i s : Nat} (h : s < i) : mx_s f g i s = f s := if_pos h
theorem mx_ge {α : Type} {f g : Nat → α} {i s : Nat} (h : i ≤ s) : mx_s f g i s = g s := if_neg (by omega)
def up_s {α : Type} (f : Nat → α) (i : Nat) (v : α) : Nat → α := fun s => if s = i then v else f s
/-- covers alike: of skins 0 .. i - 1: how many are wanting then, of how many skins they are, what the skins are -/
noncomputable def cv_f (Wd Hd : Nat → Nat) (tn : Nat → Int32) (S : Nat → (Nat → Nat → Int32) × Nat) (w h : Nat) (t : Int32) (n : Nat) : Nat → Nat × Nat × (Nat → (Nat → Nat → Int32) × Nat)
  | 0 => (n, 0, S)
  | i + 1 => if tn i = t then ((cv_f Wd Hd tn S w h t n i).1 - (ca_f (Wd i) (Hd i) w h (cv_f Wd Hd tn S w h t n i).1 (S i)).1, (cv_f Wd Hd tn S w h t n i).2.1 + (if (ca_f (Wd i) (Hd i) w h (cv_f Wd Hd tn S w h t n i).1 (S i)).1 = 0 then 0 else 1), up_s (cv_f Wd Hd tn S w h t n i).2.2 i (ca_f (Wd i) (Hd i) w h (cv_f Wd Hd tn S w h t n i).1 (S i)).2) else cv_f Wd Hd tn S w h t n i
theorem cv_b {Wd Hd : Nat → Nat} {tn : Nat → Int32} {S : Nat → (Nat → Nat → Int32) × Nat} {w h : Nat} {t : Int32} {n : Nat} : ∀ i, (cv_f Wd Hd tn S w h t n i).1 ≤ n ∧ (cv_f Wd Hd tn S w h t n i).2.1 ≤ i ∧ ∀ s, i ≤ s → (cv_f Wd Hd tn S w h t n i).2.2 s = S s
  | 0 => ⟨Nat.le_refl _, Nat.le_refl _, fun _ _ => rfl⟩
  | i + 1 => by
    obtain ⟨h1, h2, h3⟩ := cv_b (Wd := Wd) (Hd := Hd) (tn := tn) (S := S) (w := w) (h := h) (t := t) (n := n) i
    unfold cv_f
    split
    · refine ⟨by simp only; omega, ?_, fun s hs => ?_⟩
      · simp only
        split <;> omega
      · simp only [up_s]
        rw [if_neg (by omega)]
        exact h3 s (by omega)
    · exact ⟨h1, by omega, fun s hs => h3 s (by omega)⟩
theorem ag_in {ns s a c : Nat} {ks Wd Hd : Nat → Nat} {sh : SH} {mr : MR} (hK : ks_c sh mr ns ks Wd Hd) (hs : s < ns) (hc : ¬ (c = 4 ∨ c = 5)) (ha : a = ks s) : ∀ s2, s2 < ns → a ≠ ks s2 + 1 ∧ ¬ (a = ks s2 ∧ (c = 4 ∨ c = 5)) := fun s2 h2 => by
  subst ha
  refine ⟨fun e => ?_, fun q => hc q.2⟩
  rcases Nat.lt_trichotomy s s2 with q | q | q
  · have := hK.2.2 s s2 q h2
    omega
  · subst q; omega
  · have := hK.2.2 s2 s q hs
    omega
theorem ag_lo {ns a c : Nat} {ks Wd Hd : Nat → Nat} {sh : SH} {mr : MR} (hK : ks_c sh mr ns ks Wd Hd) (ha : a < 67) : ∀ s2, s2 < ns → a ≠ ks s2 + 1 ∧ ¬ (a = ks s2 ∧ (c = 4 ∨ c = 5)) := fun s2 h2 => by
  have := (hK.2.1 s2 h2).2.2
  exact ⟨by omega, by omega⟩
/-- one skin's cells change: the others' stay -/
theorem ms_one {ns i : Nat} {ks Wd Hd : Nat → Nat} {sh : SH} {mr : MR} {m m2 : MI} {S : Nat → (Nat → Nat → Int32) × Nat} {s1 : (Nat → Nat → Int32) × Nat} (hK : ks_c sh mr ns ks Wd Hd) (hi : i < ns) (hm : ms_c m ns ks Wd Hd S) (ha : ag_s (ks i) m m2) (h1 : sk_m m2 (ks i) (Wd i) (Hd i) s1) : ms_c m2 ns ks Wd Hd (up_s S i s1) := fun s hs => by
  unfold up_s
  by_cases e : s = i
  · subst e; rw [if_pos rfl]; exact h1
  · rw [if_neg e]
    obtain ⟨a1, a2, a3, a4⟩ := hm s hs
    have hd : ks s + 2 ≤ ks i ∨ ks i + 2 ≤ ks s := by
      rcases Nat.lt_or_gt_of_ne e with q | q
      · exact Or.inl (hK.2.2 s i q hi)
      · exact Or.inr (hK.2.2 i s q hs)
    exact ⟨(ha _ _ (by omega) (by omega)).trans a1, (ha _ _ (by omega) (by omega)).trans a2, (ha _ _ (by omega) (by omega)).trans a3, fun x y hx hy => (ha _ _ (by omega) (by omega)).trans (a4 x y hx hy)⟩
theorem ag_one {ns i : Nat} {ks : Nat → Nat} {mi m m2 : MI} (hi : i < ns) (h : ag_k ns ks mi m) (ha : ag_s (ks i) m m2) : ag_k ns ks mi m2 := fun a c hac => (ha a c (hac i hi).1 (hac i hi).2).trans (h a c hac)
set_option maxRecDepth 100000 in
set_option maxHeartbeats 4000000 in
theorem lp_X5_takeBack {sh : SH} {mi : MI} {mr : MR} (hB : ba_c sh mr) (ns : Nat) (hns : mi 0 6 = nI ns) (hns6 : ns ≤ 6) (ks Wd Hd : Nat → Nat) (hK : ks_c sh mr ns ks Wd Hd) (tn : Nat → Int32) (htn : ∀ s, s < ns → mi (ks s) 0 = tn s) (S : Nat → (Nat → Nat → Int32) × Nat) (hC : ∀ s, s < ns → (S s).2 ≤ 5000) (hgi : ∀ s, s < ns → gi_g (Wd s) (Hd s) (S s).2 (S s).1) (p1 : Int32) (S2 : Nat → (Nat → Nat → Int32) × Nat) (hT : ∀ s, s < ns → tn s = p1 → tb_g (Wd s) (Hd s) (S s).2 (S s).1 (S2 s).1) (hO : ∀ s, s < ns → ¬ tn s = p1 → S2 s = S s) : ∀ i, i ≤ ns → ∀ m, ag_k ns ks mi m → ms_c m ns ks Wd Hd (mx_s S S2 i) → (∀ s, s < ns → i ≤ s → tn s = p1 → m (ks s) 5 = nI (S s).2) → EV none 2 0 0 mX5_takeBackAlike 2 [some (pv_r 0), some (pv_i p1), some (pv_i (nI i)), none] [] sh m mr (fun v_ sh_ mi_ mr_ => v_ = none ∧ sh_ = sh ∧ mr_ = mr ∧ ag_k ns ks mi mi_ ∧ ms_c mi_ ns ks Wd Hd S) := by
  have hks := hK.1
  refine lp_i ns (fun i hi ih => ?_)
  intro m hag hm h5
  have hns2 : m 0 6 = nI ns := (hag 0 6 (ag_lo hK (by decide))).trans hns
  refine ev_iload_n dX5_takeBackAlike_2 rfl ?_
  refine ev_aload_n dX5_takeBackAlike_3 rfl ?_
  refine ev_geti dX5_takeBackAlike_4 fl_X5_46 rfl (hB.1 0 _ rfl) ?_
  refine ev_icmp_ge (tgt := 38) dX5_takeBackAlike_7 rfl (fun h7 => ?_) (fun h7 => ?_)
  · have hin : i = ns := by have := (nl_le hns2 (b := i) rfl (by omega) (by omega)).mp h7; omega
    subst hin
    exact ev_return dX5_takeBackAlike_38 rfl ⟨rfl, rfl, rfl, hag, fun s hs => by have := hm s hs; rw [mx_lt hs] at this; exact this⟩
  · have hlt : i < ns := by have := (not_congr (nl_le hns2 (b := i) rfl (by omega) (by omega))).mp h7; omega
    have ht1 : m (ks i) 0 = tn i := (hag _ _ (ag_in hK hlt (by decide) rfl)).trans (htn i hlt)
    refine ev_aload_n dX5_takeBackAlike_10 rfl ?_
    refine ev_iload_n dX5_takeBackAlike_11 rfl ?_
    refine ev_v1q dX5_takeBackAlike_12 cv_X5_198 (hB.1 0 _ rfl) (Nat.le_of_ble_eq_true rfl) (by decide) (t_X5_skinAt_k (mi := m) hB ns hns2 hns6 i hlt (hks i hlt).1 (hks i hlt).2) ?_
    refine ev_astore_n dX5_takeBackAlike_15 (by decide) ?_
    refine ev_aload_n dX5_takeBackAlike_16 rfl ?_
    refine ev_ifnull_s (tgt := 32) dX5_takeBackAlike_17 rfl ?_
    refine ev_aload_n dX5_takeBackAlike_20 rfl ?_
    refine ev_geti dX5_takeBackAlike_21 fl_X5_214 rfl (hks i hlt).2.1 ?_
    refine ev_iload_n dX5_takeBackAlike_24 rfl ?_
    refine ev_icmp_ne (tgt := 32) dX5_takeBackAlike_25 rfl (fun h25 => ?_) (fun h25 => ?_)
    · refine ev_iincN dX5_takeBackAlike_32 rfl (by decide) ?_
      refine ev_goto (tgt := 2) dX5_takeBackAlike_35 rfl ?_
      have htp : ¬ tn i = p1 := fun e => h25 (ht1.trans e)
      refine ev_fg 3 (ih hlt m hag (fun s hs => ?_) (fun s hs h1 h2 => h5 s hs (by omega) h2))
      have := hm s hs
      by_cases e : s = i
      · subst e; rw [mx_ge (Nat.le_refl s), hO s hs htp] at this; rw [mx_lt (Nat.lt_succ_self s)]; exact this
      · by_cases e2 : s < i
        · rw [mx_lt e2] at this; rw [mx_lt (by omega)]; exact this
        · rw [mx_ge (by omega)] at this; rw [mx_ge (by omega)]; exact this
    · refine ev_aload_n dX5_takeBackAlike_28 rfl ?_
      refine ev_callv (av := []) dX5_takeBackAlike_29 cv_X5_247 (hks i hlt).2.1 rfl rfl (Nat.le_of_ble_eq_true rfl) (by decide) (Or.inl (fun v_ s_ m_ r_ h_ => by rw [h_.2.1])) (Nat.zero_add _) (Nat.zero_add _) (t_X3_takeBackAlike (hks i hlt).2 (hK.2.1 i hlt).1 (hK.2.1 i hlt).2.1) ?_
      rintro v_ sh_ m1 mr_ ⟨e1_, e2_, e3_, hA, hA2, hA3⟩
      subst e1_
      have e2_ := e2_.symm
      subst e2_
      have e3_ := e3_.symm
      subst e3_
      refine ev_iincN dX5_takeBackAlike_32 rfl (by decide) ?_
      refine ev_goto (tgt := 2) dX5_takeBackAlike_35 rfl ?_
      have htp : tn i = p1 := ht1.symm.trans h25
      have h5i := h5 i hlt (Nat.le_refl i) htp
      have hmi := hm i hlt
      rw [mx_ge (Nat.le_refl i)] at hmi
      refine ev_fg 3 (ih hlt m1 (ag_one hlt hag hA) (fun s hs => ?_) (fun s hs h1 h2 => ?_))
      · have := ms_one (s1 := S i) hK hlt hm hA ⟨(hA _ _ (by omega) (by omega)).trans hmi.1, (hA _ _ (by omega) (by omega)).trans hmi.2.1, by rw [hA2, h5i], fun x y hx hy => by rw [hA3 _ (ix_lt hx hy), hmi.2.2.2 x y hx hy, h5i]; exact tb_back (by have := hC i hlt; omega) (hT i hlt htp) hx hy⟩ s hs
        simp only [up_s] at this
        by_cases e : s = i
        · subst e; rw [if_pos rfl] at this; rw [mx_lt (Nat.lt_succ_self s)]; exact this
        · rw [if_neg e] at this
          by_cases e2 : s < i
          · rw [mx_lt e2] at this; rw [mx_lt (by omega)]; exact this
          · rw [mx_ge (by omega)] at this; rw [mx_ge (by omega)]; exact this
      · have hd := hK.2.2 i s (by omega) hs
        exact (hA _ _ (by omega) (by omega)).trans (h5 s hs (by omega) h2)
set_option maxRecDepth 100000 in
set_option maxHeartbeats 4000000 in
theorem t_X5_takeBackAlike {sh : SH} {mi : MI} {mr : MR} (hB : ba_c sh mr) (ns : Nat) (hns : mi 0 6 = nI ns) (hns6 : ns ≤ 6) (ks Wd Hd : Nat → Nat) (hK : ks_c sh mr ns ks Wd Hd) (tn : Nat → Int32) (htn : ∀ s, s < ns → mi (ks s) 0 = tn s) (S : Nat → (Nat → Nat → Int32) × Nat) (hC : ∀ s, s < ns → (S s).2 ≤ 5000) (hgi : ∀ s, s < ns → gi_g (Wd s) (Hd s) (S s).2 (S s).1) (p1 : Int32) (S2 : Nat → (Nat → Nat → Int32) × Nat) (hT : ∀ s, s < ns → tn s = p1 → tb_g (Wd s) (Hd s) (S s).2 (S s).1 (S2 s).1) (hO : ∀ s, s < ns → ¬ tn s = p1 → S2 s = S s) (hm : ms_c mi ns ks Wd Hd S2) (h5 : ∀ s, s < ns → tn s = p1 → mi (ks s) 5 = nI (S s).2) : EV none 2 0 0 mX5_takeBackAlike 0 (en_l mX5_takeBackAlike [pv_r 0, pv_i p1]) [] sh mi mr (fun v_ sh_ mi_ mr_ => v_ = none ∧ sh_ = sh ∧ mr_ = mr ∧ ag_k ns ks mi mi_ ∧ ms_c mi_ ns ks Wd Hd S) := by
  show EV none 2 0 0 mX5_takeBackAlike 0 [some (pv_r 0), some (pv_i p1), none, none] [] sh mi mr _
  refine ev_iconst (v := 0) dX5_takeBackAlike_0 rfl ?_
  refine ev_istore_n dX5_takeBackAlike_1 (by decide) ?_
  exact lp_X5_takeBack hB ns hns hns6 ks Wd Hd hK tn htn S hC hgi p1 S2 hT hO 0 (Nat.zero_le ns) mi (fun _ _ _ => rfl) (fun s hs => by rw [mx_ge (Nat.zero_le s)]; exact hm s hs) (fun s hs _ h => h5 s hs h)
theorem cv_yes {Wd Hd : Nat → Nat} {tn : Nat → Int32} {S : Nat → (Nat → Nat → Int32) × Nat} {w h : Nat} {t : Int32} {n i : Nat} (e : tn i = t) : cv_f Wd Hd tn S w h t n (i + 1) = ((cv_f Wd Hd tn S w h t n i).1 - (ca_f (Wd i) (Hd i) w h (cv_f Wd Hd tn S w h t n i).1 (S i)).1, (cv_f Wd Hd tn S w h t n i).2.1 + (if (ca_f (Wd i) (Hd i) w h (cv_f Wd Hd tn S w h t n i).1 (S i)).1 = 0 then 0 else 1), up_s (cv_f Wd Hd tn S w h t n i).2.2 i (ca_f (Wd i) (Hd i) w h (cv_f Wd Hd tn S w h t n i).1 (S i)).2) := by
  rw [cv_f, if_pos e]
theorem cv_not {Wd Hd : Nat → Nat} {tn : Nat → Int32} {S : Nat → (Nat → Nat → Int32) × Nat} {w h : Nat} {t : Int32} {n i : Nat} (e : ¬ tn i = t) : cv_f Wd Hd tn S w h t n (i + 1) = cv_f Wd Hd tn S w h t n i := by
  rw [cv_f, if_neg e]
/-- what each skin is behind covers alike -/
theorem cv_st {Wd Hd : Nat → Nat} {tn : Nat → Int32} {S : Nat → (Nat → Nat → Int32) × Nat} {w h : Nat} {t : Int32} {n : Nat} : ∀ i s, (cv_f Wd Hd tn S w h t n i).2.2 s = S s ∨ (tn s = t ∧ ∃ k, k ≤ n ∧ (cv_f Wd Hd tn S w h t n i).2.2 s = (ca_f (Wd s) (Hd s) w h k (S s)).2)
  | 0, s => Or.inl rfl
  | i + 1, s => by
    by_cases e : tn i = t
    · rw [cv_yes e]
      simp only [up_s]
      by_cases e2 : s = i
      · subst e2
        rw [if_pos rfl]
        exact Or.inr ⟨e, _, (cv_b s).1, rfl⟩
      · rw [if_neg e2]
        exact cv_st i s
    · rw [cv_not e]
      exact cv_st i s
theorem cv_tb {ns i : Nat} {Wd Hd : Nat → Nat} {tn : Nat → Int32} {S : Nat → (Nat → Nat → Int32) × Nat} {w h : Nat} {t : Int32} {n : Nat} (hgi : ∀ s, s < ns → gi_g (Wd s) (Hd s) (S s).2 (S s).1) (hC : ∀ s, s < ns → (S s).2 ≤ 5000) (hn : n ≤ 8) : ∀ s, s < ns → tn s = t → tb_g (Wd s) (Hd s) (S s).2 (S s).1 ((cv_f Wd Hd tn S w h t n i).2.2 s).1 := fun s hs ht => by
  rcases cv_st (Wd := Wd) (Hd := Hd) (tn := tn) (S := S) (w := w) (h := h) (t := t) (n := n) i s with e | ⟨_, k, hk, e⟩
  · rw [e]; exact tb_0 (hgi s hs)
  · rw [e]; exact tb_ca k (S s) (tb_0 (hgi s hs)) (Nat.le_refl _) (by have := hC s hs; omega)
theorem cv_ot {ns i : Nat} {Wd Hd : Nat → Nat} {tn : Nat → Int32} {S : Nat → (Nat → Nat → Int32) × Nat} {w h : Nat} {t : Int32} {n : Nat} : ∀ s, s < ns → ¬ tn s = t → (cv_f Wd Hd tn S w h t n i).2.2 s = S s := fun s hs ht => by
  rcases cv_st (Wd := Wd) (Hd := Hd) (tn := tn) (S := S) (w := w) (h := h) (t := t) (n := n) i s with e | ⟨e2, _⟩
  · exact e
  · exact absurd e2 ht
set_option maxRecDepth 100000 in
set_option maxHeartbeats 4000000 in
theorem lp_X5_covers {sh : SH} {mi : MI} {mr : MR} (hB : ba_c sh mr) (ns : Nat) (hns : mi 0 6 = nI ns) (hns6 : ns ≤ 6) (ks Wd Hd : Nat → Nat) (hK : ks_c sh mr ns ks Wd Hd) (tn : Nat → Int32) (htn : ∀ s, s < ns → mi (ks s) 0 = tn s) (S : Nat → (Nat → Nat → Int32) × Nat) (hC : ∀ s, s < ns → (S s).2 ≤ 5000) (hgi : ∀ s, s < ns → gi_g (Wd s) (Hd s) (S s).2 (S s).1) (p1 : Int32) (w h n : Nat) (hw : w ≤ 12) (hh : h ≤ 12) (hn : n ≤ 8) : ∀ i, i ≤ ns → ∀ m, ag_k ns ks mi m → ms_c m ns ks Wd Hd (cv_f Wd Hd tn S w h p1 n i).2.2 → (∀ s, s < i → tn s = p1 → m (ks s) 5 = nI (S s).2) → EV none 4 0 0 mX5_covers 42 [some (pv_r 0), some (pv_i p1), some (pv_i (nI w)), some (pv_i (nI h)), some (pv_i (nI n)), some (pv_i (nI (cv_f Wd Hd tn S w h p1 n i).1)), some (pv_i (nI (cv_f Wd Hd tn S w h p1 n i).2.1)), some (pv_i (nI i)), none, none] [] sh m mr (fun v_ sh_ mi_ mr_ => sh_ = sh ∧ mr_ = mr ∧ ag_k ns ks mi mi_ ∧ ((0 < (cv_f Wd Hd tn S w h p1 n ns).1 ∧ v_ = some (pv_i (-4)) ∧ ms_c mi_ ns ks Wd Hd S) ∨ ((cv_f Wd Hd tn S w h p1 n ns).1 = 0 ∧ v_ = some (pv_i (nI (cv_f Wd Hd tn S w h p1 n ns).2.1)) ∧ ms_c mi_ ns ks Wd Hd (cv_f Wd Hd tn S w h p1 n ns).2.2))) := by
  have hks := hK.1
  refine lp_i ns (fun i hi ih => ?_)
  intro m hag hm h5
  have hns2 : m 0 6 = nI ns := (hag 0 6 (ag_lo hK (by decide))).trans hns
  refine ev_iload dX5_covers_42 rfl ?_
  refine ev_aload_n dX5_covers_44 rfl ?_
  refine ev_geti dX5_covers_45 fl_X5_46 rfl (hB.1 0 _ rfl) ?_
  refine ev_icmp_ge (tgt := 112) dX5_covers_48 rfl (fun h48 => ?_) (fun h48 => ?_)
  · have hin : i = ns := by have := (nl_le hns2 (b := i) rfl (by omega) (by omega)).mp h48; omega
    subst hin
    refine ev_iload dX5_covers_112 rfl ?_
    refine ev_if_le (tgt := 125) dX5_covers_114 rfl (fun h114 => ?_) (fun h114 => ?_)
    · refine ev_iload dX5_covers_125 rfl ?_
      exact ev_ireturn (ty := .int) dX5_covers_127 rfl rfl ⟨rfl, rfl, hag, Or.inr ⟨by have := (nl_le (x := nI (cv_f Wd Hd tn S w h p1 n i).1) rfl (y := 0) (b := 0) rfl (by have := (cv_b (Wd := Wd) (Hd := Hd) (tn := tn) (S := S) (w := w) (h := h) (t := p1) (n := n) i).1; omega) (by decide)).mp h114; omega, rfl, hm⟩⟩
    · refine ev_aload_n dX5_covers_117 rfl ?_
      refine ev_iload_n dX5_covers_118 rfl ?_
      refine ev_callv (av := [pv_i p1]) dX5_covers_119 cv_X5_221 (hB.1 0 _ rfl) rfl rfl (Nat.le_of_ble_eq_true rfl) (by decide) (Or.inl (fun v_ s_ m_ r_ h_ => by rw [h_.2.1])) (Nat.zero_add _) (Nat.zero_add _) (t_X5_takeBackAlike (mi := m) hB i hns2 hns6 ks Wd Hd hK tn (fun s hs => (hag _ _ (ag_in hK hs (by decide) rfl)).trans (htn s hs)) S hC hgi p1 _ (cv_tb hgi hC hn) cv_ot hm (fun s hs ht => h5 s hs ht)) ?_
      rintro v_ sh_ m2 mr_ ⟨e1_, e2_, e3_, hB1, hB2⟩
      subst e1_
      have e2_ := e2_.symm
      subst e2_
      have e3_ := e3_.symm
      subst e3_
      refine ev_bipush (v := (-4)) dX5_covers_122 rfl ?_
      exact ev_ireturn (ty := .int) dX5_covers_124 rfl rfl ⟨rfl, rfl, fun a c h => (hB1 a c h).trans (hag a c h), Or.inl ⟨Nat.pos_of_ne_zero (fun e => h114 (by rw [e]; decide)), rfl, hB2⟩⟩
  · have hlt : i < ns := by have := (not_congr (nl_le hns2 (b := i) rfl (by omega) (by omega))).mp h48; omega
    have ht1 : m (ks i) 0 = tn i := (hag _ _ (ag_in hK hlt (by decide) rfl)).trans (htn i hlt)
    refine ev_aload_n dX5_covers_51 rfl ?_
    refine ev_iload dX5_covers_52 rfl ?_
    refine ev_v1q dX5_covers_54 cv_X5_198 (hB.1 0 _ rfl) (Nat.le_of_ble_eq_true rfl) (by decide) (t_X5_skinAt_k (mi := m) hB ns hns2 hns6 i hlt (hks i hlt).1 (hks i hlt).2) ?_
    refine ev_astore dX5_covers_57 (by decide) ?_
    refine ev_aload dX5_covers_59 rfl ?_
    refine ev_ifnull_s (tgt := 106) dX5_covers_61 rfl ?_
    refine ev_aload dX5_covers_64 rfl ?_
    refine ev_geti dX5_covers_66 fl_X5_214 rfl (hks i hlt).2.1 ?_
    refine ev_iload_n dX5_covers_69 rfl ?_
    refine ev_icmp_ne (tgt := 106) dX5_covers_70 rfl (fun h70 => ?_) (fun h70 => ?_)
    · refine ev_iincN dX5_covers_106 rfl (by decide) ?_
      refine ev_goto (tgt := 42) dX5_covers_109 rfl ?_
      have htp : ¬ tn i = p1 := fun e => h70 (ht1.trans e)
      rw [cv_not htp] at ih
      exact ev_fg 8 (ih hlt m hag hm (fun s hs h2 => by
        by_cases e : s = i
        · subst e; exact absurd h2 htp
        · exact h5 s (by omega) h2))
    · refine ev_aload dX5_covers_73 rfl ?_
      refine ev_iload_n dX5_covers_75 rfl ?_
      refine ev_iload_n dX5_covers_76 rfl ?_
      refine ev_iload dX5_covers_77 rfl ?_
      refine ev_callv (av := [pv_i (nI w), pv_i (nI h), pv_i (nI (cv_f Wd Hd tn S w h p1 n i).1)]) dX5_covers_79 cv_X5_217 (hks i hlt).2.1 rfl rfl (Nat.le_of_ble_eq_true rfl) (by decide) (Or.inl (fun v_ s_ m_ r_ h_ => by rw [h_.2.1])) (Nat.zero_add _) (Nat.zero_add _) (t_X3_cutAlike (hks i hlt).2 (hK.2.1 i hlt).1 (hK.2.1 i hlt).2.1 w h (cv_f Wd Hd tn S w h p1 n i).1 hw hh (by have := (cv_b (Wd := Wd) (Hd := Hd) (tn := tn) (S := S) (w := w) (h := h) (t := p1) (n := n) i).1; omega) (S i) (hC i hlt) (by have := hm i hlt; rw [(cv_b i).2.2 i (Nat.le_refl i)] at this; exact this)) ?_
      rintro v_ sh_ m1 mr_ ⟨e1_, e2_, e3_, hA, hA5, hA3⟩
      subst e1_
      have e2_ := e2_.symm
      subst e2_
      have e3_ := e3_.symm
      subst e3_
      have hcab := ca_b (W := Wd i) (H := Hd i) (w := w) (h := h) (cv_f Wd Hd tn S w h p1 n i).1 (S i)
      have hcvb := cv_b (Wd := Wd) (Hd := Hd) (tn := tn) (S := S) (w := w) (h := h) (t := p1) (n := n) i
      refine ev_istore dX5_covers_82 (by decide) ?_
      refine ev_iload dX5_covers_84 rfl ?_
      refine ev_iload dX5_covers_86 rfl ?_
      refine ev_isub dX5_covers_88 ?_
      refine ev_istore dX5_covers_89 (by decide) ?_
      refine ev_iload dX5_covers_91 rfl ?_
      refine ev_iload dX5_covers_93 rfl ?_
      refine ev_if_le (tgt := 102) dX5_covers_95 rfl (fun h95 => ?_) (fun h95 => ?_)
      · refine ev_iconst (v := 0) dX5_covers_102 rfl ?_
        refine ev_iadd dX5_covers_103 ?_
        refine ev_istore dX5_covers_104 (by decide) ?_
        refine ev_iincN dX5_covers_106 rfl (by decide) ?_
        refine ev_goto (tgt := 42) dX5_covers_109 rfl ?_
        have htp : tn i = p1 := ht1.symm.trans h70
        rw [cv_yes htp] at ih
        have hz : (ca_f (Wd i) (Hd i) w h (cv_f Wd Hd tn S w h p1 n i).1 (S i)).1 = 0 := by have := (nl_le (x := nI (ca_f (Wd i) (Hd i) w h (cv_f Wd Hd tn S w h p1 n i).1 (S i)).1) rfl (y := 0) (b := 0) rfl (by omega) (by decide)).mp h95; omega
        rw [if_pos hz] at ih
        rw [pk_sub hcab.1, Int32.add_zero]
        refine ev_fg 8 (ev_fg 9 (ih hlt m1 (ag_one hlt hag hA) (ms_one hK hlt hm hA hA3) (fun s hs h2 => ?_)))
        by_cases e : s = i
        · subst e; exact hA5
        · have hd := hK.2.2 s i (by omega) hlt
          exact (hA _ _ (by omega) (by omega)).trans (h5 s (by omega) h2)
      · refine ev_iconst (v := 1) dX5_covers_98 rfl ?_
        refine ev_goto (tgt := 103) dX5_covers_99 rfl ?_
        refine ev_iadd dX5_covers_103 ?_
        refine ev_istore dX5_covers_104 (by decide) ?_
        refine ev_iincN dX5_covers_106 rfl (by decide) ?_
        refine ev_goto (tgt := 42) dX5_covers_109 rfl ?_
        have htp : tn i = p1 := ht1.symm.trans h70
        rw [cv_yes htp] at ih
        have hz : ¬ (ca_f (Wd i) (Hd i) w h (cv_f Wd Hd tn S w h p1 n i).1 (S i)).1 = 0 := fun e => h95 (by rw [e]; decide)
        rw [if_neg hz] at ih
        rw [pk_sub hcab.1, nI_1]
        refine ev_fg 8 (ev_fg 9 (ih hlt m1 (ag_one hlt hag hA) (ms_one hK hlt hm hA hA3) (fun s hs h2 => ?_)))
        by_cases e : s = i
        · subst e; exact hA5
        · have hd := hK.2.2 s i (by omega) hlt
          exact (hA _ _ (by omega) (by omega)).trans (h5 s (by omega) h2)
set_option maxRecDepth 100000 in
set_option maxHeartbeats 4000000 in
theorem t_X5_covers_o {sh : SH} {mi : MI} {mr : MR} (hB : ba_c sh mr) (p1 p2 p3 p4 : Int32) (hv : ¬ ((0 ≤ p1 ∧ p1 ≤ 9) ∧ ((1 ≤ p2 ∧ p2 ≤ 12) ∧ 1 ≤ p3 ∧ p3 ≤ 12) ∧ 1 ≤ p4 ∧ p4 ≤ 8)) : EV none 4 0 0 mX5_covers 0 (en_l mX5_covers [pv_r 0, pv_i p1, pv_i p2, pv_i p3, pv_i p4]) [] sh mi mr (ok_r sh mr (-3) mi) := by
  show EV none 4 0 0 mX5_covers 0 [some (pv_r 0), some (pv_i p1), some (pv_i p2), some (pv_i p3), some (pv_i p4), none, none, none, none, none] [] sh mi mr _
  refine ev_iload_n dX5_covers_0 rfl ?_
  refine ev_iconst (v := 0) dX5_covers_1 rfl ?_
  refine ev_bipush (v := 9) dX5_covers_2 rfl ?_
  refine ev_s3i dX5_covers_4 cs_X5_57 (Nat.le_of_ble_eq_true rfl) (by decide) (t_X5_within _ _ _) ?_
  refine ev_ifb_eq (tgt := 29) dX5_covers_7 rfl (fun h7 => ?_) (fun h7 => ?_)
  · refine ev_bipush (v := (-3)) dX5_covers_29 rfl ?_
    exact ev_ireturn (ty := .int) dX5_covers_31 rfl rfl ⟨rfl, rfl, rfl, rfl⟩
  · refine ev_iload_n dX5_covers_10 rfl ?_
    refine ev_iload_n dX5_covers_11 rfl ?_
    refine ev_s2i dX5_covers_12 cs_X5_192 (Nat.le_of_ble_eq_true rfl) (by decide) (t_X5_isSize _ _) ?_
    refine ev_ifb_eq (tgt := 29) dX5_covers_15 rfl (fun h15 => ?_) (fun h15 => ?_)
    · refine ev_bipush (v := (-3)) dX5_covers_29 rfl ?_
      exact ev_ireturn (ty := .int) dX5_covers_31 rfl rfl ⟨rfl, rfl, rfl, rfl⟩
    · refine ev_iload dX5_covers_18 rfl ?_
      refine ev_iconst (v := 1) dX5_covers_20 rfl ?_
      refine ev_bipush (v := 8) dX5_covers_21 rfl ?_
      refine ev_s3i dX5_covers_23 cs_X5_57 (Nat.le_of_ble_eq_true rfl) (by decide) (t_X5_within _ _ _) ?_
      refine ev_ifb_ne (tgt := 32) dX5_covers_26 rfl (fun h26 => ?_) (fun h26 => ?_)
      · exact absurd ⟨h7, h15, h26⟩ hv
      · refine ev_bipush (v := (-3)) dX5_covers_29 rfl ?_
        exact ev_ireturn (ty := .int) dX5_covers_31 rfl rfl ⟨rfl, rfl, rfl, rfl⟩
set_option maxRecDepth 100000 in
set_option maxHeartbeats 4000000 in
theorem t_X5_covers_k {sh : SH} {mi : MI} {mr : MR} (hB : ba_c sh mr) (ns : Nat) (hns : mi 0 6 = nI ns) (hns6 : ns ≤ 6) (ks Wd Hd : Nat → Nat) (hK : ks_c sh mr ns ks Wd Hd) (tn : Nat → Int32) (htn : ∀ s, s < ns → mi (ks s) 0 = tn s) (S : Nat → (Nat → Nat → Int32) × Nat) (hC : ∀ s, s < ns → (S s).2 ≤ 5000) (hgi : ∀ s, s < ns → gi_g (Wd s) (Hd s) (S s).2 (S s).1) (p1 : Int32) (w h n : Nat) (hw : w ≤ 12) (hh : h ≤ 12) (hn : n ≤ 8) (hp1 : 0 ≤ p1 ∧ p1 ≤ 9) (hw1 : 1 ≤ w) (hh1 : 1 ≤ h) (hn1 : 1 ≤ n) (hm : ms_c mi ns ks Wd Hd S) : EV none 4 0 0 mX5_covers 0 (en_l mX5_covers [pv_r 0, pv_i p1, pv_i (nI w), pv_i (nI h), pv_i (nI n)]) [] sh mi mr (fun v_ sh_ mi_ mr_ => sh_ = sh ∧ mr_ = mr ∧ ag_k ns ks mi mi_ ∧ ((0 < (cv_f Wd Hd tn S w h p1 n ns).1 ∧ v_ = some (pv_i (-4)) ∧ ms_c mi_ ns ks Wd Hd S) ∨ ((cv_f Wd Hd tn S w h p1 n ns).1 = 0 ∧ v_ = some (pv_i (nI (cv_f Wd Hd tn S w h p1 n ns).2.1)) ∧ ms_c mi_ ns ks Wd Hd (cv_f Wd Hd tn S w h p1 n ns).2.2))) := by
  show EV none 4 0 0 mX5_covers 0 [some (pv_r 0), some (pv_i p1), some (pv_i (nI w)), some (pv_i (nI h)), some (pv_i (nI n)), none, none, none, none, none] [] sh mi mr _
  refine ev_iload_n dX5_covers_0 rfl ?_
  refine ev_iconst (v := 0) dX5_covers_1 rfl ?_
  refine ev_bipush (v := 9) dX5_covers_2 rfl ?_
  refine ev_s3i dX5_covers_4 cs_X5_57 (Nat.le_of_ble_eq_true rfl) (by decide) (t_X5_within _ _ _) ?_
  refine ev_if_eq_f (tgt := 29) dX5_covers_7 rfl (by rw [bi_1 hp1]; decide) ?_
  refine ev_iload_n dX5_covers_10 rfl ?_
  refine ev_iload_n dX5_covers_11 rfl ?_
  refine ev_s2i dX5_covers_12 cs_X5_192 (Nat.le_of_ble_eq_true rfl) (by decide) (t_X5_isSize _ _) ?_
  refine ev_if_eq_f (tgt := 29) dX5_covers_15 rfl (by rw [bi_1 (show ((1 : Int32) ≤ nI w ∧ nI w ≤ 12) ∧ (1 : Int32) ≤ nI h ∧ nI h ≤ 12 from ⟨i_lh (lo := 1) (hi := 12) hw1 hw (by decide), i_lh (lo := 1) (hi := 12) hh1 hh (by decide)⟩)]; decide) ?_
  refine ev_iload dX5_covers_18 rfl ?_
  refine ev_iconst (v := 1) dX5_covers_20 rfl ?_
  refine ev_bipush (v := 8) dX5_covers_21 rfl ?_
  refine ev_s3i dX5_covers_23 cs_X5_57 (Nat.le_of_ble_eq_true rfl) (by decide) (t_X5_within _ _ _) ?_
  refine ev_if_ne_t (tgt := 32) dX5_covers_26 rfl (by rw [bi_1 (show (1 : Int32) ≤ nI n ∧ nI n ≤ 8 from i_lh (lo := 1) (hi := 8) hn1 hn (by decide))]; decide) ?_
  refine ev_iload dX5_covers_32 rfl ?_
  refine ev_istore dX5_covers_34 (by decide) ?_
  refine ev_iconst (v := 0) dX5_covers_36 rfl ?_
  refine ev_istore dX5_covers_37 (by decide) ?_
  refine ev_iconst (v := 0) dX5_covers_39 rfl ?_
  refine ev_istore dX5_covers_40 (by decide) ?_
  exact lp_X5_covers hB ns hns hns6 ks Wd Hd hK tn htn S hC hgi p1 w h n hw hh hn 0 (Nat.zero_le ns) mi (fun _ _ _ => rfl) hm (fun s hs => by omega)
