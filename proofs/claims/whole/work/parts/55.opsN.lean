theorem mr0_k {k j r : Nat} (h : mr_0 k j = some r) : k ≠ 1 ∧ k ≠ 21 ∧ k < 67 := by
  refine ⟨fun e => ?_, fun e => ?_, ?_⟩
  · subst e
    simp [mr_0] at h
  · subst e
    simp [mr_0] at h
  · unfold mr_0 at h
    split at h <;> first | omega | simp at h
theorem ba_up {sh sh2 : SH} {mr mr2 : MR} (h : ba_c sh mr) (h1 : ∀ (k : Nat) (s : Nat ⊕ (Nat × Nat)), sh[k]? = some s → sh2[k]? = some s) (h2 : ∀ k j, k ≠ 1 → k ≠ 21 → k < 67 → mr2 k j = mr k j) : ba_c sh2 mr2 :=
  ⟨fun k s e => h1 k s (h.1 k s e), fun k j r e => by
    obtain ⟨a, b, c⟩ := mr0_k e
    rw [h2 k j a b c]
    exact h.2 k j r e⟩
theorem bk_up {sh sh2 : SH} {mr mr2 : MR} {q : Nat} (h : bk_c sh mr q) (h1 : ∀ (k : Nat) (s : Nat ⊕ (Nat × Nat)), sh[k]? = some s → sh2[k]? = some s) (h2 : ∀ j, mr2 q j = mr q j) : bk_c sh2 mr2 q := by
  obtain ⟨a, ⟨b1, b2, b3, b4, b5⟩, c1, c2, c3, c4, c5⟩ := h
  exact ⟨h1 _ _ a, ⟨(h2 _).trans b1, (h2 _).trans b2, (h2 _).trans b3, (h2 _).trans b4, (h2 _).trans b5⟩, h1 _ _ c1, h1 _ _ c2, h1 _ _ c3, h1 _ _ c4, h1 _ _ c5⟩
theorem sk_up {sh sh2 : SH} {mr mr2 : MR} {q n : Nat} (h : sk_c sh mr q n) (h1 : ∀ (k : Nat) (s : Nat ⊕ (Nat × Nat)), sh[k]? = some s → sh2[k]? = some s) (h2 : ∀ j, mr2 q j = mr q j) : sk_c sh2 mr2 q n :=
  ⟨h1 _ _ h.1, (h2 _).trans h.2.1, h1 _ _ h.2.2⟩
theorem sN_cg {f g : Nat → Nat} : ∀ n, (∀ x, x < n → f x = g x) → sN f n = sN g n
  | 0, _ => rfl
  | n + 1, h => by
    simp only [sN]
    rw [sN_cg n (fun x hx => h x (by omega)), h n (by omega)]
section OPN
variable {i : Nat} {sh : SH} {mi : MI} {mr : MR}
theorem op_book (hI : Inv i sh mi mr) : OPi mX5_book mX6_book [] i sh mi mr := by
  have hI0 := hI
  obtain ⟨nb, kb, at_, ns, ks, Wd, Hd, hZ, hT, hA, hB, hC, hD, hE⟩ := hI
  have hnb := hZ.2.2.1
  have h67 := hZ.2.1
  by_cases hf : nb = 10
  · have e1 : ¬ mi 0 5 < 10 := by rw [hB.1, hf]; decide
    have e2 : mi 29 1 = 10 := by rw [hB.2.1, hf]; rfl
    exact op_q hI0 hZ.1 (t_X5_book_f hZ.1 e1) (by decide) (t_X6_book_f hZ.1 e2) (by decide)
  · obtain ⟨n, hn⟩ : ∃ n, n = sh.length := ⟨_, rfl⟩
    rw [← hn] at h67 hT
    refine op_g (t_X5_book_k hZ.1 hT h67 nb hB.1 (by omega)) (by decide) (by decide) (by decide) (fun v s2 m2 r2 h => ?_)
    obtain ⟨ev, es, em, er⟩ := h
    have hpre : ∀ (k : Nat) (s : Nat ⊕ (Nat × Nat)), sh[k]? = some s → s2[k]? = some s := fun k s e => by
      rw [es]
      exact lk_l (lk_l (lk_l (lk_l (lk_l (lk_l e)))))
    have hlen : s2.length = n + 6 := by
      rw [es]
      simp [hn]
    have hr : ∀ k j, k ≠ n → ¬ (k = 1 ∧ j = nb) → r2 k j = mr k j := fun k j h1 h2 => by
      rw [er, uq_ne (by omega), uq_ne (Or.inl h1), uq_ne (Or.inl h1), uq_ne (Or.inl h1), uq_ne (Or.inl h1), uq_ne (Or.inl h1)]
    have hr1 : r2 1 nb = some n := by rw [er, uq_at]
    have hba : ba_c s2 r2 := ba_up hZ.1 hpre (fun k j h1 _ h3 => hr k j (by omega) (by omega))
    have hbk : bk_c s2 r2 n := by
      have e0 : ∀ j, r2 n j = up_2 (up_2 (up_2 (up_2 (up_2 mr n 0 (some (n + 1))) n 1 (some (n + 2))) n 2 (some (n + 3))) n 3 (some (n + 4))) n 4 (some (n + 5)) n j := fun j => by rw [er, uq_ne (Or.inl (by omega))]
      refine ⟨?_, ⟨?_, ?_, ?_, ?_, ?_⟩, ?_, ?_, ?_, ?_, ?_⟩
      · rw [es]; exact lk_l (lk_l (lk_l (lk_l (lk_l (lk_n hn.symm)))))
      · rw [e0]; simp [up_2]
      · rw [e0]; simp [up_2]
      · rw [e0]; simp [up_2]
      · rw [e0]; simp [up_2]
      · rw [e0]; simp [up_2]
      · rw [es]; exact lk_l (lk_l (lk_l (lk_l (lk_n (ln_s hn.symm rfl)))))
      · rw [es]; exact lk_l (lk_l (lk_l (lk_n (ln_s (ln_s hn.symm rfl) rfl))))
      · rw [es]; exact lk_l (lk_l (lk_n (ln_s (ln_s (ln_s hn.symm rfl) rfl) rfl)))
      · rw [es]; exact lk_l (lk_n (ln_s (ln_s (ln_s (ln_s hn.symm rfl) rfl) rfl) rfl))
      · rw [es]; exact lk_n (ln_s (ln_s (ln_s (ln_s (ln_s hn.symm rfl) rfl) rfl) rfl) rfl)
    have hne : ∀ a c, ¬ (a = n ∧ c = 9) → ¬ (a = n + 5 ∧ c < 5) → ¬ (a = 0 ∧ c = 5) → m2 a c = mi a c := fun a c h1 h2 h3 => by
      rw [em]
      simp only [up_2, fl_r]
      rw [if_neg h3, if_neg (by omega), if_neg h1]
    refine ⟨_, ev, hba, m_g (t_X6_book_k hba nb ((hne _ _ (by omega) (by omega) (by omega)).trans hB.2.1) (by omega)) (by decide) (fun v s3 m3 r3 h => ?_)⟩
    obtain ⟨ev, es3, er3, em3⟩ := h
    rw [es3, er3]
    have hnf : ∀ a c, ¬ (a = 37 ∧ 5 * nb ≤ c ∧ c < 5 * nb + 5) → ¬ (a = 39 ∧ c = nb) → ¬ (a = 29 ∧ c = 1) → m3 a c = m2 a c := fun a c h1 h2 h3 => by
      rw [em3]
      simp only [up_2, fl_r]
      rw [if_neg h3, if_neg h2, if_neg h1]
    have fg : ∀ a c, ¬ ((a = n ∧ c = 9) ∨ (a = n + 5 ∧ c < 5) ∨ (a = 0 ∧ c = 5) ∨ (a = 37 ∧ 5 * nb ≤ c ∧ c < 5 * nb + 5) ∨ (a = 39 ∧ c = nb) ∨ (a = 29 ∧ c = 1)) → m3 a c = mi a c := fun a c h => (hnf a c (by omega) (by omega) (by omega)).trans (hne a c (by omega) (by omega) (by omega))
    have zn : ∀ k j, n ≤ k → mi k j = 0 := fun k j hk => (hT.2.2 k hk j).1
    have k05 : m3 0 5 = nI (nb + 1) := by rw [hnf _ _ (by omega) (by omega) (by omega), em, up_at]
    have k291 : m3 29 1 = nI (nb + 1) := by rw [em3, up_at]
    have k39 : m3 39 nb = nI 2000 := by rw [em3, up_ne (Or.inl (by omega)), up_at]; rfl
    have k37 : ∀ k, k < 5 → m3 37 (5 * nb + k) = nI 1 := fun k hk => by
      rw [em3, up_ne (Or.inl (by omega)), up_ne (Or.inl (by omega))]
      simp only [fl_r]
      rw [if_pos ⟨trivial, by omega, by omega⟩]
      rfl
    have kn9 : m3 n 9 = nI 2000 := by
      rw [hnf _ _ (by omega) (by omega) (by omega), em, up_ne (Or.inl (by omega)), fl_ne (by omega), up_at]
      rfl
    have kn5 : ∀ k, k < 5 → m3 (n + 5) k = nI 1 := fun k hk => by
      rw [hnf _ _ (by omega) (by omega) (by omega), em, up_ne (Or.inl (by omega))]
      simp only [fl_r]
      rw [if_pos ⟨trivial, by omega, by omega⟩]
      rfl
    obtain ⟨z1, z2, z3, z4, z5, z6, z7⟩ := hB.2.2.2 nb (Nat.le_refl nb) (by omega)
    refine ⟨ev, nb + 1, fun b => if b = nb then n else kb b, fun b => if b = nb then 0 else at_ b, ns, ks, Wd, Hd, ⟨hba, by omega, by omega, hZ.2.2.2.1, fun b hb => ?_, fun b b2 h1 h2 => ?_, ⟨fun s hs => ?_, fun s hs => ?_, hZ.2.2.2.2.2.2.1.2.2⟩, fun s hs => ?_, fun b s hb hs => ?_⟩, ?_, ?_, ⟨k05, k291, fun b hb => ?_, fun b h1 h2 => ?_⟩, ?_, ?_, ?_⟩
    · by_cases e : b = nb
      · subst e
        simp only [if_true]
        exact ⟨hr1, hbk, h67, by omega⟩
      · have hk := hZ.2.2.2.2.1 b (by omega)
        simp only [if_neg e]
        exact ⟨(hr 1 b (by omega) (by omega)).trans hk.1, bk_up hk.2.1 hpre (fun j => hr _ _ (by omega) (by omega)), hk.2.2.1, by omega⟩
    · have hk := hZ.2.2.2.2.1 b (by omega)
      simp only [if_neg (show ¬ b = nb by omega)]
      by_cases e : b2 = nb
      · simp only [if_pos e]
        omega
      · simp only [if_neg e]
        exact hZ.2.2.2.2.2.1 b b2 h1 (by omega)
    · have h1 := hZ.2.2.2.2.2.2.1.1 s hs
      have h2 := hZ.2.2.2.2.2.2.2.1 s hs
      have h3 := hZ.2.2.2.2.2.2.1.2.1 s hs
      exact ⟨(hr _ _ (by omega) (by omega)).trans h1.1, sk_up h1.2 hpre (fun j => hr _ _ (by omega) (by omega))⟩
    · exact hZ.2.2.2.2.2.2.1.2.1 s hs
    · have h2 := hZ.2.2.2.2.2.2.2.1 s hs
      omega
    · have h2 := hZ.2.2.2.2.2.2.2.1 s hs
      by_cases e : b = nb
      · simp only [if_pos e]
        omega
      · simp only [if_neg e]
        exact hZ.2.2.2.2.2.2.2.2 b s (by omega) hs
    · rw [hlen]
      refine ⟨hlen, ?_, fun k hk j => ⟨(fg _ _ (by omega)).trans (zn k j (by omega)), (hr _ _ (by omega) (by omega)).trans (hT.2.2 k (by omega) j).2⟩⟩
      rw [er]
      have h0 : ok_m (n + 6) mr := ok_mn (by omega) hT.2.1
      exact ok_up (ok_up (ok_up (ok_up (ok_up (ok_up h0 (by omega)) (by omega)) (by omega)) (by omega)) (by omega)) (by omega)
    · have e : sN (fun b => if b = nb then 0 else at_ b) (nb + 1) = sN at_ nb := by
        simp only [sN, if_true, Nat.add_zero]
        exact sN_cg nb (fun x hx => if_neg (by omega))
      rw [e]
      exact A_cg (fun a c h => fg a c (by unfold wA at h; omega)) hA
    · by_cases e : b = nb
      · subst e
        simp only [if_true]
        refine ⟨by omega, (fg _ _ (by omega)).trans (zn _ _ (by omega)), (fg _ _ (by omega)).trans z1, ⟨0, by omega, (fg _ _ (by omega)).trans (zn _ _ (by omega)), (fg _ _ (by omega)).trans z2, fun j hj => absurd hj (Nat.not_lt_zero j), 0, by decide, (fg _ _ (by omega)).trans (zn _ _ (by omega)), fun j hj => absurd hj (Nat.not_lt_zero j), fun j _ hj => (fg _ _ (by omega)).trans (z6 j hj)⟩, fun k hk => ?_, fun k hk => ⟨1, by decide, kn5 k hk, k37 k hk⟩, 0, 2000, 0, by decide, by decide, by decide, (fg _ _ (by omega)).trans (zn _ _ (by omega)), (fg _ _ (by omega)).trans z3, kn9, k39, (fg _ _ (by omega)).trans (zn _ _ (by omega)), (fg _ _ (by omega)).trans z5⟩
        rw [fg 35 _ (by omega), fg 36 _ (by omega), fg (n + 3) _ (by omega), fg (n + 4) _ (by omega), (z7 k hk).1, (z7 k hk).2.1, zn _ _ (by omega), zn _ _ (by omega)]
        exact ⟨rfl, rfl⟩
      · have hk := hZ.2.2.2.2.1 b (by omega)
        simp only [if_neg e]
        exact BR_cg (fun a c h => fg a c (by unfold wR at h; omega)) (hB.2.2.1 b (by omega))
    · exact BZ_cg (fun a c h => fg a c (by omega)) (hB.2.2.2 b (by omega) h2)
    · exact C_cg (fun a c h => fg a c (by unfold wC at h; omega)) hC
    · refine D_cg hZ.2.2.2.1 (Nat.le_succ i) (fun a c h => fg a c ?_) hD
      rcases h with h | h | h | ⟨s, hs, h⟩
      · omega
      · omega
      · omega
      · have h2 := hZ.2.2.2.2.2.2.2.1 s hs
        have h3 := (hZ.2.2.2.2.2.2.1.2.1 s hs).2.2
        omega
    · exact E_cg (fun a c h => fg a c (by unfold wE at h; omega)) hE
theorem op_skin (hI : Inv i sh mi mr) (p1 p2 p3 : Int32) : OPi mX5_skin mX6_skin [pv_i p1, pv_i p2, pv_i p3] i sh mi mr := by
  have hI0 := hI
  obtain ⟨nb, kb, at_, ns, ks, Wd, Hd, hZ, hT, hA, hB, hC, hD, hE⟩ := hI
  have hns := hZ.2.2.2.1
  have h67 := hZ.2.1
  obtain ⟨tn, S, y1, y2, y3, y4, y5, y6, y7, y8⟩ := hD
  by_cases hv : ((1 ≤ p1 ∧ p1 ≤ 12) ∧ 1 ≤ p2 ∧ p2 ≤ 12) ∧ 0 ≤ p3 ∧ p3 ≤ 9
  · by_cases hf : ns = 6
    · have e1 : ¬ mi 0 6 < 6 := by rw [y1, hf]; decide
      have e2 : mi 29 34 = 6 := by rw [y2, hf]; rfl
      exact op_q hI0 hZ.1 (t_X5_skin_f hZ.1 p1 p2 p3 hv e1) (by decide) (t_X6_skin_f hZ.1 p1 p2 p3 hv e2) (by decide)
    · obtain ⟨n, hn⟩ : ∃ n, n = sh.length := ⟨_, rfl⟩
      rw [← hn] at h67 hT
      have hv0 := hv
      obtain ⟨W, W1, W2, rfl⟩ := i_rg (lo := 1) (hi := 12) (by decide) (by decide) hv.1.1
      obtain ⟨H, H1, H2, rfl⟩ := i_rg (lo := 1) (hi := 12) (by decide) (by decide) hv.1.2
      refine op_g (t_X5_skin_k hZ.1 hT h67 ns y1 (by omega) W H W1 H1 W2 H2 p3 hv.2) (by decide) (by decide) (by decide) (fun v s2 m2 r2 h => ?_)
      obtain ⟨ev, es, em, er⟩ := h
      have hpre : ∀ (k : Nat) (s : Nat ⊕ (Nat × Nat)), sh[k]? = some s → s2[k]? = some s := fun k s e => by
        rw [es]
        exact lk_l (lk_l e)
      have hlen : s2.length = n + 2 := by
        rw [es]
        simp [hn]
      have hr : ∀ k j, k ≠ n → ¬ (k = 21 ∧ j = ns) → r2 k j = mr k j := fun k j h1 h2 => by
        rw [er, uq_ne (by omega), uq_ne (Or.inl h1)]
      have hr1 : r2 21 ns = some n := by rw [er, uq_at]
      have hba : ba_c s2 r2 := ba_up hZ.1 hpre (fun k j _ h1 h3 => hr k j (by omega) (by omega))
      have hsk : sk_c s2 r2 n (W * H) := by
        refine ⟨?_, ?_, ?_⟩
        · rw [es]; exact lk_l (lk_n hn.symm)
        · rw [er, uq_ne (Or.inl (by omega)), uq_at]
        · rw [es]; exact lk_n (ln_s hn.symm rfl)
      have hne : ∀ a c, ¬ (a = n ∧ (c = 0 ∨ c = 1 ∨ c = 2)) → ¬ (a = 0 ∧ c = 6) → m2 a c = mi a c := fun a c h1 h2 => by
        rw [em]
        simp only [up_2]
        repeat rw [if_neg (by omega)]
      refine ⟨_, ev, hba, m_g (t_X6_skin_k hba (nI W) (nI H) p3 hv0 ns ((hne _ _ (by omega) (by omega)).trans y2) (by omega)) (by decide) (fun v s3 m3 r3 h => ?_)⟩
      obtain ⟨ev, es3, em3, er3⟩ := h
      rw [es3, er3]
      have hnf : ∀ a c, ¬ (a = 56 ∧ c = ns) → ¬ (a = 57 ∧ c = ns) → ¬ (a = 58 ∧ c = ns) → ¬ (a = 29 ∧ c = 34) → m3 a c = m2 a c := fun a c h1 h2 h3 h4 => by
        rw [em3]
        simp only [up_2]
        rw [if_neg h4, if_neg h3, if_neg h2, if_neg h1]
      have fg : ∀ a c, ¬ ((a = n ∧ (c = 0 ∨ c = 1 ∨ c = 2)) ∨ (a = 0 ∧ c = 6) ∨ (a = 56 ∧ c = ns) ∨ (a = 57 ∧ c = ns) ∨ (a = 58 ∧ c = ns) ∨ (a = 29 ∧ c = 34)) → m3 a c = mi a c := fun a c h => (hnf a c (by omega) (by omega) (by omega) (by omega)).trans (hne a c (by omega) (by omega))
      have zn : ∀ k j, n ≤ k → mi k j = 0 := fun k j hk => (hT.2.2 k hk j).1
      have k06 : m3 0 6 = nI (ns + 1) := by rw [hnf _ _ (by omega) (by omega) (by omega) (by omega), em, up_at]
      have k34 : m3 29 34 = nI (ns + 1) := by rw [em3, up_at]
      have k56 : m3 56 ns = nI W := by rw [em3, up_ne (Or.inl (by omega)), up_ne (Or.inl (by omega)), up_ne (Or.inl (by omega)), up_at]
      have k57 : m3 57 ns = nI H := by rw [em3, up_ne (Or.inl (by omega)), up_ne (Or.inl (by omega)), up_at]
      have k58 : m3 58 ns = p3 := by rw [em3, up_ne (Or.inl (by omega)), up_at]
      have kn0 : m3 n 0 = p3 := by rw [hnf _ _ (by omega) (by omega) (by omega) (by omega), em, up_ne (Or.inl (by omega)), up_at]
      have kn1 : m3 n 1 = nI W := by rw [hnf _ _ (by omega) (by omega) (by omega) (by omega), em, up_ne (Or.inl (by omega)), up_ne (Or.inr (by decide)), up_ne (Or.inr (by decide)), up_at]
      have kn2 : m3 n 2 = nI H := by rw [hnf _ _ (by omega) (by omega) (by omega) (by omega), em, up_ne (Or.inl (by omega)), up_ne (Or.inr (by decide)), up_at]
      refine ⟨ev, nb, kb, at_, ns + 1, fun s => if s = ns then n else ks s, fun s => if s = ns then W else Wd s, fun s => if s = ns then H else Hd s, ⟨hba, by omega, hZ.2.2.1, by omega, fun b hb => ?_, hZ.2.2.2.2.2.1, ⟨fun s hs => ?_, fun s hs => ?_, fun s t h1 h2 => ?_⟩, fun s hs => ?_, fun b s hb hs => ?_⟩, ?_, A_cg (fun a c h => fg a c (by unfold wA at h; omega)) hA, B_cg (fun a c h => ?_) hB, C_cg (fun a c h => fg a c (by unfold wC at h; omega)) hC, ⟨fun s => if s = ns then p3 else tn s, fun s => if s = ns then (fun _ _ => 0, 0) else S s, k06, k34, fun s hs => ?_, fun s hs => ?_, fun s hs => ?_, fun s hs => ?_, fun c h1 h2 => ?_, fun s h1 h2 => ?_⟩, E_cg (fun a c h => fg a c (by unfold wE at h; omega)) hE⟩
      · have hk := hZ.2.2.2.2.1 b hb
        exact ⟨(hr 1 b (by omega) (by omega)).trans hk.1, bk_up hk.2.1 hpre (fun j => hr _ _ (by omega) (by omega)), hk.2.2.1, by omega⟩
      · by_cases e : s = ns
        · subst e
          simp only [if_true]
          exact ⟨hr1, hsk⟩
        · have h1 := hZ.2.2.2.2.2.2.1.1 s (by omega)
          have h2 := hZ.2.2.2.2.2.2.2.1 s (by omega)
          have h3 := hZ.2.2.2.2.2.2.1.2.1 s (by omega)
          simp only [if_neg e]
          exact ⟨(hr _ _ (by omega) (by omega)).trans h1.1, sk_up h1.2 hpre (fun j => hr _ _ (by omega) (by omega))⟩
      · by_cases e : s = ns
        · simp only [if_pos e]
          exact ⟨W2, H2, h67⟩
        · simp only [if_neg e]
          exact hZ.2.2.2.2.2.2.1.2.1 s (by omega)
      · have h4 := hZ.2.2.2.2.2.2.2.1 s (by omega)
        simp only [if_neg (show ¬ s = ns by omega)]
        by_cases e : t = ns
        · simp only [if_pos e]
          omega
        · simp only [if_neg e]
          exact hZ.2.2.2.2.2.2.1.2.2 s t h1 (by omega)
      · by_cases e : s = ns
        · simp only [if_pos e]
          omega
        · have h4 := hZ.2.2.2.2.2.2.2.1 s (by omega)
          simp only [if_neg e]
          omega
      · have hk := hZ.2.2.2.2.1 b hb
        by_cases e : s = ns
        · simp only [if_pos e]
          omega
        · simp only [if_neg e]
          exact hZ.2.2.2.2.2.2.2.2 b s hb (by omega)
      · rw [hlen]
        refine ⟨hlen, ?_, fun k hk j => ⟨(fg _ _ (by omega)).trans (zn k j (by omega)), (hr _ _ (by omega) (by omega)).trans (hT.2.2 k (by omega) j).2⟩⟩
        rw [er]
        have h0 : ok_m (n + 2) mr := ok_mn (by omega) hT.2.1
        exact ok_up (ok_up h0 (by omega)) (by omega)
      · rcases h with h | h | h | ⟨b, hb, h⟩
        · exact fg a c (by omega)
        · exact fg a c (by omega)
        · exact fg a c (by omega)
        · have hk := hZ.2.2.2.2.1 b hb
          exact fg a c (by omega)
      · by_cases e : s = ns
        · subst e
          simp only [if_true]
          exact kn0
        · have h4 := hZ.2.2.2.2.2.2.2.1 s (by omega)
          have h5 := (hZ.2.2.2.2.2.2.1.2.1 s (by omega)).2.2
          simp only [if_neg e]
          exact (fg _ _ (by omega)).trans (y3 s (by omega))
      · by_cases e : s = ns
        · subst e
          simp only [if_true]
          exact ⟨kn1, kn2, (fg _ _ (by omega)).trans (zn _ _ (by omega)), fun x y hx hy => (fg _ _ (by omega)).trans (zn _ _ (by omega))⟩
        · have h4 := hZ.2.2.2.2.2.2.2.1 s (by omega)
          have h5 := (hZ.2.2.2.2.2.2.1.2.1 s (by omega)).2.2
          obtain ⟨c1, c2, c3, c4⟩ := y4 s (by omega)
          simp only [if_neg e]
          exact ⟨(fg _ _ (by omega)).trans c1, (fg _ _ (by omega)).trans c2, (fg _ _ (by omega)).trans c3, fun x y hx hy => (fg _ _ (by omega)).trans (c4 x y hx hy)⟩
      · by_cases e : s = ns
        · subst e
          simp only [if_true]
          exact ⟨k56, k57, k58, (fg _ _ (by omega)).trans (y8 s (Nat.le_refl s) (by omega)), fun x y hx hy => (fg _ _ (by omega)).trans (y7 _ (by omega) (by omega))⟩
        · obtain ⟨c1, c2, c3, c4, c5⟩ := y5 s (by omega)
          simp only [if_neg e]
          exact ⟨(fg _ _ (by omega)).trans c1, (fg _ _ (by omega)).trans c2, (fg _ _ (by omega)).trans c3, (fg _ _ (by omega)).trans c4, fun x y hx hy => (fg _ _ (by omega)).trans (c5 x y hx hy)⟩
      · by_cases e : s = ns
        · subst e
          simp only [if_true]
          exact ⟨Nat.zero_le _, fun x y hx hy => ⟨0, by decide, rfl⟩⟩
        · have h6 := y6 s (by omega)
          simp only [if_neg e]
          exact ⟨by omega, h6.2⟩
      · exact (fg _ _ (by omega)).trans (y7 c (by omega) h2)
      · exact (fg _ _ (by omega)).trans (y8 s (by omega) h2)
  · exact op_q hI0 hZ.1 (t_X5_skin_o hZ.1 p1 p2 p3 hv) (by decide) (t_X6_skin_o hZ.1 p1 p2 p3 hv) (by decide)
end OPN
