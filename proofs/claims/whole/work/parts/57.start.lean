def sh_29 : SH := [.inl 5, .inr (0 + 2, 10), .inl 2, .inr (0, 7), .inr (0, 7), .inr (0, 35), .inr (0, 7), .inr (0, 7), .inr (0, 7), .inr (0, 7), .inr (0, 7), .inr (0, 40), .inl 4, .inr (0, 27), .inr (0, 27), .inr (0, 6), .inr (0, 40), .inr (0, 27), .inr (0, 20), .inr (0, 147), .inr (0, 147), .inr (1 + 2, 6), .inl 1, .inr (0, 30), .inr (0, 30), .inr (0, 30), .inr (0, 30), .inr (0, 50), .inr (0, 50)]
set_option maxRecDepth 100000 in
set_option maxHeartbeats 4000000 in
theorem t_X5_init : EV none 2 28 833 mX5_init 0 (en_l mX5_init [pv_r 0]) [] [.inl 5] (fun _ _ => 0) (fun _ _ => none) (fun v_ sh_ mi_ mr_ => v_ = none ∧ sh_ = sh_29 ∧ mi_ = (fl_r (up_2 (up_2 (fun _ _ => 0) 12 5 100) (12 + 1) 0 3) (12 + 1) 1 26 5) ∧ mr_ = (up_2 (up_2 (up_2 (up_2 (up_2 (up_2 (up_2 (up_2 (up_2 (up_2 (up_2 (up_2 (up_2 (up_2 (up_2 (up_2 (up_2 (up_2 (up_2 (up_2 (up_2 (up_2 (up_2 (up_2 (up_2 (up_2 (up_2 (up_2 (fun _ _ => none) 0 0 (some 1)) 2 0 (some (2 + 1))) 2 1 (some (2 + 2))) 2 2 (some (2 + 3))) 2 3 (some (2 + 4))) 2 4 (some (2 + 5))) 2 5 (some (2 + 6))) 2 6 (some (2 + 7))) 2 7 (some (2 + 8))) 2 8 (some (2 + 9))) 0 1 (some 2)) 12 0 (some (12 + 1))) 12 1 (some (12 + 2))) 12 2 (some (12 + 3))) 12 6 (some (12 + 4))) 12 7 (some (12 + 5))) 12 8 (some (12 + 6))) 12 9 (some (12 + 7))) 12 10 (some (12 + 8))) 0 2 (some 12)) 0 3 (some 21)) 22 2 (some (22 + 1))) 22 3 (some (22 + 2))) 22 4 (some (22 + 3))) 22 5 (some (22 + 4))) 22 6 (some (22 + 5))) 22 7 (some (22 + 6))) 0 4 (some 22)) ∧ st_c sh_ mi_ mr_ 29) := by
  show EV none 2 28 833 mX5_init 0 [some (pv_r 0)] [] [.inl 5] (fun _ _ => 0) (fun _ _ => none) _
  obtain ⟨sh0, eshz⟩ : ∃ z : SH, z = [.inl 5] := ⟨_, rfl⟩
  obtain ⟨mi0, emz⟩ : ∃ z : MI, z = fun _ _ => 0 := ⟨_, rfl⟩
  obtain ⟨mr0, erz⟩ : ∃ z : MR, z = fun _ _ => none := ⟨_, rfl⟩
  have hS0 : st_c sh0 mi0 mr0 1 := by
    rw [eshz, emz, erz]
    exact ⟨rfl, (fun k j r e => by cases e), fun k hk j => ⟨rfl, rfl⟩⟩
  have hs0 : sh0[0]? = some (.inl 5) := by rw [eshz]; rfl
  rw [← eshz, ← emz, ← erz]
  refine ev_aload_n dX5_init_0 rfl ?_
  refine ev_objInit dX5_init_1 oi_X5_3 oi_w.1 oi_w.2 (by decide) (Nat.le_of_ble_eq_true rfl) ?_
  refine ev_aload_n dX5_init_4 rfl ?_
  refine ev_bipush (v := 10) dX5_init_5 rfl ?_
  refine ev_newq2 (N := 10) (t := 0) (q := 1) (mc1 := 27) (ms1 := 823) dX5_init_7 nq_X5_9 (Or.inl ⟨rfl, rfl⟩) rfl (by decide) hS0.1 (ok_sc (show 0 < 1 by decide) ok_sn) (ok_lc (show 0 < 1 by decide) ok_ln) hS0.2.1 (fun j => (hS0.2.2 1 (Nat.le_refl 1) j).2) rfl rfl ?_
  refine ev_putFq dX5_init_10 fl_X5_11 rfl (fun _ => rfl) (fun _ => rfl) rfl rfl rfl (lk_l hs0) ?_
  obtain ⟨sh1, es1⟩ : ∃ z, z = sh0 ++ [.inr (0 + 2, 10)] := ⟨_, rfl⟩
  obtain ⟨mr1, er1⟩ : ∃ z, z = up_2 mr0 0 0 (some 1) := ⟨_, rfl⟩
  have hS1 : st_c sh1 mi0 mr1 2 := by
    rw [es1, er1]
    exact st_pq (st_al _ hS0) (by decide) (by decide)
  have hs1 : sh1[0]? = some (.inl 5) := by
    rw [es1]
    exact lk_l hs0
  rw [← es1, ← er1]
  refine ev_aload_n dX5_init_13 rfl ?_
  refine ev_new2 (ci := 2) (q := 2) (mc1 := 26) (ms1 := 811) dX5_init_14 (by decide) nw_X5_15 ins_2.1 ins_2.2 hS1.1 (ok_sc (show 0 < 2 by decide) ok_sn) (ok_lc (show 0 < 2 by decide) ok_ln) hS1.2.1 (fun j => (hS1.2.2 2 (Nat.le_refl 2) j).1) (fun j => (hS1.2.2 2 (Nat.le_refl 2) j).2) rfl rfl dv_2 ?_
  refine ev_dup dX5_init_17 ?_
  refine ev_calli (k := 2) (av := []) (d1 := 1) (mc1 := 9) (ms1 := 124) (mc2 := 17) (ms2 := 687) dX5_init_18 ci_X5_17 rfl rfl (Nat.le_of_ble_eq_true rfl) (by decide) (Or.inr ⟨ok_sc (show 2 < _ by rw [ln_s hS1.1 rfl]; decide) (ok_sc (show 0 < _ by rw [ln_s hS1.1 rfl]; decide) ok_sn), ok_lc (show 0 < _ by rw [ln_s hS1.1 rfl]; decide) ok_ln⟩) rfl rfl (t_X2_init (q := 2) (st_al _ hS1) (lk_n hS1.1) (fun j => (hS1.2.2 2 (Nat.le_refl 2) j).1)) ?_
  rintro v_ sh2 mi2 mr2x ⟨e1_, es2, em2, er2x, hS2x⟩
  subst e1_
  have hs2 : sh2[0]? = some (.inl 5) := by
    rw [es2]
    exact (lk_l (lk_l (lk_l (lk_l (lk_l (lk_l (lk_l (lk_l (lk_l (lk_l hs1))))))))))
  have hq2 : sh2[2]? = some (.inl 2) := by
    rw [es2]
    exact (lk_l (lk_l (lk_l (lk_l (lk_l (lk_l (lk_l (lk_l (lk_l (lk_n hS1.1))))))))))
  refine ev_putFq dX5_init_21 fl_X5_18 rfl (fun _ => rfl) (fun _ => rfl) rfl rfl rfl hs2 ?_
  obtain ⟨mr2, er2⟩ : ∃ z, z = up_2 mr2x 0 1 (some 2) := ⟨_, rfl⟩
  have hS2 : st_c sh2 mi2 mr2 12 := by
    rw [er2]
    exact st_pq hS2x (by decide) (by decide)
  rw [← er2]
  refine ev_aload_n dX5_init_24 rfl ?_
  refine ev_new2 (ci := 4) (q := 12) (mc1 := 16) (ms1 := 675) dX5_init_25 (by decide) nw_X5_22 ins_4.1 ins_4.2 hS2.1 (ok_sc (show 0 < 12 by decide) ok_sn) (ok_lc (show 0 < 12 by decide) ok_ln) hS2.2.1 (fun j => (hS2.2.2 12 (Nat.le_refl 12) j).1) (fun j => (hS2.2.2 12 (Nat.le_refl 12) j).2) rfl rfl dv_4 ?_
  refine ev_dup dX5_init_28 ?_
  refine ev_calli (k := 12) (av := []) (d1 := 1) (mc1 := 8) (ms1 := 441) (mc2 := 8) (ms2 := 234) dX5_init_29 ci_X5_24 rfl rfl (Nat.le_of_ble_eq_true rfl) (by decide) (Or.inr ⟨ok_sc (show 12 < _ by rw [ln_s hS2.1 rfl]; decide) (ok_sc (show 0 < _ by rw [ln_s hS2.1 rfl]; decide) ok_sn), ok_lc (show 0 < _ by rw [ln_s hS2.1 rfl]; decide) ok_ln⟩) rfl rfl (t_X4_init (q := 12) (st_al _ hS2) (lk_n hS2.1) (fun j => (hS2.2.2 12 (Nat.le_refl 12) j).1)) ?_
  rintro v_ sh3 mi3 mr3x ⟨e1_, es3, em3, er3x, hS3x⟩
  subst e1_
  have hs3 : sh3[0]? = some (.inl 5) := by
    rw [es3]
    exact (lk_l (lk_l (lk_l (lk_l (lk_l (lk_l (lk_l (lk_l (lk_l hs2)))))))))
  have hq3 : sh3[12]? = some (.inl 4) := by
    rw [es3]
    exact (lk_l (lk_l (lk_l (lk_l (lk_l (lk_l (lk_l (lk_l (lk_n hS2.1)))))))))
  refine ev_putFq dX5_init_32 fl_X5_25 rfl (fun _ => rfl) (fun _ => rfl) rfl rfl rfl hs3 ?_
  obtain ⟨mr3, er3⟩ : ∃ z, z = up_2 mr3x 0 2 (some 12) := ⟨_, rfl⟩
  have hS3 : st_c sh3 mi3 mr3 21 := by
    rw [er3]
    exact st_pq hS3x (by decide) (by decide)
  rw [← er3]
  refine ev_aload_n dX5_init_35 rfl ?_
  refine ev_bipush (v := 6) dX5_init_36 rfl ?_
  refine ev_newq2 (N := 6) (t := 1) (q := 21) (mc1 := 7) (ms1 := 228) dX5_init_38 nq_X5_29 (Or.inr ⟨rfl, rfl⟩) rfl (by decide) hS3.1 (ok_sc (show 0 < 21 by decide) ok_sn) (ok_lc (show 0 < 21 by decide) ok_ln) hS3.2.1 (fun j => (hS3.2.2 21 (Nat.le_refl 21) j).2) rfl rfl ?_
  refine ev_putFq dX5_init_41 fl_X5_31 rfl (fun _ => rfl) (fun _ => rfl) rfl rfl rfl (lk_l hs3) ?_
  obtain ⟨sh4, es4⟩ : ∃ z, z = sh3 ++ [.inr (1 + 2, 6)] := ⟨_, rfl⟩
  obtain ⟨mr4, er4⟩ : ∃ z, z = up_2 mr3 0 3 (some 21) := ⟨_, rfl⟩
  have hS4 : st_c sh4 mi3 mr4 22 := by
    rw [es4, er4]
    exact st_pq (st_al _ hS3) (by decide) (by decide)
  have hs4 : sh4[0]? = some (.inl 5) := by
    rw [es4]
    exact lk_l hs3
  rw [← es4, ← er4]
  refine ev_aload_n dX5_init_44 rfl ?_
  refine ev_new2 (ci := 1) (q := 22) (mc1 := 6) (ms1 := 220) dX5_init_45 (by decide) nw_X5_35 ins_1.1 ins_1.2 hS4.1 (ok_sc (show 0 < 22 by decide) ok_sn) (ok_lc (show 0 < 22 by decide) ok_ln) hS4.2.1 (fun j => (hS4.2.2 22 (Nat.le_refl 22) j).1) (fun j => (hS4.2.2 22 (Nat.le_refl 22) j).2) rfl rfl dv_1 ?_
  refine ev_dup dX5_init_48 ?_
  refine ev_calli (k := 22) (av := []) (d1 := 1) (mc1 := 6) (ms1 := 220) (mc2 := 0) (ms2 := 0) dX5_init_49 ci_X5_37 rfl rfl (Nat.le_of_ble_eq_true rfl) (by decide) (Or.inr ⟨ok_sc (show 22 < _ by rw [ln_s hS4.1 rfl]; decide) (ok_sc (show 0 < _ by rw [ln_s hS4.1 rfl]; decide) ok_sn), ok_lc (show 0 < _ by rw [ln_s hS4.1 rfl]; decide) ok_ln⟩) rfl rfl (t_X1_init (q := 22) (st_al _ hS4) (lk_n hS4.1) (fun j => (hS4.2.2 22 (Nat.le_refl 22) j).1)) ?_
  rintro v_ sh5 mi5 mr5x ⟨e1_, es5, em5, er5x, hS5x⟩
  subst e1_
  have hs5 : sh5[0]? = some (.inl 5) := by
    rw [es5]
    exact (lk_l (lk_l (lk_l (lk_l (lk_l (lk_l (lk_l hs4)))))))
  have hq5 : sh5[22]? = some (.inl 1) := by
    rw [es5]
    exact (lk_l (lk_l (lk_l (lk_l (lk_l (lk_l (lk_n hS4.1)))))))
  refine ev_putFq dX5_init_52 fl_X5_38 rfl (fun _ => rfl) (fun _ => rfl) rfl rfl rfl hs5 ?_
  obtain ⟨mr5, er5⟩ : ∃ z, z = up_2 mr5x 0 4 (some 22) := ⟨_, rfl⟩
  have hS5 : st_c sh5 mi5 mr5 29 := by
    rw [er5]
    exact st_pq hS5x (by decide) (by decide)
  rw [← er5]
  have z0 : ∀ j, mi5 0 j = 0 := fun j => by
    rw [em5, em3, em2]
    rw [fl_ne (by decide), up_ne (Or.inl (by decide)), up_ne (Or.inl (by decide)), emz]
  refine ev_aload_n dX5_init_55 rfl ?_
  refine ev_iconst (v := 0) dX5_init_56 rfl ?_
  refine ev_puti dX5_init_57 fl_X5_42 rfl rfl hs5 ?_
  rw [up_id (z0 5)]
  refine ev_aload_n dX5_init_60 rfl ?_
  refine ev_iconst (v := 0) dX5_init_61 rfl ?_
  refine ev_puti dX5_init_62 fl_X5_46 rfl rfl hs5 ?_
  rw [up_id (z0 6)]
  refine ev_aload_n dX5_init_65 rfl ?_
  refine ev_iconst (v := 0) dX5_init_66 rfl ?_
  refine ev_puti dX5_init_67 fl_X5_49 rfl rfl hs5 ?_
  rw [up_id (z0 7)]
  exact ev_return dX5_init_70 rfl ⟨rfl, by rw [es5, es4, es3, es2, es1, eshz]; rfl, by rw [em5, em3, em2, emz], by rw [er5, er5x, er4, er3, er3x, er2, er2x, er1, erz], hS5⟩
def mi_s : MI := (fl_r (up_2 (up_2 (fl_r (up_2 (up_2 (fun _ _ => 0) 12 5 100) (12 + 1) 0 3) (12 + 1) 1 26 5) 29 33 100) (29 + 21) 0 3) (29 + 21) 1 26 5)
def mr_s : MR := (up_2 (up_2 (up_2 (up_2 (up_2 (up_2 (up_2 (up_2 (up_2 (up_2 (up_2 (up_2 (up_2 (up_2 (up_2 (up_2 (up_2 (up_2 (up_2 (up_2 (up_2 (up_2 (up_2 (up_2 (up_2 (up_2 (up_2 (up_2 (up_2 (up_2 (up_2 (up_2 (up_2 (up_2 (up_2 (up_2 (up_2 (up_2 (up_2 (up_2 (up_2 (up_2 (up_2 (up_2 (up_2 (up_2 (up_2 (up_2 (up_2 (up_2 (up_2 (up_2 (up_2 (up_2 (up_2 (up_2 (up_2 (up_2 (up_2 (up_2 (up_2 (up_2 (up_2 (up_2 (up_2 (fun _ _ => none) 0 0 (some 1)) 2 0 (some (2 + 1))) 2 1 (some (2 + 2))) 2 2 (some (2 + 3))) 2 3 (some (2 + 4))) 2 4 (some (2 + 5))) 2 5 (some (2 + 6))) 2 6 (some (2 + 7))) 2 7 (some (2 + 8))) 2 8 (some (2 + 9))) 0 1 (some 2)) 12 0 (some (12 + 1))) 12 1 (some (12 + 2))) 12 2 (some (12 + 3))) 12 6 (some (12 + 4))) 12 7 (some (12 + 5))) 12 8 (some (12 + 6))) 12 9 (some (12 + 7))) 12 10 (some (12 + 8))) 0 2 (some 12)) 0 3 (some 21)) 22 2 (some (22 + 1))) 22 3 (some (22 + 2))) 22 4 (some (22 + 3))) 22 5 (some (22 + 4))) 22 6 (some (22 + 5))) 22 7 (some (22 + 6))) 0 4 (some 22)) 29 2 (some (29 + 1))) 29 3 (some (29 + 2))) 29 4 (some (29 + 3))) 29 5 (some (29 + 4))) 29 6 (some (29 + 5))) 29 7 (some (29 + 6))) 29 8 (some (29 + 7))) 29 9 (some (29 + 8))) 29 10 (some (29 + 9))) 29 11 (some (29 + 10))) 29 12 (some (29 + 11))) 29 14 (some (29 + 12))) 29 15 (some (29 + 13))) 29 17 (some (29 + 14))) 29 18 (some (29 + 15))) 29 19 (some (29 + 16))) 29 20 (some (29 + 17))) 29 21 (some (29 + 18))) 29 22 (some (29 + 19))) 29 23 (some (29 + 20))) 29 24 (some (29 + 21))) 29 26 (some (29 + 22))) 29 28 (some (29 + 23))) 29 29 (some (29 + 24))) 29 31 (some (29 + 25))) 29 32 (some (29 + 26))) 29 35 (some (29 + 27))) 29 36 (some (29 + 28))) 29 37 (some (29 + 29))) 29 38 (some (29 + 30))) 29 39 (some (29 + 31))) 29 40 (some (29 + 32))) 29 41 (some (29 + 33))) 29 43 (some (29 + 34))) 29 44 (some (29 + 35))) 29 45 (some (29 + 36))) 29 46 (some (29 + 37)))
set_option maxRecDepth 100000 in
theorem mr_67 : ∀ k, k < 67 → ∀ j, j < 47 → (mr_0 k j = none ∨ mr_s k j = mr_0 k j) := by decide +kernel
theorem mr_47 {k j r : Nat} (h : mr_0 k j = some r) : j < 47 := by
  refine Classical.byContradiction (fun q => ?_)
  have hq : 47 ≤ j := by omega
  unfold mr_0 at h
  split at h
  all_goals first
    | (rw [List.getElem?_eq_none (by simp; omega)] at h; simp at h)
    | simp at h
theorem ba_s : ba_c sh_0 mr_s := by
  refine ⟨fun k s h => h, fun k j r h => ?_⟩
  have h1 := mr0_k h
  rcases mr_67 k h1.2.2 j (mr_47 h) with q | q
  · rw [q] at h
    cases h
  · rw [q]
    exact h
theorem mi_z {a c : Nat} (h : ¬ ((a = 12 ∧ c = 5) ∨ (a = 13 ∧ c ≤ 26) ∨ (a = 29 ∧ c = 33) ∨ (a = 50 ∧ c ≤ 26))) : mi_s a c = 0 := by
  simp only [mi_s, fl_r, up_2]
  repeat rw [if_neg (by omega)]
theorem mi_w : ∀ k, k ≤ 26 → mi_s 13 k = nI (if k = 0 then 3 else 5) ∧ mi_s 50 k = nI (if k = 0 then 3 else 5) := by decide +kernel
theorem mi_l : mi_s 12 5 = 100 ∧ mi_s 29 33 = 100 := by decide +kernel
theorem inv_0 (hS : st_c sh_0 mi_s mr_s 67) : Inv 0 sh_0 mi_s mr_s := by
  have hl : sh_0.length = 67 := hS.1
  refine ⟨0, fun _ => 0, fun _ => 0, 0, fun _ => 0, fun _ => 0, fun _ => 0, ⟨ba_s, by omega, by omega, by omega, fun b hb => absurd hb (Nat.not_lt_zero b), fun b b2 _ hb => absurd hb (Nat.not_lt_zero b2), ⟨fun s hs => absurd hs (Nat.not_lt_zero s), fun s hs => absurd hs (Nat.not_lt_zero s), fun s t _ hs => absurd hs (Nat.not_lt_zero t)⟩, fun s hs => absurd hs (Nat.not_lt_zero s), fun b s hb => absurd hb (Nat.not_lt_zero b)⟩, by rw [hl]; exact hS, ?_, ?_, ?_, ?_, ?_⟩
  · exact ⟨0, 0, by omega, mi_z (by omega), mi_z (by omega), by omega, mi_z (by omega), mi_z (by omega), fun j hj => absurd hj (Nat.not_lt_zero j), mi_z (by omega), mi_z (by omega), fun j hj => absurd hj (Nat.not_lt_zero j)⟩
  · exact ⟨mi_z (by omega), mi_z (by omega), fun b hb => absurd hb (Nat.not_lt_zero b), fun b _ hb => ⟨mi_z (by omega), mi_z (by omega), mi_z (by omega), mi_z (by omega), mi_z (by omega), fun j hj => mi_z (by omega), fun k hk => ⟨mi_z (by omega), mi_z (by omega), mi_z (by omega)⟩⟩⟩
  · exact ⟨0, fun _ => 0, fun k => if k = 0 then 3 else 5, 0, by omega, mi_z (by omega), mi_z (by omega), fun j hj => absurd hj (Nat.not_lt_zero j), fun k hk => ⟨by show (if k = 0 then 3 else 5) ≤ 20; split <;> omega, (mi_w k hk).1, (mi_w k hk).2⟩, fun k _ hk => by rw [mi_z (a := 55) (by omega), mi_z (a := 14) (by omega)], by rw [mi_l.1, mi_l.2], by omega, mi_z (by omega), mi_z (by omega), fun j hj => absurd hj (Nat.not_lt_zero j)⟩
  · exact ⟨fun _ => 0, fun _ => (fun _ _ => 0, 0), mi_z (by omega), mi_z (by omega), fun s hs => absurd hs (Nat.not_lt_zero s), fun s hs => absurd hs (Nat.not_lt_zero s), fun s hs => absurd hs (Nat.not_lt_zero s), fun s hs => absurd hs (Nat.not_lt_zero s), fun c _ _ => mi_z (by omega), fun s _ _ => mi_z (by omega)⟩
  · exact ⟨0, fun _ => 0, fun _ _ => 0, fun _ => 0, [], ⟨mi_z (by omega), by omega, fun k hk => mi_z (by omega), rfl, od_nil, fun j hj => absurd hj (Nat.not_lt_zero j), fun j hj => absurd hj (Nat.not_lt_zero j)⟩, ⟨mi_z (by omega), by omega, rfl, od_nil, fun j hj => absurd hj (Nat.not_lt_zero j), fun x y hx => absurd hx (Nat.not_lt_zero x), fun j hj => ⟨fun k hk => Nat.zero_le _, Nat.zero_le _, by simp, by simp⟩, fun b hb => ⟨fun k hk => mi_z (by omega), mi_z (by omega)⟩, fun j hj => absurd hj (Nat.not_lt_zero j)⟩⟩
