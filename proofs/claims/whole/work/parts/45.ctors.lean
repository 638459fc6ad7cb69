theorem fl_ne {mi : MI} {k lo n a c : Nat} {v : Int32} (h : a ≠ k) : fl_r mi k lo n v a c = mi a c := by
  simp only [fl_r]
  rw [if_neg (fun e => h e.1)]
/-- cells from n on are empty -/
def st_c (sh : SH) (mi : MI) (mr : MR) (n : Nat) : Prop := sh.length = n ∧ ok_m n mr ∧ ∀ k, n ≤ k → ∀ j, mi k j = 0 ∧ mr k j = none
/-- an object that is being made -/
def mk_s (sh : SH) (mi : MI) (mr : MR) (q ci n : Nat) (L : List (Option PV)) : Prop := st_c sh mi mr n ∧ sh[q]? = some (.inl ci) ∧ q < n ∧ ok_l n L ∧ ∀ j, cl_ref ci j = false → True
theorem ok_lm {n m : Nat} {L : List (Option PV)} (h : n ≤ m) (hL : ok_l n L) : ok_l m L := fun k v e => by
  have := hL k v e
  rcases v with x | (_ | r) | x
  · trivial
  · trivial
  · exact Nat.lt_of_lt_of_le this h
  · trivial
theorem st_al {sh : SH} {mi : MI} {mr : MR} {n : Nat} (s : Nat ⊕ (Nat × Nat)) (h : st_c sh mi mr n) : st_c (sh ++ [s]) mi mr (n + 1) :=
  ⟨ln_s h.1 rfl, ok_mn (Nat.le_succ n) h.2.1, fun k hk j => h.2.2 k (by omega) j⟩
theorem st_pq {sh : SH} {mi : MI} {mr : MR} {n q j r : Nat} (h : st_c sh mi mr n) (hq : q < n) (hr : r < n) : st_c sh mi (up_2 mr q j (some r)) n :=
  ⟨h.1, ok_up h.2.1 hr, fun k hk i => ⟨(h.2.2 k hk i).1, (uq_ne (Or.inl (by omega))).trans (h.2.2 k hk i).2⟩⟩
theorem st_pi {sh : SH} {mi : MI} {mr : MR} {n q j : Nat} {x : Int32} (h : st_c sh mi mr n) (hq : q < n) : st_c sh (up_2 mi q j x) mr n :=
  ⟨h.1, h.2.1, fun k hk i => ⟨(up_ne (Or.inl (by omega))).trans (h.2.2 k hk i).1, (h.2.2 k hk i).2⟩⟩
theorem st_fl {sh : SH} {mi : MI} {mr : MR} {n q lo m : Nat} {x : Int32} (h : st_c sh mi mr n) (hq : q < n) : st_c sh (fl_r mi q lo m x) mr n :=
  ⟨h.1, h.2.1, fun k hk i => ⟨(fl_ne (by omega)).trans (h.2.2 k hk i).1, (h.2.2 k hk i).2⟩⟩
theorem mk_pi {sh : SH} {mi : MI} {mr : MR} {n q ci j a : Nat} {x : Int32} {L : List (Option PV)} (h : mk_s sh mi mr q ci n L) (ha : a < n) : mk_s sh (up_2 mi a j x) mr q ci n L := ⟨st_pi h.1 ha, h.2⟩
section MK
variable {X : Option (Nat × (Nat → Int32))} {d mc ms : Nat} {M : MD} {pc : Nat} {L : List (Option PV)} {sh : SH} {mi : MI} {mr : MR} {Po : PO}
theorem ev_mk {N mc1 ms1 q n ci j idx : Nat} {x : Int32} (hd : decode M.2.1 pc = .ok (.newarray .int, 2)) (hd2 : decode M.2.1 (pc + 2) = .ok (.putfield idx, 3)) (hf : fl_c M.1.cls idx ci j) (hr : cl_ref ci j = true) (hn : ∀ a, narrow (cl_ty ci j) (.ref a) = .ref a) (hfit : ∀ a, fits (cl_ty ci j) (.ref a) = true) (hfin : (cl_T ci j).2.2.2 = true) (hin : M.1.name = "<init>") (ho : (cl_T ci j).1 = M.1.cls) (hx : x = nI N) (hN : N < 4096) (hmc : mc1 + 1 = mc) (hms : ms1 + N = ms) (H : mk_s sh mi mr q ci n L)
    (kk : ∀ sh2 mr2, sh2 = sh ++ [.inr (0, N)] → mr2 = up_2 mr q j (some n) → mk_s sh2 mi mr2 q ci (n + 1) L → EV X d mc1 ms1 M (pc + 5) L [] sh2 mi mr2 Po) : EV X d mc ms M pc L [pv_i x, pv_r q] sh mi mr Po :=
  ev_newi2 hd ar_w.1 hx hN H.1.1 (ok_sc (show q < n from H.2.2.1) ok_sn) H.2.2.2.1 H.1.2.1 (fun j => (H.1.2.2 n (Nat.le_refl n) j).1) hmc hms (ev_putFq hd2 hf hr hn hfit hfin hin ho (lk_l H.2.1) (kk _ _ rfl rfl ⟨st_pq (st_al _ H.1) (Nat.lt_succ_of_lt H.2.2.1) (Nat.lt_succ_self n), lk_l H.2.1, Nat.lt_succ_of_lt H.2.2.1, ok_lm (Nat.le_succ n) H.2.2.2.1, fun _ _ => trivial⟩))
theorem ev_mkz {N mc1 ms1 q n ci j idx : Nat} {x : Int32} (hd : decode M.2.1 pc = .ok (.newarray .boolean, 2)) (hd2 : decode M.2.1 (pc + 2) = .ok (.putfield idx, 3)) (hf : fl_c M.1.cls idx ci j) (hr : cl_ref ci j = true) (hn : ∀ a, narrow (cl_ty ci j) (.ref a) = .ref a) (hfit : ∀ a, fits (cl_ty ci j) (.ref a) = true) (hfin : (cl_T ci j).2.2.2 = true) (hin : M.1.name = "<init>") (ho : (cl_T ci j).1 = M.1.cls) (hx : x = nI N) (hN : N < 4096) (hmc : mc1 + 1 = mc) (hms : ms1 + N = ms) (H : mk_s sh mi mr q ci n L)
    (kk : ∀ sh2 mr2, sh2 = sh ++ [.inr (1, N)] → mr2 = up_2 mr q j (some n) → mk_s sh2 mi mr2 q ci (n + 1) L → EV X d mc1 ms1 M (pc + 5) L [] sh2 mi mr2 Po) : EV X d mc ms M pc L [pv_i x, pv_r q] sh mi mr Po :=
  ev_newz2 hd ar_w.2 hx hN H.1.1 (ok_sc (show q < n from H.2.2.1) ok_sn) H.2.2.2.1 H.1.2.1 (fun j => (H.1.2.2 n (Nat.le_refl n) j).1) hmc hms (ev_putFq hd2 hf hr hn hfit hfin hin ho (lk_l H.2.1) (kk _ _ rfl rfl ⟨st_pq (st_al _ H.1) (Nat.lt_succ_of_lt H.2.2.1) (Nat.lt_succ_self n), lk_l H.2.1, Nat.lt_succ_of_lt H.2.2.1, ok_lm (Nat.le_succ n) H.2.2.2.1, fun _ _ => trivial⟩))
end MK
set_option maxRecDepth 100000 in
set_option maxHeartbeats 4000000 in
theorem lp_X4_init {sh : SH} {mi : MI} {mr : MR} {q : Nat} (hs : sh[q]? = some (.inl 4)) (hr : mr q 0 = some (q + 1)) (ha : sh[(q + 1)]? = some (.inr (0, 27))) : ∀ j, j ≤ 26 → EV none 1 0 0 mX4_init 100 [some (pv_r q), some (pv_i (nI (j + 1)))] [] sh (fl_r mi (q + 1) 1 j 5) mr (fun v_ sh_ mi_ mr_ => v_ = none ∧ sh_ = sh ∧ mi_ = fl_r mi (q + 1) 1 26 5 ∧ mr_ = mr) := by
  refine lp_i 26 (fun j hj ih => ?_)
  refine ev_iload_n dX4_init_100 rfl ?_
  refine ev_bipush (v := 26) dX4_init_101 rfl ?_
  refine ev_icmp_gt (tgt := 119) dX4_init_103 rfl (fun h103 => ?_) (fun h103 => ?_)
  · have hin : j = 26 := by have := (nI_ltI (a := 26) (b := j + 1) (by decide) (by omega)).mp h103; omega
    subst hin
    exact ev_return dX4_init_119 rfl ⟨rfl, rfl, rfl, rfl⟩
  · have hlt : j < 26 := by have := (not_congr (nI_ltI (a := 26) (b := j + 1) (by decide) (by omega))).mp h103; omega
    refine ev_aload_n dX4_init_106 rfl ?_
    refine ev_getq dX4_init_107 fl_X4_9 rfl hs hr ?_
    refine ev_iload_n dX4_init_110 rfl ?_
    refine ev_iconst (v := 5) dX4_init_111 rfl ?_
    refine ev_iast dX4_init_112 ha (j := j + 1) rfl (by omega) (by decide) ?_
    refine ev_iincN dX4_init_113 rfl (by decide) ?_
    refine ev_goto (tgt := 100) dX4_init_116 rfl ?_
    have q1 := ih hlt
    rw [← fl_s, Nat.add_comm 1 j] at q1
    exact q1
set_option maxRecDepth 100000 in
set_option maxHeartbeats 4000000 in
theorem lp_X6_init {sh : SH} {mi : MI} {mr : MR} {q : Nat} (hs : sh[q]? = some (.inl 6)) (hr : mr q 24 = some (q + 21)) (ha : sh[(q + 21)]? = some (.inr (0, 27))) : ∀ j, j ≤ 26 → EV none 1 0 0 mX6_init 317 [some (pv_r q), some (pv_i (nI (j + 1)))] [] sh (fl_r mi (q + 21) 1 j 5) mr (fun v_ sh_ mi_ mr_ => v_ = none ∧ sh_ = sh ∧ mi_ = fl_r mi (q + 21) 1 26 5 ∧ mr_ = mr) := by
  refine lp_i 26 (fun j hj ih => ?_)
  refine ev_iload_n dX6_init_317 rfl ?_
  refine ev_bipush (v := 27) dX6_init_318 rfl ?_
  refine ev_icmp_ge (tgt := 336) dX6_init_320 rfl (fun h320 => ?_) (fun h320 => ?_)
  · have hin : j = 26 := by have := (nI_leI (a := 27) (b := j + 1) (by decide) (by omega)).mp h320; omega
    subst hin
    exact ev_return dX6_init_336 rfl ⟨rfl, rfl, rfl, rfl⟩
  · have hlt : j < 26 := by have := (not_congr (nI_leI (a := 27) (b := j + 1) (by decide) (by omega))).mp h320; omega
    refine ev_aload_n dX6_init_323 rfl ?_
    refine ev_getq dX6_init_324 fl_X6_71 rfl hs hr ?_
    refine ev_iload_n dX6_init_327 rfl ?_
    refine ev_iconst (v := 5) dX6_init_328 rfl ?_
    refine ev_iast dX6_init_329 ha (j := j + 1) rfl (by omega) (by decide) ?_
    refine ev_iincN dX6_init_330 rfl (by decide) ?_
    refine ev_goto (tgt := 317) dX6_init_333 rfl ?_
    have q1 := ih hlt
    rw [← fl_s, Nat.add_comm 1 j] at q1
    exact q1
set_option maxRecDepth 100000 in
set_option maxHeartbeats 4000000 in
theorem t_X1_init {sh : SH} {mi : MI} {mr : MR} {q : Nat} (hS : st_c sh mi mr (q + 1)) (hs : sh[q]? = some (.inl 1)) (hz : ∀ j, mi q j = 0) : EV none 1 6 220 mX1_init 0 (en_l mX1_init [pv_r q]) [] sh mi mr (fun v_ sh_ mi_ mr_ => v_ = none ∧ sh_ = ((((((sh ++ [.inr (0, 30)]) ++ [.inr (0, 30)]) ++ [.inr (0, 30)]) ++ [.inr (0, 30)]) ++ [.inr (0, 50)]) ++ [.inr (0, 50)]) ∧ mi_ = mi ∧ mr_ = (up_2 (up_2 (up_2 (up_2 (up_2 (up_2 mr q 2 (some (q + 1))) q 3 (some (q + 2))) q 4 (some (q + 3))) q 5 (some (q + 4))) q 6 (some (q + 5))) q 7 (some (q + 6))) ∧ st_c sh_ mi_ mr_ (q + 7)) := by
  show EV none 1 6 220 mX1_init 0 [some (pv_r q)] [] sh mi mr _
  have H0 : mk_s sh mi mr q 1 (q + 1) [some (pv_r q)] := ⟨hS, hs, Nat.lt_succ_self q, (ok_lc (show q < q + 1 from Nat.lt_succ_self q) ok_ln), fun _ _ => trivial⟩
  refine ev_aload_n dX1_init_0 rfl ?_
  refine ev_objInit dX1_init_1 oi_X1_3 oi_w.1 oi_w.2 (by decide) (Nat.le_of_ble_eq_true rfl) ?_
  refine ev_aload_n dX1_init_4 rfl ?_
  refine ev_iconst (v := 0) dX1_init_5 rfl ?_
  refine ev_puti dX1_init_6 fl_X1_9 rfl rfl H0.2.1 ?_
  rw [up_id (show mi q 0 = (0 : Int32) from (hz 0))]
  refine ev_at (pc2 := 9) rfl ?_
  refine ev_aload_n dX1_init_9 rfl ?_
  refine ev_iconst (v := 0) dX1_init_10 rfl ?_
  refine ev_puti dX1_init_11 fl_X1_15 rfl rfl H0.2.1 ?_
  rw [up_id (show mi q 1 = (0 : Int32) from (hz 1))]
  refine ev_at (pc2 := 14) rfl ?_
  refine ev_aload_n dX1_init_14 rfl ?_
  refine ev_bipush (v := 30) dX1_init_15 rfl ?_
  refine ev_mk (N := 30) (mc1 := 5) (ms1 := 190) dX1_init_17 dX1_init_19 fl_X1_18 rfl (fun _ => rfl) (fun _ => rfl) rfl rfl rfl rfl (by decide) rfl rfl H0 ?_
  intro sh1 mr1 e1 f1 H1
  refine ev_at (pc2 := 22) rfl ?_
  refine ev_aload_n dX1_init_22 rfl ?_
  refine ev_bipush (v := 30) dX1_init_23 rfl ?_
  refine ev_mk (N := 30) (mc1 := 4) (ms1 := 160) dX1_init_25 dX1_init_27 fl_X1_22 rfl (fun _ => rfl) (fun _ => rfl) rfl rfl rfl rfl (by decide) rfl rfl H1 ?_
  intro sh2 mr2 e2 f2 H2
  refine ev_at (pc2 := 30) rfl ?_
  refine ev_aload_n dX1_init_30 rfl ?_
  refine ev_bipush (v := 30) dX1_init_31 rfl ?_
  refine ev_mk (N := 30) (mc1 := 3) (ms1 := 130) dX1_init_33 dX1_init_35 fl_X1_25 rfl (fun _ => rfl) (fun _ => rfl) rfl rfl rfl rfl (by decide) rfl rfl H2 ?_
  intro sh3 mr3 e3 f3 H3
  refine ev_at (pc2 := 38) rfl ?_
  refine ev_aload_n dX1_init_38 rfl ?_
  refine ev_bipush (v := 30) dX1_init_39 rfl ?_
  refine ev_mk (N := 30) (mc1 := 2) (ms1 := 100) dX1_init_41 dX1_init_43 fl_X1_28 rfl (fun _ => rfl) (fun _ => rfl) rfl rfl rfl rfl (by decide) rfl rfl H3 ?_
  intro sh4 mr4 e4 f4 H4
  refine ev_at (pc2 := 46) rfl ?_
  refine ev_aload_n dX1_init_46 rfl ?_
  refine ev_bipush (v := 50) dX1_init_47 rfl ?_
  refine ev_mk (N := 50) (mc1 := 1) (ms1 := 50) dX1_init_49 dX1_init_51 fl_X1_31 rfl (fun _ => rfl) (fun _ => rfl) rfl rfl rfl rfl (by decide) rfl rfl H4 ?_
  intro sh5 mr5 e5 f5 H5
  refine ev_at (pc2 := 54) rfl ?_
  refine ev_aload_n dX1_init_54 rfl ?_
  refine ev_bipush (v := 50) dX1_init_55 rfl ?_
  refine ev_mk (N := 50) (mc1 := 0) (ms1 := 0) dX1_init_57 dX1_init_59 fl_X1_34 rfl (fun _ => rfl) (fun _ => rfl) rfl rfl rfl rfl (by decide) rfl rfl H5 ?_
  intro sh6 mr6 e6 f6 H6
  refine ev_at (pc2 := 62) rfl ?_
  exact ev_return dX1_init_62 rfl ⟨rfl, (by rw [e6, e5, e4, e3, e2, e1]), rfl, (by rw [f6, f5, f4, f3, f2, f1]), H6.1⟩
set_option maxRecDepth 100000 in
set_option maxHeartbeats 4000000 in
theorem t_X2_init {sh : SH} {mi : MI} {mr : MR} {q : Nat} (hS : st_c sh mi mr (q + 1)) (hs : sh[q]? = some (.inl 2)) (hz : ∀ j, mi q j = 0) : EV none 1 9 124 mX2_init 0 (en_l mX2_init [pv_r q]) [] sh mi mr (fun v_ sh_ mi_ mr_ => v_ = none ∧ sh_ = (((((((((sh ++ [.inr (0, 7)]) ++ [.inr (0, 7)]) ++ [.inr (0, 35)]) ++ [.inr (0, 7)]) ++ [.inr (0, 7)]) ++ [.inr (0, 7)]) ++ [.inr (0, 7)]) ++ [.inr (0, 7)]) ++ [.inr (0, 40)]) ∧ mi_ = mi ∧ mr_ = (up_2 (up_2 (up_2 (up_2 (up_2 (up_2 (up_2 (up_2 (up_2 mr q 0 (some (q + 1))) q 1 (some (q + 2))) q 2 (some (q + 3))) q 3 (some (q + 4))) q 4 (some (q + 5))) q 5 (some (q + 6))) q 6 (some (q + 7))) q 7 (some (q + 8))) q 8 (some (q + 9))) ∧ st_c sh_ mi_ mr_ (q + 10)) := by
  show EV none 1 9 124 mX2_init 0 [some (pv_r q)] [] sh mi mr _
  have H0 : mk_s sh mi mr q 2 (q + 1) [some (pv_r q)] := ⟨hS, hs, Nat.lt_succ_self q, (ok_lc (show q < q + 1 from Nat.lt_succ_self q) ok_ln), fun _ _ => trivial⟩
  refine ev_aload_n dX2_init_0 rfl ?_
  refine ev_objInit dX2_init_1 oi_X2_3 oi_w.1 oi_w.2 (by decide) (Nat.le_of_ble_eq_true rfl) ?_
  refine ev_aload_n dX2_init_4 rfl ?_
  refine ev_bipush (v := 7) dX2_init_5 rfl ?_
  refine ev_mk (N := 7) (mc1 := 8) (ms1 := 117) dX2_init_7 dX2_init_9 fl_X2_9 rfl (fun _ => rfl) (fun _ => rfl) rfl rfl rfl rfl (by decide) rfl rfl H0 ?_
  intro sh1 mr1 e1 f1 H1
  refine ev_at (pc2 := 12) rfl ?_
  refine ev_aload_n dX2_init_12 rfl ?_
  refine ev_bipush (v := 7) dX2_init_13 rfl ?_
  refine ev_mk (N := 7) (mc1 := 7) (ms1 := 110) dX2_init_15 dX2_init_17 fl_X2_15 rfl (fun _ => rfl) (fun _ => rfl) rfl rfl rfl rfl (by decide) rfl rfl H1 ?_
  intro sh2 mr2 e2 f2 H2
  refine ev_at (pc2 := 20) rfl ?_
  refine ev_aload_n dX2_init_20 rfl ?_
  refine ev_bipush (v := 35) dX2_init_21 rfl ?_
  refine ev_mk (N := 35) (mc1 := 6) (ms1 := 75) dX2_init_23 dX2_init_25 fl_X2_18 rfl (fun _ => rfl) (fun _ => rfl) rfl rfl rfl rfl (by decide) rfl rfl H2 ?_
  intro sh3 mr3 e3 f3 H3
  refine ev_at (pc2 := 28) rfl ?_
  refine ev_aload_n dX2_init_28 rfl ?_
  refine ev_bipush (v := 7) dX2_init_29 rfl ?_
  refine ev_mk (N := 7) (mc1 := 5) (ms1 := 68) dX2_init_31 dX2_init_33 fl_X2_21 rfl (fun _ => rfl) (fun _ => rfl) rfl rfl rfl rfl (by decide) rfl rfl H3 ?_
  intro sh4 mr4 e4 f4 H4
  refine ev_at (pc2 := 36) rfl ?_
  refine ev_aload_n dX2_init_36 rfl ?_
  refine ev_bipush (v := 7) dX2_init_37 rfl ?_
  refine ev_mk (N := 7) (mc1 := 4) (ms1 := 61) dX2_init_39 dX2_init_41 fl_X2_24 rfl (fun _ => rfl) (fun _ => rfl) rfl rfl rfl rfl (by decide) rfl rfl H4 ?_
  intro sh5 mr5 e5 f5 H5
  refine ev_at (pc2 := 44) rfl ?_
  refine ev_aload_n dX2_init_44 rfl ?_
  refine ev_bipush (v := 7) dX2_init_45 rfl ?_
  refine ev_mk (N := 7) (mc1 := 3) (ms1 := 54) dX2_init_47 dX2_init_49 fl_X2_27 rfl (fun _ => rfl) (fun _ => rfl) rfl rfl rfl rfl (by decide) rfl rfl H5 ?_
  intro sh6 mr6 e6 f6 H6
  refine ev_at (pc2 := 52) rfl ?_
  refine ev_aload_n dX2_init_52 rfl ?_
  refine ev_bipush (v := 7) dX2_init_53 rfl ?_
  refine ev_mk (N := 7) (mc1 := 2) (ms1 := 47) dX2_init_55 dX2_init_57 fl_X2_30 rfl (fun _ => rfl) (fun _ => rfl) rfl rfl rfl rfl (by decide) rfl rfl H6 ?_
  intro sh7 mr7 e7 f7 H7
  refine ev_at (pc2 := 60) rfl ?_
  refine ev_aload_n dX2_init_60 rfl ?_
  refine ev_bipush (v := 7) dX2_init_61 rfl ?_
  refine ev_mk (N := 7) (mc1 := 1) (ms1 := 40) dX2_init_63 dX2_init_65 fl_X2_33 rfl (fun _ => rfl) (fun _ => rfl) rfl rfl rfl rfl (by decide) rfl rfl H7 ?_
  intro sh8 mr8 e8 f8 H8
  refine ev_at (pc2 := 68) rfl ?_
  refine ev_aload_n dX2_init_68 rfl ?_
  refine ev_bipush (v := 40) dX2_init_69 rfl ?_
  refine ev_mk (N := 40) (mc1 := 0) (ms1 := 0) dX2_init_71 dX2_init_73 fl_X2_36 rfl (fun _ => rfl) (fun _ => rfl) rfl rfl rfl rfl (by decide) rfl rfl H8 ?_
  intro sh9 mr9 e9 f9 H9
  refine ev_at (pc2 := 76) rfl ?_
  refine ev_aload_n dX2_init_76 rfl ?_
  refine ev_iconst (v := 0) dX2_init_77 rfl ?_
  refine ev_puti dX2_init_78 fl_X2_39 rfl rfl H9.2.1 ?_
  rw [up_id (show mi q 9 = (0 : Int32) from (hz 9))]
  refine ev_at (pc2 := 81) rfl ?_
  refine ev_aload_n dX2_init_81 rfl ?_
  refine ev_iconst (v := 0) dX2_init_82 rfl ?_
  refine ev_puti dX2_init_83 fl_X2_43 rfl rfl H9.2.1 ?_
  rw [up_id (show mi q 10 = (0 : Int32) from (hz 10))]
  refine ev_at (pc2 := 86) rfl ?_
  refine ev_aload_n dX2_init_86 rfl ?_
  refine ev_iconst (v := 0) dX2_init_87 rfl ?_
  refine ev_puti dX2_init_88 fl_X2_46 rfl rfl H9.2.1 ?_
  rw [up_id (show mi q 11 = (0 : Int32) from (hz 11))]
  refine ev_at (pc2 := 91) rfl ?_
  exact ev_return dX2_init_91 rfl ⟨rfl, (by rw [e9, e8, e7, e6, e5, e4, e3, e2, e1]), rfl, (by rw [f9, f8, f7, f6, f5, f4, f3, f2, f1]), H9.1⟩
set_option maxRecDepth 100000 in
set_option maxHeartbeats 4000000 in
theorem t_X4_init {sh : SH} {mi : MI} {mr : MR} {q : Nat} (hS : st_c sh mi mr (q + 1)) (hs : sh[q]? = some (.inl 4)) (hz : ∀ j, mi q j = 0) : EV none 1 8 441 mX4_init 0 (en_l mX4_init [pv_r q]) [] sh mi mr (fun v_ sh_ mi_ mr_ => v_ = none ∧ sh_ = ((((((((sh ++ [.inr (0, 27)]) ++ [.inr (0, 27)]) ++ [.inr (0, 6)]) ++ [.inr (0, 40)]) ++ [.inr (0, 27)]) ++ [.inr (0, 20)]) ++ [.inr (0, 147)]) ++ [.inr (0, 147)]) ∧ mi_ = (fl_r (up_2 (up_2 mi q 5 100) (q + 1) 0 3) (q + 1) 1 26 5) ∧ mr_ = (up_2 (up_2 (up_2 (up_2 (up_2 (up_2 (up_2 (up_2 mr q 0 (some (q + 1))) q 1 (some (q + 2))) q 2 (some (q + 3))) q 6 (some (q + 4))) q 7 (some (q + 5))) q 8 (some (q + 6))) q 9 (some (q + 7))) q 10 (some (q + 8))) ∧ st_c sh_ mi_ mr_ (q + 9)) := by
  show EV none 1 8 441 mX4_init 0 [some (pv_r q), none] [] sh mi mr _
  have H0 : mk_s sh mi mr q 4 (q + 1) [some (pv_r q), none] := ⟨hS, hs, Nat.lt_succ_self q, (ok_lc (show q < q + 1 from Nat.lt_succ_self q) (ok_lo ok_ln)), fun _ _ => trivial⟩
  refine ev_aload_n dX4_init_0 rfl ?_
  refine ev_objInit dX4_init_1 oi_X4_3 oi_w.1 oi_w.2 (by decide) (Nat.le_of_ble_eq_true rfl) ?_
  refine ev_aload_n dX4_init_4 rfl ?_
  refine ev_bipush (v := 27) dX4_init_5 rfl ?_
  refine ev_mk (N := 27) (mc1 := 7) (ms1 := 414) dX4_init_7 dX4_init_9 fl_X4_9 rfl (fun _ => rfl) (fun _ => rfl) rfl rfl rfl rfl (by decide) rfl rfl H0 ?_
  intro sh1 mr1 e1 f1 H1
  refine ev_at (pc2 := 12) rfl ?_
  refine ev_aload_n dX4_init_12 rfl ?_
  refine ev_bipush (v := 27) dX4_init_13 rfl ?_
  refine ev_mk (N := 27) (mc1 := 6) (ms1 := 387) dX4_init_15 dX4_init_17 fl_X4_15 rfl (fun _ => rfl) (fun _ => rfl) rfl rfl rfl rfl (by decide) rfl rfl H1 ?_
  intro sh2 mr2 e2 f2 H2
  refine ev_at (pc2 := 20) rfl ?_
  refine ev_aload_n dX4_init_20 rfl ?_
  refine ev_bipush (v := 6) dX4_init_21 rfl ?_
  refine ev_mk (N := 6) (mc1 := 5) (ms1 := 381) dX4_init_23 dX4_init_25 fl_X4_18 rfl (fun _ => rfl) (fun _ => rfl) rfl rfl rfl rfl (by decide) rfl rfl H2 ?_
  intro sh3 mr3 e3 f3 H3
  refine ev_at (pc2 := 28) rfl ?_
  refine ev_aload_n dX4_init_28 rfl ?_
  refine ev_iconst (v := 0) dX4_init_29 rfl ?_
  refine ev_puti dX4_init_30 fl_X4_21 rfl rfl H3.2.1 ?_
  rw [up_id (show mi q 3 = (0 : Int32) from (hz 3))]
  refine ev_at (pc2 := 33) rfl ?_
  refine ev_aload_n dX4_init_33 rfl ?_
  refine ev_iconst (v := 0) dX4_init_34 rfl ?_
  refine ev_puti dX4_init_35 fl_X4_25 rfl rfl H3.2.1 ?_
  rw [up_id (show mi q 4 = (0 : Int32) from (hz 4))]
  refine ev_at (pc2 := 38) rfl ?_
  refine ev_aload_n dX4_init_38 rfl ?_
  refine ev_bipush (v := 100) dX4_init_39 rfl ?_
  refine ev_puti dX4_init_41 fl_X4_28 rfl rfl H3.2.1 ?_
  replace H3 := mk_pi (j := 5) (x := 100) H3 H3.2.2.1
  refine ev_at (pc2 := 44) rfl ?_
  refine ev_aload_n dX4_init_44 rfl ?_
  refine ev_bipush (v := 40) dX4_init_45 rfl ?_
  refine ev_mk (N := 40) (mc1 := 4) (ms1 := 341) dX4_init_47 dX4_init_49 fl_X4_31 rfl (fun _ => rfl) (fun _ => rfl) rfl rfl rfl rfl (by decide) rfl rfl H3 ?_
  intro sh4 mr4 e4 f4 H4
  refine ev_at (pc2 := 52) rfl ?_
  refine ev_aload_n dX4_init_52 rfl ?_
  refine ev_bipush (v := 27) dX4_init_53 rfl ?_
  refine ev_mk (N := 27) (mc1 := 3) (ms1 := 314) dX4_init_55 dX4_init_57 fl_X4_34 rfl (fun _ => rfl) (fun _ => rfl) rfl rfl rfl rfl (by decide) rfl rfl H4 ?_
  intro sh5 mr5 e5 f5 H5
  refine ev_at (pc2 := 60) rfl ?_
  refine ev_aload_n dX4_init_60 rfl ?_
  refine ev_bipush (v := 20) dX4_init_61 rfl ?_
  refine ev_mk (N := 20) (mc1 := 2) (ms1 := 294) dX4_init_63 dX4_init_65 fl_X4_37 rfl (fun _ => rfl) (fun _ => rfl) rfl rfl rfl rfl (by decide) rfl rfl H5 ?_
  intro sh6 mr6 e6 f6 H6
  refine ev_at (pc2 := 68) rfl ?_
  refine ev_aload_n dX4_init_68 rfl ?_
  refine ev_sipush (v := 147) dX4_init_69 rfl ?_
  refine ev_mk (N := 147) (mc1 := 1) (ms1 := 147) dX4_init_72 dX4_init_74 fl_X4_40 rfl (fun _ => rfl) (fun _ => rfl) rfl rfl rfl rfl (by decide) rfl rfl H6 ?_
  intro sh7 mr7 e7 f7 H7
  refine ev_at (pc2 := 77) rfl ?_
  refine ev_aload_n dX4_init_77 rfl ?_
  refine ev_sipush (v := 147) dX4_init_78 rfl ?_
  refine ev_mk (N := 147) (mc1 := 0) (ms1 := 0) dX4_init_81 dX4_init_83 fl_X4_43 rfl (fun _ => rfl) (fun _ => rfl) rfl rfl rfl rfl (by decide) rfl rfl H7 ?_
  intro sh8 mr8 e8 f8 H8
  refine ev_at (pc2 := 86) rfl ?_
  refine ev_aload_n dX4_init_86 rfl ?_
  refine ev_iconst (v := 0) dX4_init_87 rfl ?_
  refine ev_puti dX4_init_88 fl_X4_46 rfl rfl H8.2.1 ?_
  rw [up_id (show (up_2 mi q 5 100) q 11 = (0 : Int32) from ((up_ne (Or.inr (by decide))).trans (hz 11)))]
  refine ev_at (pc2 := 91) rfl ?_
  refine ev_aload_n dX4_init_91 rfl ?_
  have hr : mr8 q 0 = some (q + 1) := by
    rw [f8, uq_ne (Or.inr (by decide))]
    rw [f7, uq_ne (Or.inr (by decide))]
    rw [f6, uq_ne (Or.inr (by decide))]
    rw [f5, uq_ne (Or.inr (by decide))]
    rw [f4, uq_ne (Or.inr (by decide))]
    rw [f3, uq_ne (Or.inr (by decide))]
    rw [f2, uq_ne (Or.inr (by decide))]
    rw [f1, uq_at]
  have ha : sh8[q + 1]? = some (.inr (0, 27)) := by
    rw [e8]
    refine lk_l ?_
    rw [e7]
    refine lk_l ?_
    rw [e6]
    refine lk_l ?_
    rw [e5]
    refine lk_l ?_
    rw [e4]
    refine lk_l ?_
    rw [e3]
    refine lk_l ?_
    rw [e2]
    refine lk_l ?_
    rw [e1]
    exact lk_n H0.1.1
  refine ev_getq dX4_init_92 fl_X4_9 rfl H8.2.1 hr ?_
  refine ev_iconst (v := 0) dX4_init_95 rfl ?_
  refine ev_iconst (v := 3) dX4_init_96 rfl ?_
  refine ev_iast dX4_init_97 ha (j := 0) rfl (by decide) (by decide) ?_
  refine ev_iconst (v := 1) dX4_init_98 rfl ?_
  refine ev_istore_n dX4_init_99 (by decide) ?_
  have q1 := lp_X4_init (mi := (up_2 (up_2 mi q 5 100) (q + 1) 0 3)) H8.2.1 hr ha 0 (by decide)
  rw [fl_0] at q1
  refine ev_post (fun v_ s_ m_ r_ h_ => ?_) q1
  exact ⟨h_.1, h_.2.1.trans (by rw [e8, e7, e6, e5, e4, e3, e2, e1]), h_.2.2.1, h_.2.2.2.trans (by rw [f8, f7, f6, f5, f4, f3, f2, f1]), by rw [h_.2.1, h_.2.2.1, h_.2.2.2]; exact st_fl (st_pi H8.1 (by omega)) (by omega)⟩
set_option maxRecDepth 100000 in
set_option maxHeartbeats 4000000 in
theorem t_X6_init {sh : SH} {mi : MI} {mr : MR} {q : Nat} (hS : st_c sh mi mr (q + 1)) (hs : sh[q]? = some (.inl 6)) (hz : ∀ j, mi q j = 0) : EV none 1 37 2718 mX6_init 0 (en_l mX6_init [pv_r q]) [] sh mi mr (fun v_ sh_ mi_ mr_ => v_ = none ∧ sh_ = (((((((((((((((((((((((((((((((((((((sh ++ [.inr (0, 10)]) ++ [.inr (0, 10)]) ++ [.inr (0, 60)]) ++ [.inr (0, 60)]) ++ [.inr (1, 60)]) ++ [.inr (0, 50)]) ++ [.inr (0, 50)]) ++ [.inr (0, 50)]) ++ [.inr (0, 10)]) ++ [.inr (0, 10)]) ++ [.inr (0, 10)]) ++ [.inr (0, 50)]) ++ [.inr (0, 50)]) ++ [.inr (0, 7)]) ++ [.inr (0, 7)]) ++ [.inr (0, 50)]) ++ [.inr (0, 10)]) ++ [.inr (0, 7)]) ++ [.inr (0, 7)]) ++ [.inr (0, 5)]) ++ [.inr (0, 27)]) ++ [.inr (0, 40)]) ++ [.inr (0, 20)]) ++ [.inr (0, 147)]) ++ [.inr (0, 6)]) ++ [.inr (0, 27)]) ++ [.inr (0, 6)]) ++ [.inr (0, 6)]) ++ [.inr (0, 6)]) ++ [.inr (0, 864)]) ++ [.inr (0, 6)]) ++ [.inr (0, 864)]) ++ [.inr (0, 6)]) ++ [.inr (0, 30)]) ++ [.inr (0, 30)]) ++ [.inr (0, 30)]) ++ [.inr (0, 30)]) ∧ mi_ = (fl_r (up_2 (up_2 mi q 33 100) (q + 21) 0 3) (q + 21) 1 26 5) ∧ mr_ = (up_2 (up_2 (up_2 (up_2 (up_2 (up_2 (up_2 (up_2 (up_2 (up_2 (up_2 (up_2 (up_2 (up_2 (up_2 (up_2 (up_2 (up_2 (up_2 (up_2 (up_2 (up_2 (up_2 (up_2 (up_2 (up_2 (up_2 (up_2 (up_2 (up_2 (up_2 (up_2 (up_2 (up_2 (up_2 (up_2 (up_2 mr q 2 (some (q + 1))) q 3 (some (q + 2))) q 4 (some (q + 3))) q 5 (some (q + 4))) q 6 (some (q + 5))) q 7 (some (q + 6))) q 8 (some (q + 7))) q 9 (some (q + 8))) q 10 (some (q + 9))) q 11 (some (q + 10))) q 12 (some (q + 11))) q 14 (some (q + 12))) q 15 (some (q + 13))) q 17 (some (q + 14))) q 18 (some (q + 15))) q 19 (some (q + 16))) q 20 (some (q + 17))) q 21 (some (q + 18))) q 22 (some (q + 19))) q 23 (some (q + 20))) q 24 (some (q + 21))) q 26 (some (q + 22))) q 28 (some (q + 23))) q 29 (some (q + 24))) q 31 (some (q + 25))) q 32 (some (q + 26))) q 35 (some (q + 27))) q 36 (some (q + 28))) q 37 (some (q + 29))) q 38 (some (q + 30))) q 39 (some (q + 31))) q 40 (some (q + 32))) q 41 (some (q + 33))) q 43 (some (q + 34))) q 44 (some (q + 35))) q 45 (some (q + 36))) q 46 (some (q + 37))) ∧ st_c sh_ mi_ mr_ (q + 38)) := by
  show EV none 1 37 2718 mX6_init 0 [some (pv_r q), none] [] sh mi mr _
  have H0 : mk_s sh mi mr q 6 (q + 1) [some (pv_r q), none] := ⟨hS, hs, Nat.lt_succ_self q, (ok_lc (show q < q + 1 from Nat.lt_succ_self q) (ok_lo ok_ln)), fun _ _ => trivial⟩
  refine ev_aload_n dX6_init_0 rfl ?_
  refine ev_objInit dX6_init_1 oi_X6_1 oi_w.1 oi_w.2 (by decide) (Nat.le_of_ble_eq_true rfl) ?_
  refine ev_aload_n dX6_init_4 rfl ?_
  refine ev_bipush (v := 10) dX6_init_5 rfl ?_
  refine ev_mk (N := 10) (mc1 := 36) (ms1 := 2708) dX6_init_7 dX6_init_9 fl_X6_7 rfl (fun _ => rfl) (fun _ => rfl) rfl rfl rfl rfl (by decide) rfl rfl H0 ?_
  intro sh1 mr1 e1 f1 H1
  refine ev_at (pc2 := 12) rfl ?_
  refine ev_aload_n dX6_init_12 rfl ?_
  refine ev_bipush (v := 10) dX6_init_13 rfl ?_
  refine ev_mk (N := 10) (mc1 := 35) (ms1 := 2698) dX6_init_15 dX6_init_17 fl_X6_13 rfl (fun _ => rfl) (fun _ => rfl) rfl rfl rfl rfl (by decide) rfl rfl H1 ?_
  intro sh2 mr2 e2 f2 H2
  refine ev_at (pc2 := 20) rfl ?_
  refine ev_aload_n dX6_init_20 rfl ?_
  refine ev_bipush (v := 60) dX6_init_21 rfl ?_
  refine ev_mk (N := 60) (mc1 := 34) (ms1 := 2638) dX6_init_23 dX6_init_25 fl_X6_16 rfl (fun _ => rfl) (fun _ => rfl) rfl rfl rfl rfl (by decide) rfl rfl H2 ?_
  intro sh3 mr3 e3 f3 H3
  refine ev_at (pc2 := 28) rfl ?_
  refine ev_aload_n dX6_init_28 rfl ?_
  refine ev_bipush (v := 60) dX6_init_29 rfl ?_
  refine ev_mk (N := 60) (mc1 := 33) (ms1 := 2578) dX6_init_31 dX6_init_33 fl_X6_19 rfl (fun _ => rfl) (fun _ => rfl) rfl rfl rfl rfl (by decide) rfl rfl H3 ?_
  intro sh4 mr4 e4 f4 H4
  refine ev_at (pc2 := 36) rfl ?_
  refine ev_aload_n dX6_init_36 rfl ?_
  refine ev_bipush (v := 60) dX6_init_37 rfl ?_
  refine ev_mkz (N := 60) (mc1 := 32) (ms1 := 2518) dX6_init_39 dX6_init_41 fl_X6_22 rfl (fun _ => rfl) (fun _ => rfl) rfl rfl rfl rfl (by decide) rfl rfl H4 ?_
  intro sh5 mr5 e5 f5 H5
  refine ev_at (pc2 := 44) rfl ?_
  refine ev_aload_n dX6_init_44 rfl ?_
  refine ev_bipush (v := 50) dX6_init_45 rfl ?_
  refine ev_mk (N := 50) (mc1 := 31) (ms1 := 2468) dX6_init_47 dX6_init_49 fl_X6_26 rfl (fun _ => rfl) (fun _ => rfl) rfl rfl rfl rfl (by decide) rfl rfl H5 ?_
  intro sh6 mr6 e6 f6 H6
  refine ev_at (pc2 := 52) rfl ?_
  refine ev_aload_n dX6_init_52 rfl ?_
  refine ev_bipush (v := 50) dX6_init_53 rfl ?_
  refine ev_mk (N := 50) (mc1 := 30) (ms1 := 2418) dX6_init_55 dX6_init_57 fl_X6_29 rfl (fun _ => rfl) (fun _ => rfl) rfl rfl rfl rfl (by decide) rfl rfl H6 ?_
  intro sh7 mr7 e7 f7 H7
  refine ev_at (pc2 := 60) rfl ?_
  refine ev_aload_n dX6_init_60 rfl ?_
  refine ev_bipush (v := 50) dX6_init_61 rfl ?_
  refine ev_mk (N := 50) (mc1 := 29) (ms1 := 2368) dX6_init_63 dX6_init_65 fl_X6_32 rfl (fun _ => rfl) (fun _ => rfl) rfl rfl rfl rfl (by decide) rfl rfl H7 ?_
  intro sh8 mr8 e8 f8 H8
  refine ev_at (pc2 := 68) rfl ?_
  refine ev_aload_n dX6_init_68 rfl ?_
  refine ev_bipush (v := 10) dX6_init_69 rfl ?_
  refine ev_mk (N := 10) (mc1 := 28) (ms1 := 2358) dX6_init_71 dX6_init_73 fl_X6_35 rfl (fun _ => rfl) (fun _ => rfl) rfl rfl rfl rfl (by decide) rfl rfl H8 ?_
  intro sh9 mr9 e9 f9 H9
  refine ev_at (pc2 := 76) rfl ?_
  refine ev_aload_n dX6_init_76 rfl ?_
  refine ev_bipush (v := 10) dX6_init_77 rfl ?_
  refine ev_mk (N := 10) (mc1 := 27) (ms1 := 2348) dX6_init_79 dX6_init_81 fl_X6_38 rfl (fun _ => rfl) (fun _ => rfl) rfl rfl rfl rfl (by decide) rfl rfl H9 ?_
  intro sh10 mr10 e10 f10 H10
  refine ev_at (pc2 := 84) rfl ?_
  refine ev_aload_n dX6_init_84 rfl ?_
  refine ev_bipush (v := 10) dX6_init_85 rfl ?_
  refine ev_mk (N := 10) (mc1 := 26) (ms1 := 2338) dX6_init_87 dX6_init_89 fl_X6_41 rfl (fun _ => rfl) (fun _ => rfl) rfl rfl rfl rfl (by decide) rfl rfl H10 ?_
  intro sh11 mr11 e11 f11 H11
  refine ev_at (pc2 := 92) rfl ?_
  refine ev_aload_n dX6_init_92 rfl ?_
  refine ev_bipush (v := 50) dX6_init_93 rfl ?_
  refine ev_mk (N := 50) (mc1 := 25) (ms1 := 2288) dX6_init_95 dX6_init_97 fl_X6_44 rfl (fun _ => rfl) (fun _ => rfl) rfl rfl rfl rfl (by decide) rfl rfl H11 ?_
  intro sh12 mr12 e12 f12 H12
  refine ev_at (pc2 := 100) rfl ?_
  refine ev_aload_n dX6_init_100 rfl ?_
  refine ev_bipush (v := 50) dX6_init_101 rfl ?_
  refine ev_mk (N := 50) (mc1 := 24) (ms1 := 2238) dX6_init_103 dX6_init_105 fl_X6_47 rfl (fun _ => rfl) (fun _ => rfl) rfl rfl rfl rfl (by decide) rfl rfl H12 ?_
  intro sh13 mr13 e13 f13 H13
  refine ev_at (pc2 := 108) rfl ?_
  refine ev_aload_n dX6_init_108 rfl ?_
  refine ev_bipush (v := 7) dX6_init_109 rfl ?_
  refine ev_mk (N := 7) (mc1 := 23) (ms1 := 2231) dX6_init_111 dX6_init_113 fl_X6_50 rfl (fun _ => rfl) (fun _ => rfl) rfl rfl rfl rfl (by decide) rfl rfl H13 ?_
  intro sh14 mr14 e14 f14 H14
  refine ev_at (pc2 := 116) rfl ?_
  refine ev_aload_n dX6_init_116 rfl ?_
  refine ev_bipush (v := 7) dX6_init_117 rfl ?_
  refine ev_mk (N := 7) (mc1 := 22) (ms1 := 2224) dX6_init_119 dX6_init_121 fl_X6_53 rfl (fun _ => rfl) (fun _ => rfl) rfl rfl rfl rfl (by decide) rfl rfl H14 ?_
  intro sh15 mr15 e15 f15 H15
  refine ev_at (pc2 := 124) rfl ?_
  refine ev_aload_n dX6_init_124 rfl ?_
  refine ev_bipush (v := 50) dX6_init_125 rfl ?_
  refine ev_mk (N := 50) (mc1 := 21) (ms1 := 2174) dX6_init_127 dX6_init_129 fl_X6_56 rfl (fun _ => rfl) (fun _ => rfl) rfl rfl rfl rfl (by decide) rfl rfl H15 ?_
  intro sh16 mr16 e16 f16 H16
  refine ev_at (pc2 := 132) rfl ?_
  refine ev_aload_n dX6_init_132 rfl ?_
  refine ev_bipush (v := 10) dX6_init_133 rfl ?_
  refine ev_mk (N := 10) (mc1 := 20) (ms1 := 2164) dX6_init_135 dX6_init_137 fl_X6_59 rfl (fun _ => rfl) (fun _ => rfl) rfl rfl rfl rfl (by decide) rfl rfl H16 ?_
  intro sh17 mr17 e17 f17 H17
  refine ev_at (pc2 := 140) rfl ?_
  refine ev_aload_n dX6_init_140 rfl ?_
  refine ev_bipush (v := 7) dX6_init_141 rfl ?_
  refine ev_mk (N := 7) (mc1 := 19) (ms1 := 2157) dX6_init_143 dX6_init_145 fl_X6_62 rfl (fun _ => rfl) (fun _ => rfl) rfl rfl rfl rfl (by decide) rfl rfl H17 ?_
  intro sh18 mr18 e18 f18 H18
  refine ev_at (pc2 := 148) rfl ?_
  refine ev_aload_n dX6_init_148 rfl ?_
  refine ev_bipush (v := 7) dX6_init_149 rfl ?_
  refine ev_mk (N := 7) (mc1 := 18) (ms1 := 2150) dX6_init_151 dX6_init_153 fl_X6_65 rfl (fun _ => rfl) (fun _ => rfl) rfl rfl rfl rfl (by decide) rfl rfl H18 ?_
  intro sh19 mr19 e19 f19 H19
  refine ev_at (pc2 := 156) rfl ?_
  refine ev_aload_n dX6_init_156 rfl ?_
  refine ev_iconst (v := 5) dX6_init_157 rfl ?_
  refine ev_mk (N := 5) (mc1 := 17) (ms1 := 2145) dX6_init_158 dX6_init_160 fl_X6_68 rfl (fun _ => rfl) (fun _ => rfl) rfl rfl rfl rfl (by decide) rfl rfl H19 ?_
  intro sh20 mr20 e20 f20 H20
  refine ev_at (pc2 := 163) rfl ?_
  refine ev_aload_n dX6_init_163 rfl ?_
  refine ev_bipush (v := 27) dX6_init_164 rfl ?_
  refine ev_mk (N := 27) (mc1 := 16) (ms1 := 2118) dX6_init_166 dX6_init_168 fl_X6_71 rfl (fun _ => rfl) (fun _ => rfl) rfl rfl rfl rfl (by decide) rfl rfl H20 ?_
  intro sh21 mr21 e21 f21 H21
  refine ev_at (pc2 := 171) rfl ?_
  refine ev_aload_n dX6_init_171 rfl ?_
  refine ev_bipush (v := 40) dX6_init_172 rfl ?_
  refine ev_mk (N := 40) (mc1 := 15) (ms1 := 2078) dX6_init_174 dX6_init_176 fl_X6_74 rfl (fun _ => rfl) (fun _ => rfl) rfl rfl rfl rfl (by decide) rfl rfl H21 ?_
  intro sh22 mr22 e22 f22 H22
  refine ev_at (pc2 := 179) rfl ?_
  refine ev_aload_n dX6_init_179 rfl ?_
  refine ev_bipush (v := 20) dX6_init_180 rfl ?_
  refine ev_mk (N := 20) (mc1 := 14) (ms1 := 2058) dX6_init_182 dX6_init_184 fl_X6_77 rfl (fun _ => rfl) (fun _ => rfl) rfl rfl rfl rfl (by decide) rfl rfl H22 ?_
  intro sh23 mr23 e23 f23 H23
  refine ev_at (pc2 := 187) rfl ?_
  refine ev_aload_n dX6_init_187 rfl ?_
  refine ev_sipush (v := 147) dX6_init_188 rfl ?_
  refine ev_mk (N := 147) (mc1 := 13) (ms1 := 1911) dX6_init_191 dX6_init_193 fl_X6_80 rfl (fun _ => rfl) (fun _ => rfl) rfl rfl rfl rfl (by decide) rfl rfl H23 ?_
  intro sh24 mr24 e24 f24 H24
  refine ev_at (pc2 := 196) rfl ?_
  refine ev_aload_n dX6_init_196 rfl ?_
  refine ev_bipush (v := 6) dX6_init_197 rfl ?_
  refine ev_mk (N := 6) (mc1 := 12) (ms1 := 1905) dX6_init_199 dX6_init_201 fl_X6_83 rfl (fun _ => rfl) (fun _ => rfl) rfl rfl rfl rfl (by decide) rfl rfl H24 ?_
  intro sh25 mr25 e25 f25 H25
  refine ev_at (pc2 := 204) rfl ?_
  refine ev_aload_n dX6_init_204 rfl ?_
  refine ev_bipush (v := 27) dX6_init_205 rfl ?_
  refine ev_mk (N := 27) (mc1 := 11) (ms1 := 1878) dX6_init_207 dX6_init_209 fl_X6_86 rfl (fun _ => rfl) (fun _ => rfl) rfl rfl rfl rfl (by decide) rfl rfl H25 ?_
  intro sh26 mr26 e26 f26 H26
  refine ev_at (pc2 := 212) rfl ?_
  refine ev_aload_n dX6_init_212 rfl ?_
  refine ev_bipush (v := 100) dX6_init_213 rfl ?_
  refine ev_puti dX6_init_215 fl_X6_89 rfl rfl H26.2.1 ?_
  replace H26 := mk_pi (j := 33) (x := 100) H26 H26.2.2.1
  refine ev_at (pc2 := 218) rfl ?_
  refine ev_aload_n dX6_init_218 rfl ?_
  refine ev_bipush (v := 6) dX6_init_219 rfl ?_
  refine ev_mk (N := 6) (mc1 := 10) (ms1 := 1872) dX6_init_221 dX6_init_223 fl_X6_93 rfl (fun _ => rfl) (fun _ => rfl) rfl rfl rfl rfl (by decide) rfl rfl H26 ?_
  intro sh27 mr27 e27 f27 H27
  refine ev_at (pc2 := 226) rfl ?_
  refine ev_aload_n dX6_init_226 rfl ?_
  refine ev_bipush (v := 6) dX6_init_227 rfl ?_
  refine ev_mk (N := 6) (mc1 := 9) (ms1 := 1866) dX6_init_229 dX6_init_231 fl_X6_96 rfl (fun _ => rfl) (fun _ => rfl) rfl rfl rfl rfl (by decide) rfl rfl H27 ?_
  intro sh28 mr28 e28 f28 H28
  refine ev_at (pc2 := 234) rfl ?_
  refine ev_aload_n dX6_init_234 rfl ?_
  refine ev_bipush (v := 6) dX6_init_235 rfl ?_
  refine ev_mk (N := 6) (mc1 := 8) (ms1 := 1860) dX6_init_237 dX6_init_239 fl_X6_99 rfl (fun _ => rfl) (fun _ => rfl) rfl rfl rfl rfl (by decide) rfl rfl H28 ?_
  intro sh29 mr29 e29 f29 H29
  refine ev_at (pc2 := 242) rfl ?_
  refine ev_aload_n dX6_init_242 rfl ?_
  refine ev_sipush (v := 864) dX6_init_243 rfl ?_
  refine ev_mk (N := 864) (mc1 := 7) (ms1 := 996) dX6_init_246 dX6_init_248 fl_X6_102 rfl (fun _ => rfl) (fun _ => rfl) rfl rfl rfl rfl (by decide) rfl rfl H29 ?_
  intro sh30 mr30 e30 f30 H30
  refine ev_at (pc2 := 251) rfl ?_
  refine ev_aload_n dX6_init_251 rfl ?_
  refine ev_bipush (v := 6) dX6_init_252 rfl ?_
  refine ev_mk (N := 6) (mc1 := 6) (ms1 := 990) dX6_init_254 dX6_init_256 fl_X6_105 rfl (fun _ => rfl) (fun _ => rfl) rfl rfl rfl rfl (by decide) rfl rfl H30 ?_
  intro sh31 mr31 e31 f31 H31
  refine ev_at (pc2 := 259) rfl ?_
  refine ev_aload_n dX6_init_259 rfl ?_
  refine ev_sipush (v := 864) dX6_init_260 rfl ?_
  refine ev_mk (N := 864) (mc1 := 5) (ms1 := 126) dX6_init_263 dX6_init_265 fl_X6_108 rfl (fun _ => rfl) (fun _ => rfl) rfl rfl rfl rfl (by decide) rfl rfl H31 ?_
  intro sh32 mr32 e32 f32 H32
  refine ev_at (pc2 := 268) rfl ?_
  refine ev_aload_n dX6_init_268 rfl ?_
  refine ev_bipush (v := 6) dX6_init_269 rfl ?_
  refine ev_mk (N := 6) (mc1 := 4) (ms1 := 120) dX6_init_271 dX6_init_273 fl_X6_111 rfl (fun _ => rfl) (fun _ => rfl) rfl rfl rfl rfl (by decide) rfl rfl H32 ?_
  intro sh33 mr33 e33 f33 H33
  refine ev_at (pc2 := 276) rfl ?_
  refine ev_aload_n dX6_init_276 rfl ?_
  refine ev_bipush (v := 30) dX6_init_277 rfl ?_
  refine ev_mk (N := 30) (mc1 := 3) (ms1 := 90) dX6_init_279 dX6_init_281 fl_X6_114 rfl (fun _ => rfl) (fun _ => rfl) rfl rfl rfl rfl (by decide) rfl rfl H33 ?_
  intro sh34 mr34 e34 f34 H34
  refine ev_at (pc2 := 284) rfl ?_
  refine ev_aload_n dX6_init_284 rfl ?_
  refine ev_bipush (v := 30) dX6_init_285 rfl ?_
  refine ev_mk (N := 30) (mc1 := 2) (ms1 := 60) dX6_init_287 dX6_init_289 fl_X6_117 rfl (fun _ => rfl) (fun _ => rfl) rfl rfl rfl rfl (by decide) rfl rfl H34 ?_
  intro sh35 mr35 e35 f35 H35
  refine ev_at (pc2 := 292) rfl ?_
  refine ev_aload_n dX6_init_292 rfl ?_
  refine ev_bipush (v := 30) dX6_init_293 rfl ?_
  refine ev_mk (N := 30) (mc1 := 1) (ms1 := 30) dX6_init_295 dX6_init_297 fl_X6_120 rfl (fun _ => rfl) (fun _ => rfl) rfl rfl rfl rfl (by decide) rfl rfl H35 ?_
  intro sh36 mr36 e36 f36 H36
  refine ev_at (pc2 := 300) rfl ?_
  refine ev_aload_n dX6_init_300 rfl ?_
  refine ev_bipush (v := 30) dX6_init_301 rfl ?_
  refine ev_mk (N := 30) (mc1 := 0) (ms1 := 0) dX6_init_303 dX6_init_305 fl_X6_123 rfl (fun _ => rfl) (fun _ => rfl) rfl rfl rfl rfl (by decide) rfl rfl H36 ?_
  intro sh37 mr37 e37 f37 H37
  refine ev_at (pc2 := 308) rfl ?_
  refine ev_aload_n dX6_init_308 rfl ?_
  have hr : mr37 q 24 = some (q + 21) := by
    rw [f37, uq_ne (Or.inr (by decide))]
    rw [f36, uq_ne (Or.inr (by decide))]
    rw [f35, uq_ne (Or.inr (by decide))]
    rw [f34, uq_ne (Or.inr (by decide))]
    rw [f33, uq_ne (Or.inr (by decide))]
    rw [f32, uq_ne (Or.inr (by decide))]
    rw [f31, uq_ne (Or.inr (by decide))]
    rw [f30, uq_ne (Or.inr (by decide))]
    rw [f29, uq_ne (Or.inr (by decide))]
    rw [f28, uq_ne (Or.inr (by decide))]
    rw [f27, uq_ne (Or.inr (by decide))]
    rw [f26, uq_ne (Or.inr (by decide))]
    rw [f25, uq_ne (Or.inr (by decide))]
    rw [f24, uq_ne (Or.inr (by decide))]
    rw [f23, uq_ne (Or.inr (by decide))]
    rw [f22, uq_ne (Or.inr (by decide))]
    rw [f21, uq_at]
  have ha : sh37[q + 21]? = some (.inr (0, 27)) := by
    rw [e37]
    refine lk_l ?_
    rw [e36]
    refine lk_l ?_
    rw [e35]
    refine lk_l ?_
    rw [e34]
    refine lk_l ?_
    rw [e33]
    refine lk_l ?_
    rw [e32]
    refine lk_l ?_
    rw [e31]
    refine lk_l ?_
    rw [e30]
    refine lk_l ?_
    rw [e29]
    refine lk_l ?_
    rw [e28]
    refine lk_l ?_
    rw [e27]
    refine lk_l ?_
    rw [e26]
    refine lk_l ?_
    rw [e25]
    refine lk_l ?_
    rw [e24]
    refine lk_l ?_
    rw [e23]
    refine lk_l ?_
    rw [e22]
    refine lk_l ?_
    rw [e21]
    exact lk_n H20.1.1
  refine ev_getq dX6_init_309 fl_X6_71 rfl H37.2.1 hr ?_
  refine ev_iconst (v := 0) dX6_init_312 rfl ?_
  refine ev_iconst (v := 3) dX6_init_313 rfl ?_
  refine ev_iast dX6_init_314 ha (j := 0) rfl (by decide) (by decide) ?_
  refine ev_iconst (v := 1) dX6_init_315 rfl ?_
  refine ev_istore_n dX6_init_316 (by decide) ?_
  have q1 := lp_X6_init (mi := (up_2 (up_2 mi q 33 100) (q + 21) 0 3)) H37.2.1 hr ha 0 (by decide)
  rw [fl_0] at q1
  refine ev_post (fun v_ s_ m_ r_ h_ => ?_) q1
  exact ⟨h_.1, h_.2.1.trans (by rw [e37, e36, e35, e34, e33, e32, e31, e30, e29, e28, e27, e26, e25, e24, e23, e22, e21, e20, e19, e18, e17, e16, e15, e14, e13, e12, e11, e10, e9, e8, e7, e6, e5, e4, e3, e2, e1]), h_.2.2.1, h_.2.2.2.trans (by rw [f37, f36, f35, f34, f33, f32, f31, f30, f29, f28, f27, f26, f25, f24, f23, f22, f21, f20, f19, f18, f17, f16, f15, f14, f13, f12, f11, f10, f9, f8, f7, f6, f5, f4, f3, f2, f1]), by rw [h_.2.1, h_.2.2.1, h_.2.2.2]; exact st_fl (st_pi H37.1 (by omega)) (by omega)⟩
