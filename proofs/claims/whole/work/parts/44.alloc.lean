theorem ok_sn {n : Nat} : ok_s n [] := fun v hv => by cases hv
theorem ok_sc {n : Nat} {v : PV} {S : List PV} (h : ok_v n v) (hS : ok_s n S) : ok_s n (v :: S) := fun w hw => by
  rcases List.mem_cons.mp hw with e | e
  · rw [e]; exact h
  · exact hS w e
theorem ok_ln {n : Nat} : ok_l n [] := fun k v hv => by simp at hv
theorem ok_lo {n : Nat} {L : List (Option PV)} (hL : ok_l n L) : ok_l n (none :: L) := fun k v hv => by
  cases k with
  | zero => simp at hv
  | succ k => exact hL k v (by simpa using hv)
theorem ok_lc {n : Nat} {w : PV} {L : List (Option PV)} (h : ok_v n w) (hL : ok_l n L) : ok_l n (some w :: L) := fun k v hv => by
  cases k with
  | zero =>
    have : w = v := by simpa using hv
    rw [← this]; exact h
  | succ k => exact hL k v (by simpa using hv)
theorem ok_mn {n m : Nat} {mr : MR} (h : n ≤ m) (hm : ok_m n mr) : ok_m m mr := fun k j r e => Nat.lt_of_lt_of_le (hm k j r e) h
theorem ok_up {n k j r : Nat} {mr : MR} (hm : ok_m n mr) (h : r < n) : ok_m n (up_2 mr k j (some r)) := fun a c x e => by
  simp only [up_2] at e
  split at e
  · cases e; exact h
  · exact hm a c x e
theorem up_id {m : MI} {k j : Nat} {x : Int32} (h : m k j = x) : up_2 m k j x = m := by
  funext a c
  simp only [up_2]
  split
  · rename_i e
    rw [e.1, e.2, h]
  · rfl
theorem zr_up {z a b : Nat} {x : Int32} {mi : MI} (h : ∀ k, z ≤ k → ∀ j, mi k j = 0) (ha : a < z) : ∀ k, z ≤ k → ∀ j, up_2 mi a b x k j = 0 := fun k hk j => by
  rw [up_ne (Or.inl (by omega))]
  exact h k hk j
theorem zq_up {z a b : Nat} {x : Option Nat} {mr : MR} (h : ∀ k, z ≤ k → ∀ j, mr k j = none) (ha : a < z) : ∀ k, z ≤ k → ∀ j, up_2 mr a b x k j = none := fun k hk j => by
  simp only [up_2]
  rw [if_neg (by omega)]
  exact h k hk j
theorem lk_l {sh l : SH} {k : Nat} {s : Nat ⊕ (Nat × Nat)} (h : sh[k]? = some s) : (sh ++ l)[k]? = some s := by
  rw [List.getElem?_append_left]
  · exact h
  · exact (List.getElem?_eq_some_iff.mp h).1
theorem ln_s {sh : SH} {s : Nat ⊕ (Nat × Nat)} {n m : Nat} (h : sh.length = n) (e : n + 1 = m) : (sh ++ [s]).length = m := by
  rw [List.length_append, h]
  exact e
theorem uq_at {mr : MR} {k j : Nat} {v : Option Nat} : up_2 mr k j v k j = v := by simp [up_2]
theorem uq_ne {mr : MR} {k j a c : Nat} {v : Option Nat} (h : a ≠ k ∨ c ≠ j) : up_2 mr k j v a c = mr a c := by
  simp only [up_2]
  rw [if_neg (by omega)]
theorem lk_n {sh : SH} {q : Nat} {s : Nat ⊕ (Nat × Nat)} (h : sh.length = q) : (sh ++ [s])[q]? = some s := by
  subst h
  simp
theorem ev_at {X : Option (Nat × (Nat → Int32))} {d mc ms : Nat} {M : MD} {pc pc2 : Nat} {L : List (Option PV)} {S : List PV} {sh : SH} {mi : MI} {mr : MR} {Po : PO} (h : pc = pc2) (kk : EV X d mc ms M pc2 L S sh mi mr Po) : EV X d mc ms M pc L S sh mi mr Po := by
  subst h
  exact kk
theorem ev_mo {X : Option (Nat × (Nat → Int32))} {d d2 mc mc2 ms ms2 : Nat} {M : MD} {pc : Nat} {L : List (Option PV)} {S : List PV} {sh : SH} {mi : MI} {mr : MR} {Po : PO} (h : EV X d mc ms M pc L S sh mi mr Po) (h1 : d ≤ d2) (h2 : mc ≤ mc2) (h3 : ms ≤ ms2) : EV X d2 mc2 ms2 M pc L S sh mi mr Po := by
  intro p l e R s mid args below meth c D cA A b Q ad H locs cells slots ls hC hX hR hW hl hr2
  exact h p l e R s mid args below meth c D cA A b Q ad H locs cells slots ls hC hX ⟨by omega, by omega, by omega, by omega⟩ hW hl (fun v sh2 mi2 mr2 ad2 H2 locs2 cells2 slots2 pc2 ls2 a1 a2 a3 a4 a5 => hr2 v sh2 mi2 mr2 ad2 H2 locs2 cells2 slots2 pc2 ls2 a1 a2 a3 ⟨by omega, by omega⟩ a5)
section NEW2
variable {X : Option (Nat × (Nat → Int32))} {d mc ms : Nat} {M : MD} {pc : Nat} {L : List (Option PV)} {S : List PV} {sh : SH} {mi : MI} {mr : MR} {Po : PO}
theorem ev_newi2 {N mc1 ms1 q : Nat} {n : Int32} (hd : decode M.2.1 pc = .ok (.newarray .int, 2)) (hw : Cond.arrayClass .int ∈ tb_w) (hn : n = nI N) (hN : N < 4096) (hq : sh.length = q) (hS : ok_s q S) (hL : ok_l q L) (hm : ok_m q mr) (hz : ∀ j, mi q j = 0) (hmc : mc1 + 1 = mc) (hms : ms1 + N = ms) (kk : EV X d mc1 ms1 M (pc + 2) L (pv_r q :: S) (sh ++ [.inr (0, N)]) mi mr Po) : EV X d mc ms M pc L (pv_i n :: S) sh mi mr Po := by
  subst hq
  exact ev_newi hd hw hn hN hS hL hm hz hmc hms kk
theorem ev_newz2 {N mc1 ms1 q : Nat} {n : Int32} (hd : decode M.2.1 pc = .ok (.newarray .boolean, 2)) (hw : Cond.arrayClass .boolean ∈ tb_w) (hn : n = nI N) (hN : N < 4096) (hq : sh.length = q) (hS : ok_s q S) (hL : ok_l q L) (hm : ok_m q mr) (hz : ∀ j, mi q j = 0) (hmc : mc1 + 1 = mc) (hms : ms1 + N = ms) (kk : EV X d mc1 ms1 M (pc + 2) L (pv_r q :: S) (sh ++ [.inr (1, N)]) mi mr Po) : EV X d mc ms M pc L (pv_i n :: S) sh mi mr Po := by
  subst hq
  exact ev_newz hd hw hn hN hS hL hm hz hmc hms kk
theorem ev_newq2 {N mc1 ms1 t idx q : Nat} {C : String} {n : Int32} (hd : decode M.2.1 pc = .ok (.anewarray idx, 3)) (hw : Cond.classLink M.1.cls idx C ∈ tb_w) (htc : (t = 0 ∧ C = "Bindery$Book") ∨ (t = 1 ∧ C = "Bindery$Skin")) (hn : n = nI N) (hN : N < 4096) (hq : sh.length = q) (hS : ok_s q S) (hL : ok_l q L) (hm : ok_m q mr) (hz : ∀ j, mr q j = none) (hmc : mc1 + 1 = mc) (hms : ms1 + N = ms) (kk : EV X d mc1 ms1 M (pc + 3) L (pv_r q :: S) (sh ++ [.inr (t + 2, N)]) mi mr Po) : EV X d mc ms M pc L (pv_i n :: S) sh mi mr Po := by
  subst hq
  exact ev_newq hd hw htc hn hN hS hL hm hz hmc hms kk
theorem ev_new2 {ci idx mc1 ms1 q : Nat} (hd : decode M.2.1 pc = .ok (.new idx, 3)) (hci : ci < 7) (hw1 : Cond.classLink M.1.cls idx (cl_R ci) ∈ tb_w) (hw2 : Cond.instantiable (cl_R ci) (cl_n ci) ∈ tb_w) (hw3 : Cond.initialized (cl_R ci) ∈ tb_w) (hq : sh.length = q) (hS : ok_s q S) (hL : ok_l q L) (hm : ok_m q mr) (hz : ∀ j, mi q j = 0) (hzr : ∀ j, mr q j = none) (hmc : mc1 + 1 = mc) (hms : ms1 + cl_n ci = ms) (hdv : ∀ j, j < cl_n ci → defaultValue (cl_ty ci j) = if cl_ref ci j = true then .null else .int 0) (kk : EV X d mc1 ms1 M (pc + 3) L (pv_r q :: S) (sh ++ [.inl ci]) mi mr Po) : EV X d mc ms M pc L S sh mi mr Po := by
  subst hq
  exact ev_new hd hci hw1 hw2 hw3 hS hL hm hz hzr hmc hms hdv kk
end NEW2
theorem dv_0 : ∀ j, j < cl_n 0 → defaultValue (cl_ty 0 j) = if cl_ref 0 j = true then .null else .int 0 := fun j hj => by
  have hj2 : j < 11 := hj
  match j, hj2 with
  | 0, _ => rfl
  | 1, _ => rfl
  | 2, _ => rfl
  | 3, _ => rfl
  | 4, _ => rfl
  | 5, _ => rfl
  | 6, _ => rfl
  | 7, _ => rfl
  | 8, _ => rfl
  | 9, _ => rfl
  | 10, _ => rfl
theorem dv_1 : ∀ j, j < cl_n 1 → defaultValue (cl_ty 1 j) = if cl_ref 1 j = true then .null else .int 0 := fun j hj => by
  have hj2 : j < 8 := hj
  match j, hj2 with
  | 0, _ => rfl
  | 1, _ => rfl
  | 2, _ => rfl
  | 3, _ => rfl
  | 4, _ => rfl
  | 5, _ => rfl
  | 6, _ => rfl
  | 7, _ => rfl
theorem dv_2 : ∀ j, j < cl_n 2 → defaultValue (cl_ty 2 j) = if cl_ref 2 j = true then .null else .int 0 := fun j hj => by
  have hj2 : j < 12 := hj
  match j, hj2 with
  | 0, _ => rfl
  | 1, _ => rfl
  | 2, _ => rfl
  | 3, _ => rfl
  | 4, _ => rfl
  | 5, _ => rfl
  | 6, _ => rfl
  | 7, _ => rfl
  | 8, _ => rfl
  | 9, _ => rfl
  | 10, _ => rfl
  | 11, _ => rfl
theorem dv_3 : ∀ j, j < cl_n 3 → defaultValue (cl_ty 3 j) = if cl_ref 3 j = true then .null else .int 0 := fun j hj => by
  have hj2 : j < 6 := hj
  match j, hj2 with
  | 0, _ => rfl
  | 1, _ => rfl
  | 2, _ => rfl
  | 3, _ => rfl
  | 4, _ => rfl
  | 5, _ => rfl
theorem dv_4 : ∀ j, j < cl_n 4 → defaultValue (cl_ty 4 j) = if cl_ref 4 j = true then .null else .int 0 := fun j hj => by
  have hj2 : j < 12 := hj
  match j, hj2 with
  | 0, _ => rfl
  | 1, _ => rfl
  | 2, _ => rfl
  | 3, _ => rfl
  | 4, _ => rfl
  | 5, _ => rfl
  | 6, _ => rfl
  | 7, _ => rfl
  | 8, _ => rfl
  | 9, _ => rfl
  | 10, _ => rfl
  | 11, _ => rfl
theorem dv_5 : ∀ j, j < cl_n 5 → defaultValue (cl_ty 5 j) = if cl_ref 5 j = true then .null else .int 0 := fun j hj => by
  have hj2 : j < 8 := hj
  match j, hj2 with
  | 0, _ => rfl
  | 1, _ => rfl
  | 2, _ => rfl
  | 3, _ => rfl
  | 4, _ => rfl
  | 5, _ => rfl
  | 6, _ => rfl
  | 7, _ => rfl
theorem dv_6 : ∀ j, j < cl_n 6 → defaultValue (cl_ty 6 j) = if cl_ref 6 j = true then .null else .int 0 := fun j hj => by
  have hj2 : j < 47 := hj
  match j, hj2 with
  | 0, _ => rfl
  | 1, _ => rfl
  | 2, _ => rfl
  | 3, _ => rfl
  | 4, _ => rfl
  | 5, _ => rfl
  | 6, _ => rfl
  | 7, _ => rfl
  | 8, _ => rfl
  | 9, _ => rfl
  | 10, _ => rfl
  | 11, _ => rfl
  | 12, _ => rfl
  | 13, _ => rfl
  | 14, _ => rfl
  | 15, _ => rfl
  | 16, _ => rfl
  | 17, _ => rfl
  | 18, _ => rfl
  | 19, _ => rfl
  | 20, _ => rfl
  | 21, _ => rfl
  | 22, _ => rfl
  | 23, _ => rfl
  | 24, _ => rfl
  | 25, _ => rfl
  | 26, _ => rfl
  | 27, _ => rfl
  | 28, _ => rfl
  | 29, _ => rfl
  | 30, _ => rfl
  | 31, _ => rfl
  | 32, _ => rfl
  | 33, _ => rfl
  | 34, _ => rfl
  | 35, _ => rfl
  | 36, _ => rfl
  | 37, _ => rfl
  | 38, _ => rfl
  | 39, _ => rfl
  | 40, _ => rfl
  | 41, _ => rfl
  | 42, _ => rfl
  | 43, _ => rfl
  | 44, _ => rfl
  | 45, _ => rfl
  | 46, _ => rfl
  | k + 47, h => exact absurd h (by omega)
set_option maxRecDepth 100000 in
set_option maxHeartbeats 4000000 in
theorem lp_X0_init {sh : SH} {mi : MI} {mr : MR} {q : Nat} (hk : bk_c sh mr q) : ∀ i, i ≤ 5 → EV none 1 0 0 mX0_init 75 [some (pv_r q), some (pv_i (nI i))] [] sh (fl_r mi (q + 5) 0 i 1) mr (fun v_ sh_ mi_ mr_ => v_ = none ∧ sh_ = sh ∧ mi_ = fl_r mi (q + 5) 0 5 1 ∧ mr_ = mr) := by
  refine lp_i 5 (fun i hi ih => ?_)
  refine ev_iload_n dX0_init_75 rfl ?_
  refine ev_iconst (v := 5) dX0_init_76 rfl ?_
  refine ev_icmp_ge (tgt := 93) dX0_init_77 rfl (fun h77 => ?_) (fun h77 => ?_)
  · have hin : i = 5 := by have := (nl_le n_5 rfl (by omega) (by omega)).mp h77; omega
    subst hin
    exact ev_return dX0_init_93 rfl ⟨rfl, rfl, rfl, rfl⟩
  · have hlt : i < 5 := by have := (not_congr (nl_le n_5 rfl (by omega) (by omega))).mp h77; omega
    refine ev_aload_n dX0_init_80 rfl ?_
    refine ev_getq dX0_init_81 fl_X0_24 rfl hk.1 hk.2.1.2.2.2.2 ?_
    refine ev_iload_n dX0_init_84 rfl ?_
    refine ev_iconst (v := 1) dX0_init_85 rfl ?_
    refine ev_iast dX0_init_86 hk.2.2.2.2.2.2 (j := i) rfl (by omega) (by decide) ?_
    refine ev_iincN dX0_init_87 rfl (by decide) ?_
    refine ev_goto (tgt := 75) dX0_init_90 rfl ?_
    have q1 := ih hlt
    rw [← fl_s, Nat.zero_add] at q1
    exact q1
set_option maxRecDepth 100000 in
set_option maxHeartbeats 4000000 in
theorem t_X0_init {sh : SH} {mi : MI} {mr : MR} {q : Nat} (hs : sh[q]? = some (.inl 0)) (hn : sh.length = q + 1) (hm : ok_m (q + 1) mr) (hz : ∀ k, q ≤ k → ∀ j, mi k j = 0) (hzr : ∀ k, q + 1 ≤ k → ∀ j, mr k j = none)  : EV none 1 5 27 mX0_init 0 (en_l mX0_init [pv_r q]) [] sh mi mr (fun v_ sh_ mi_ mr_ => v_ = none ∧ sh_ = (((((sh ++ [.inr (0, 6)]) ++ [.inr (0, 6)]) ++ [.inr (0, 5)]) ++ [.inr (0, 5)]) ++ [.inr (0, 5)]) ∧ mi_ = fl_r (up_2 mi q 9 2000) (q + 5) 0 5 1 ∧ mr_ = (up_2 (up_2 (up_2 (up_2 (up_2 mr q 0 (some (q + 1))) q 1 (some (q + 2))) q 2 (some (q + 3))) q 3 (some (q + 4))) q 4 (some (q + 5)))) := by
  show EV none 1 5 27 mX0_init 0 [some (pv_r q), none] [] sh mi mr _
  refine ev_aload_n dX0_init_0 rfl ?_
  refine ev_objInit dX0_init_1 oi_X0_3 oi_w.1 oi_w.2 (by decide) (Nat.le_of_ble_eq_true rfl) ?_
  refine ev_aload_n dX0_init_4 rfl ?_
  refine ev_bipush (v := 6) dX0_init_5 rfl ?_
  refine ev_newi2 (N := 6) (q := (q + 1)) (mc1 := 4) (ms1 := 21) dX0_init_7 ar_w.1 rfl (by decide) hn (ok_sc (show q < (q + 1) from (Nat.add_lt_add_left (by decide : 0 < 1) q)) ok_sn) (ok_lc (show q < (q + 1) from (Nat.add_lt_add_left (by decide : 0 < 1) q)) (ok_lo ok_ln)) hm (fun j => (hz _ (Nat.add_le_add_left (by decide : 0 ≤ 1) q) j)) rfl rfl ?_
  have hn1 := ln_s (s := .inr (0, 6)) (m := (q + 2)) hn rfl
  have hs1 := lk_l (l := [.inr (0, 6)]) hs
  have hm1 := ok_mn (m := (q + 2)) (Nat.add_le_add_left (by decide : 1 ≤ 2) q) hm
  refine ev_putFq dX0_init_9 fl_X0_9 rfl (fun _ => rfl) (fun _ => rfl) rfl rfl rfl hs1 ?_
  have hm2 := ok_up (k := q) (j := 0) hm1 (show (q + 1) < (q + 2) from (Nat.add_lt_add_left (by decide : 1 < 2) q))
  have hr2 := zq_up (z := (q + 1)) (a := q) (b := 0) (x := some (q + 1)) hzr (Nat.add_lt_add_left (by decide : 0 < 1) q)
  refine ev_at (pc2 := 12) rfl ?_
  refine ev_aload_n dX0_init_12 rfl ?_
  refine ev_bipush (v := 6) dX0_init_13 rfl ?_
  refine ev_newi2 (N := 6) (q := (q + 2)) (mc1 := 3) (ms1 := 15) dX0_init_15 ar_w.1 rfl (by decide) hn1 (ok_sc (show q < (q + 2) from (Nat.add_lt_add_left (by decide : 0 < 2) q)) ok_sn) (ok_lc (show q < (q + 2) from (Nat.add_lt_add_left (by decide : 0 < 2) q)) (ok_lo ok_ln)) hm2 (fun j => (hz _ (Nat.add_le_add_left (by decide : 0 ≤ 2) q) j)) rfl rfl ?_
  have hn2 := ln_s (s := .inr (0, 6)) (m := (q + 3)) hn1 rfl
  have hs2 := lk_l (l := [.inr (0, 6)]) hs1
  have hm3 := ok_mn (m := (q + 3)) (Nat.add_le_add_left (by decide : 2 ≤ 3) q) hm2
  refine ev_putFq dX0_init_17 fl_X0_15 rfl (fun _ => rfl) (fun _ => rfl) rfl rfl rfl hs2 ?_
  have hm4 := ok_up (k := q) (j := 1) hm3 (show (q + 2) < (q + 3) from (Nat.add_lt_add_left (by decide : 2 < 3) q))
  have hr4 := zq_up (z := (q + 1)) (a := q) (b := 1) (x := some (q + 2)) hr2 (Nat.add_lt_add_left (by decide : 0 < 1) q)
  refine ev_at (pc2 := 20) rfl ?_
  refine ev_aload_n dX0_init_20 rfl ?_
  refine ev_iconst (v := 5) dX0_init_21 rfl ?_
  refine ev_newi2 (N := 5) (q := (q + 3)) (mc1 := 2) (ms1 := 10) dX0_init_22 ar_w.1 rfl (by decide) hn2 (ok_sc (show q < (q + 3) from (Nat.add_lt_add_left (by decide : 0 < 3) q)) ok_sn) (ok_lc (show q < (q + 3) from (Nat.add_lt_add_left (by decide : 0 < 3) q)) (ok_lo ok_ln)) hm4 (fun j => (hz _ (Nat.add_le_add_left (by decide : 0 ≤ 3) q) j)) rfl rfl ?_
  have hn3 := ln_s (s := .inr (0, 5)) (m := (q + 4)) hn2 rfl
  have hs3 := lk_l (l := [.inr (0, 5)]) hs2
  have hm5 := ok_mn (m := (q + 4)) (Nat.add_le_add_left (by decide : 3 ≤ 4) q) hm4
  refine ev_putFq dX0_init_24 fl_X0_18 rfl (fun _ => rfl) (fun _ => rfl) rfl rfl rfl hs3 ?_
  have hm6 := ok_up (k := q) (j := 2) hm5 (show (q + 3) < (q + 4) from (Nat.add_lt_add_left (by decide : 3 < 4) q))
  have hr6 := zq_up (z := (q + 1)) (a := q) (b := 2) (x := some (q + 3)) hr4 (Nat.add_lt_add_left (by decide : 0 < 1) q)
  refine ev_at (pc2 := 27) rfl ?_
  refine ev_aload_n dX0_init_27 rfl ?_
  refine ev_iconst (v := 5) dX0_init_28 rfl ?_
  refine ev_newi2 (N := 5) (q := (q + 4)) (mc1 := 1) (ms1 := 5) dX0_init_29 ar_w.1 rfl (by decide) hn3 (ok_sc (show q < (q + 4) from (Nat.add_lt_add_left (by decide : 0 < 4) q)) ok_sn) (ok_lc (show q < (q + 4) from (Nat.add_lt_add_left (by decide : 0 < 4) q)) (ok_lo ok_ln)) hm6 (fun j => (hz _ (Nat.add_le_add_left (by decide : 0 ≤ 4) q) j)) rfl rfl ?_
  have hn4 := ln_s (s := .inr (0, 5)) (m := (q + 5)) hn3 rfl
  have hs4 := lk_l (l := [.inr (0, 5)]) hs3
  have hm7 := ok_mn (m := (q + 5)) (Nat.add_le_add_left (by decide : 4 ≤ 5) q) hm6
  refine ev_putFq dX0_init_31 fl_X0_21 rfl (fun _ => rfl) (fun _ => rfl) rfl rfl rfl hs4 ?_
  have hm8 := ok_up (k := q) (j := 3) hm7 (show (q + 4) < (q + 5) from (Nat.add_lt_add_left (by decide : 4 < 5) q))
  have hr8 := zq_up (z := (q + 1)) (a := q) (b := 3) (x := some (q + 4)) hr6 (Nat.add_lt_add_left (by decide : 0 < 1) q)
  refine ev_at (pc2 := 34) rfl ?_
  refine ev_aload_n dX0_init_34 rfl ?_
  refine ev_iconst (v := 5) dX0_init_35 rfl ?_
  refine ev_newi2 (N := 5) (q := (q + 5)) (mc1 := 0) (ms1 := 0) dX0_init_36 ar_w.1 rfl (by decide) hn4 (ok_sc (show q < (q + 5) from (Nat.add_lt_add_left (by decide : 0 < 5) q)) ok_sn) (ok_lc (show q < (q + 5) from (Nat.add_lt_add_left (by decide : 0 < 5) q)) (ok_lo ok_ln)) hm8 (fun j => (hz _ (Nat.add_le_add_left (by decide : 0 ≤ 5) q) j)) rfl rfl ?_
  have hn5 := ln_s (s := .inr (0, 5)) (m := (q + 6)) hn4 rfl
  have hs5 := lk_l (l := [.inr (0, 5)]) hs4
  have hm9 := ok_mn (m := (q + 6)) (Nat.add_le_add_left (by decide : 5 ≤ 6) q) hm8
  refine ev_putFq dX0_init_38 fl_X0_24 rfl (fun _ => rfl) (fun _ => rfl) rfl rfl rfl hs5 ?_
  have hm10 := ok_up (k := q) (j := 4) hm9 (show (q + 5) < (q + 6) from (Nat.add_lt_add_left (by decide : 5 < 6) q))
  have hr10 := zq_up (z := (q + 1)) (a := q) (b := 4) (x := some (q + 5)) hr8 (Nat.add_lt_add_left (by decide : 0 < 1) q)
  refine ev_at (pc2 := 41) rfl ?_
  refine ev_aload_n dX0_init_41 rfl ?_
  refine ev_iconst (v := 0) dX0_init_42 rfl ?_
  refine ev_puti dX0_init_43 fl_X0_27 rfl rfl hs5 ?_
  rw [up_id (show mi q 5 = (0 : Int32) from (hz _ (Nat.add_le_add_left (by decide : 0 ≤ 0) q) 5))]
  refine ev_at (pc2 := 46) rfl ?_
  refine ev_aload_n dX0_init_46 rfl ?_
  refine ev_iconst (v := 0) dX0_init_47 rfl ?_
  refine ev_puti dX0_init_48 fl_X0_31 rfl rfl hs5 ?_
  rw [up_id (show mi q 6 = (0 : Int32) from (hz _ (Nat.add_le_add_left (by decide : 0 ≤ 0) q) 6))]
  refine ev_at (pc2 := 51) rfl ?_
  refine ev_aload_n dX0_init_51 rfl ?_
  refine ev_iconst (v := 0) dX0_init_52 rfl ?_
  refine ev_puti dX0_init_53 fl_X0_34 rfl rfl hs5 ?_
  rw [up_id (show mi q 7 = (0 : Int32) from (hz _ (Nat.add_le_add_left (by decide : 0 ≤ 0) q) 7))]
  refine ev_at (pc2 := 56) rfl ?_
  refine ev_aload_n dX0_init_56 rfl ?_
  refine ev_iconst (v := 0) dX0_init_57 rfl ?_
  refine ev_puti dX0_init_58 fl_X0_37 rfl rfl hs5 ?_
  rw [up_id (show mi q 8 = (0 : Int32) from (hz _ (Nat.add_le_add_left (by decide : 0 ≤ 0) q) 8))]
  refine ev_at (pc2 := 61) rfl ?_
  refine ev_aload_n dX0_init_61 rfl ?_
  refine ev_sipush (v := 2000) dX0_init_62 rfl ?_
  refine ev_puti dX0_init_65 fl_X0_40 rfl rfl hs5 ?_
  refine ev_at (pc2 := 68) rfl ?_
  refine ev_aload_n dX0_init_68 rfl ?_
  refine ev_iconst (v := 0) dX0_init_69 rfl ?_
  refine ev_puti dX0_init_70 fl_X0_43 rfl rfl hs5 ?_
  rw [up_id (show (up_2 mi q 9 2000) q 10 = (0 : Int32) from ((up_ne (Or.inr (by decide))).trans (hz _ (Nat.add_le_add_left (by decide : 0 ≤ 0) q) 10)))]
  refine ev_at (pc2 := 73) rfl ?_
  refine ev_iconst (v := 0) dX0_init_73 rfl ?_
  refine ev_istore_n dX0_init_74 (by decide) ?_
  have hbk : bk_c (((((sh ++ [.inr (0, 6)]) ++ [.inr (0, 6)]) ++ [.inr (0, 5)]) ++ [.inr (0, 5)]) ++ [.inr (0, 5)]) (up_2 (up_2 (up_2 (up_2 (up_2 mr q 0 (some (q + 1))) q 1 (some (q + 2))) q 2 (some (q + 3))) q 3 (some (q + 4))) q 4 (some (q + 5))) q := ⟨hs5, ⟨((uq_ne (j := 4) (c := 0) (Or.inr (by decide))).trans ((uq_ne (j := 3) (c := 0) (Or.inr (by decide))).trans ((uq_ne (j := 2) (c := 0) (Or.inr (by decide))).trans ((uq_ne (j := 1) (c := 0) (Or.inr (by decide))).trans uq_at)))), ((uq_ne (j := 4) (c := 1) (Or.inr (by decide))).trans ((uq_ne (j := 3) (c := 1) (Or.inr (by decide))).trans ((uq_ne (j := 2) (c := 1) (Or.inr (by decide))).trans uq_at))), ((uq_ne (j := 4) (c := 2) (Or.inr (by decide))).trans ((uq_ne (j := 3) (c := 2) (Or.inr (by decide))).trans uq_at)), ((uq_ne (j := 4) (c := 3) (Or.inr (by decide))).trans uq_at), uq_at⟩, (lk_l (lk_l (lk_l (lk_l (lk_n hn))))), (lk_l (lk_l (lk_l (lk_n hn1)))), (lk_l (lk_l (lk_n hn2))), (lk_l (lk_n hn3)), (lk_n hn4)⟩
  have q1 := lp_X0_init (mi := (up_2 mi q 9 2000)) hbk 0 (by decide)
  rw [fl_0] at q1
  exact q1
set_option maxRecDepth 100000 in
set_option maxHeartbeats 4000000 in
theorem t_X3_init {sh : SH} {mi : MI} {mr : MR} {q : Nat} (hs : sh[q]? = some (.inl 3)) (hn : sh.length = q + 1) (hm : ok_m (q + 1) mr) (hz : ∀ k, q ≤ k → ∀ j, mi k j = 0) (hzr : ∀ k, q + 1 ≤ k → ∀ j, mr k j = none) (W H : Nat) (hW : W ≤ 12) (hH : H ≤ 12) (p3 : Int32) : EV none 1 1 144 mX3_init 0 (en_l mX3_init [pv_r q, pv_i (nI W), pv_i (nI H), pv_i p3]) [] sh mi mr (fun v_ sh_ mi_ mr_ => v_ = none ∧ sh_ = (sh ++ [.inr (0, (W * H))]) ∧ mi_ = (up_2 (up_2 (up_2 mi q 1 (nI W)) q 2 (nI H)) q 0 p3) ∧ mr_ = (up_2 mr q 3 (some (q + 1)))) := by
  show EV none 1 1 144 mX3_init 0 [some (pv_r q), some (pv_i (nI W)), some (pv_i (nI H)), some (pv_i p3)] [] sh mi mr _
  refine ev_aload_n dX3_init_0 rfl ?_
  refine ev_objInit dX3_init_1 oi_X3_3 oi_w.1 oi_w.2 (by decide) (Nat.le_of_ble_eq_true rfl) ?_
  refine ev_aload_n dX3_init_4 rfl ?_
  refine ev_iconst (v := 0) dX3_init_5 rfl ?_
  refine ev_puti dX3_init_6 fl_X3_9 rfl rfl hs ?_
  rw [up_id (show mi q 4 = (0 : Int32) from (hz _ (Nat.add_le_add_left (by decide : 0 ≤ 0) q) 4))]
  refine ev_at (pc2 := 9) rfl ?_
  refine ev_aload_n dX3_init_9 rfl ?_
  refine ev_iconst (v := 0) dX3_init_10 rfl ?_
  refine ev_puti dX3_init_11 fl_X3_15 rfl rfl hs ?_
  rw [up_id (show mi q 5 = (0 : Int32) from (hz _ (Nat.add_le_add_left (by decide : 0 ≤ 0) q) 5))]
  refine ev_at (pc2 := 14) rfl ?_
  refine ev_aload_n dX3_init_14 rfl ?_
  refine ev_iload_n dX3_init_15 rfl ?_
  refine ev_putFi dX3_init_16 fl_X3_18 rfl rfl rfl rfl hs ?_
  refine ev_at (pc2 := 19) rfl ?_
  refine ev_aload_n dX3_init_19 rfl ?_
  refine ev_iload_n dX3_init_20 rfl ?_
  refine ev_putFi dX3_init_21 fl_X3_21 rfl rfl rfl rfl hs ?_
  refine ev_at (pc2 := 24) rfl ?_
  refine ev_aload_n dX3_init_24 rfl ?_
  refine ev_iload_n dX3_init_25 rfl ?_
  refine ev_putFi dX3_init_26 fl_X3_24 rfl rfl rfl rfl hs ?_
  refine ev_at (pc2 := 29) rfl ?_
  refine ev_aload_n dX3_init_29 rfl ?_
  refine ev_iload_n dX3_init_30 rfl ?_
  refine ev_iload_n dX3_init_31 rfl ?_
  refine ev_imul dX3_init_32 ?_
  refine ev_newi2 (N := (W * H)) (q := (q + 1)) (mc1 := 0) (ms1 := (144 - W * H)) dX3_init_33 ar_w.1 (pk_mul W H) (by have : W * H ≤ 12 * 12 := Nat.mul_le_mul hW hH; omega) hn (ok_sc (show q < (q + 1) from (Nat.add_lt_add_left (by decide : 0 < 1) q)) ok_sn) (ok_lc (show q < (q + 1) from (Nat.add_lt_add_left (by decide : 0 < 1) q)) (ok_lc trivial (ok_lc trivial (ok_lc trivial ok_ln)))) hm (fun j => ((up_ne (Or.inl (Nat.ne_of_gt (Nat.add_lt_add_left (by decide : 0 < 1) q)))).trans ((up_ne (Or.inl (Nat.ne_of_gt (Nat.add_lt_add_left (by decide : 0 < 1) q)))).trans ((up_ne (Or.inl (Nat.ne_of_gt (Nat.add_lt_add_left (by decide : 0 < 1) q)))).trans (hz _ (Nat.add_le_add_left (by decide : 0 ≤ 1) q) j))))) rfl (by have : W * H ≤ 12 * 12 := Nat.mul_le_mul hW hH; omega) ?_
  have hn1 := ln_s (s := .inr (0, (W * H))) (m := (q + 2)) hn rfl
  have hs1 := lk_l (l := [.inr (0, (W * H))]) hs
  have hm1 := ok_mn (m := (q + 2)) (Nat.add_le_add_left (by decide : 1 ≤ 2) q) hm
  refine ev_putFq dX3_init_35 fl_X3_27 rfl (fun _ => rfl) (fun _ => rfl) rfl rfl rfl hs1 ?_
  have hm2 := ok_up (k := q) (j := 3) hm1 (show (q + 1) < (q + 2) from (Nat.add_lt_add_left (by decide : 1 < 2) q))
  have hr2 := zq_up (z := (q + 1)) (a := q) (b := 3) (x := some (q + 1)) hzr (Nat.add_lt_add_left (by decide : 0 < 1) q)
  refine ev_at (pc2 := 38) rfl ?_
  exact ev_return dX3_init_38 rfl ⟨rfl, rfl, rfl, rfl⟩
