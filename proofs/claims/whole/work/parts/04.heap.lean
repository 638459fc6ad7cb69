def cl_R (ci : Nat) : String := match ci with
  | 0 => RX0
  | 1 => RX1
  | 2 => RX2
  | 3 => RX3
  | 4 => RX4
  | 5 => RX5
  | _ => RX6
def cl_T (ci : Nat) : u_T := match ci with
  | 0 => TX0
  | 1 => TX1
  | 2 => TX2
  | 3 => TX3
  | 4 => TX4
  | 5 => TX5
  | _ => TX6
theorem cl_cl : ∀ ci, ci < 7 → vwCl[ci]? = some (cl_R ci, cl_T ci, cl_n ci) := by
  intro ci h
  match ci, h with
  | 0, _ => rfl
  | 1, _ => rfl
  | 2, _ => rfl
  | 3, _ => rfl
  | 4, _ => rfl
  | 5, _ => rfl
  | 6, _ => rfl
  | n + 7, h => omega
set_option maxRecDepth 100000 in
theorem cl_in0 : ∀ w ∈ u_ws RX0 TX0 11, w ∈ tb_w := by decide +kernel
set_option maxRecDepth 100000 in
theorem cl_in1 : ∀ w ∈ u_ws RX1 TX1 8, w ∈ tb_w := by decide +kernel
set_option maxRecDepth 100000 in
theorem cl_in2 : ∀ w ∈ u_ws RX2 TX2 12, w ∈ tb_w := by decide +kernel
set_option maxRecDepth 100000 in
theorem cl_in3 : ∀ w ∈ u_ws RX3 TX3 6, w ∈ tb_w := by decide +kernel
set_option maxRecDepth 100000 in
theorem cl_in4 : ∀ w ∈ u_ws RX4 TX4 12, w ∈ tb_w := by decide +kernel
set_option maxRecDepth 100000 in
theorem cl_in5 : ∀ w ∈ u_ws RX5 TX5 8, w ∈ tb_w := by decide +kernel
set_option maxRecDepth 100000 in
theorem cl_in6 : ∀ w ∈ u_ws RX6 TX6 47, w ∈ tb_w := by decide +kernel
theorem cl_in : ∀ ci, ci < 7 → ∀ w ∈ u_ws (cl_R ci) (cl_T ci) (cl_n ci), w ∈ tb_w := by
  intro ci h
  match ci, h with
  | 0, _ => exact cl_in0
  | 1, _ => exact cl_in1
  | 2, _ => exact cl_in2
  | 3, _ => exact cl_in3
  | 4, _ => exact cl_in4
  | 5, _ => exact cl_in5
  | 6, _ => exact cl_in6
  | n + 7, h => omega
theorem cl_tyok : ∀ ci, ci < 7 → ∀ k, k < cl_n ci → parseFieldDescriptor (cl_T ci k).2.2.1 = some (cl_ty ci k) := by
  intro ci h
  match ci, h with
  | 0, _ => exact tyX0_ok
  | 1, _ => exact tyX1_ok
  | 2, _ => exact tyX2_ok
  | 3, _ => exact tyX3_ok
  | 4, _ => exact tyX4_ok
  | 5, _ => exact tyX5_ok
  | 6, _ => exact tyX6_ok
  | n + 7, h => omega
theorem cl_nm : ∀ ci, ci < 7 → ∀ a, a < cl_n ci → ∀ b, b < cl_n ci → a ≠ b → (cl_T ci a).2.1 ≠ (cl_T ci b).2.1 := by
  intro ci h
  match ci, h with
  | 0, _ => exact nmX0
  | 1, _ => exact nmX1
  | 2, _ => exact nmX2
  | 3, _ => exact nmX3
  | 4, _ => exact nmX4
  | 5, _ => exact nmX5
  | 6, _ => exact nmX6
  | n + 7, h => omega
/-- a field that an instruction names -/
def fl_c (own : String) (idx ci j : Nat) : Prop := ci < 7 ∧ j < cl_n ci ∧ Cond.fieldLink own idx (cl_T ci j).1 (cl_T ci j).2.1 (cl_T ci j).2.2.1 ∈ tb_w
theorem cl_int {t : FieldType} (h : cl_rf t = false) : t = .int := by
  cases t <;> first | rfl | cases h
theorem ty_at {cA : Nat → ClassId} {t : Nat} (h : t < 4) : (ce_tys cA)[t]? = some (cA t, ce_ty t) := by
  match t, h with
  | 0, _ => rfl
  | 1, _ => rfl
  | 2, _ => rfl
  | 3, _ => rfl
  | n + 4, h => omega
theorem ce_fs_set {ad : Nat → Nat} {mi mi2 : MI} {mr mr2 : MR} {k ci j : Nat} {v : Value} (hv : ce_v ad mi2 mr2 k ci j = v) (ho : ∀ i, i ≠ j → ce_v ad mi2 mr2 k ci i = ce_v ad mi mr k ci i) : (ce_fs ad mi mr k ci).set j v = ce_fs ad mi2 mr2 k ci := by
  apply List.ext_getElem?
  intro i
  by_cases hn : i < cl_n ci
  · rw [ce_fs_at hn]
    by_cases hi : i = j
    · subst hi
      rw [List.getElem?_set_self (by rw [ce_fs_len]; exact hn), hv]
    · rw [List.getElem?_set_ne (Ne.symm hi), ce_fs_at hn, ho i hi]
  · rw [List.getElem?_eq_none (by simp [ce_fs_len]; omega), List.getElem?_eq_none (by rw [ce_fs_len]; omega)]
theorem ce_put_i {cA : Nat → ClassId} {ad : Nat → Nat} {sh : SH} {mi : MI} {mr : MR} {k ci j : Nat} {x : Int32} (hs : sh[k]? = some (.inl ci)) (hr : cl_ref ci j = false) : (ce_ws cA ad sh mi mr).set k (ad k, .inr (ci, (ce_fs ad mi mr k ci).set j (.int x))) = ce_ws cA ad sh (up_2 mi k j x) mr := by
  refine ce_set hs (fun i hi => up_2_row hi) (fun i hi => rfl) ?_
  simp only [ce_at]
  rw [ce_fs_set (mi2 := up_2 mi k j x) (mr2 := mr)]
  · simp [ce_v, hr, up_2]
  · intro i hi
    simp [ce_v, up_2, hi]
theorem ce_put_q {cA : Nat → ClassId} {ad : Nat → Nat} {sh : SH} {mi : MI} {mr : MR} {k ci j : Nat} {r : Option Nat} (hs : sh[k]? = some (.inl ci)) (hr : cl_ref ci j = true) : (ce_ws cA ad sh mi mr).set k (ad k, .inr (ci, (ce_fs ad mi mr k ci).set j (va_rf (r.map ad)))) = ce_ws cA ad sh mi (up_2 mr k j r) := by
  refine ce_set hs (fun i hi => rfl) (fun i hi => up_2_row hi) ?_
  simp only [ce_at]
  rw [ce_fs_set (mi2 := mi) (mr2 := up_2 mr k j r)]
  · simp [ce_v, hr, up_2]
  · intro i hi
    simp [ce_v, up_2, hi]
theorem ce_st_i {cA : Nat → ClassId} {ad : Nat → Nat} {sh : SH} {mi : MI} {mr : MR} {k t n j : Nat} {x : Int32} (hs : sh[k]? = some (.inr (t, n))) (ht : t < 2) : (ce_ws cA ad sh mi mr).set k (ad k, .inl (cA t, n, .inl (upd (mi k) j x))) = ce_ws cA ad sh (up_2 mi k j x) mr := by
  refine ce_set hs (fun i hi => up_2_row hi) (fun i hi => rfl) ?_
  have hu : upd (mi k) j x = up_2 mi k j x k := by
    funext i
    simp [upd, up_2]
  rw [hu]
  match t, ht with
  | 0, _ => rfl
  | 1, _ => rfl
theorem ce_st_q {cA : Nat → ClassId} {ad : Nat → Nat} {sh : SH} {mi : MI} {mr : MR} {k t n j : Nat} {v : Nat} (hs : sh[k]? = some (.inr (t + 2, n))) : (ce_ws cA ad sh mi mr).set k (ad k, .inl (cA (t + 2), n, .inr (.inr (.inr (.inr (va_up (fun j => (mr k j).map ad) j (some (ad v)))))))) = ce_ws cA ad sh mi (up_2 mr k j (some v)) := by
  refine ce_set hs (fun i hi => rfl) (fun i hi => up_2_row hi) ?_
  have hu : va_up (fun j => (mr k j).map ad) j (some (ad v)) = fun i => (up_2 mr k j (some v) k i).map ad := by
    funext i
    by_cases hi : i = j
    · simp [va_up, up_2, hi]
    · simp [va_up, up_2, hi]
  rw [hu]
  rfl
theorem in_nI {i : Int32} {j n : Nat} (hi : i = nI j) (hj : j < n) (hn : n < 2 ^ 31) : vp_in i n ∧ i.toNatClampNeg = j := by
  subst hi
  exact ⟨vp_in_nI hj hn, nI_clamp (by omega)⟩
/-- references that are in range -/
def ok_v (n : Nat) (v : PV) : Prop := match v with
  | .inr (.inl (some k)) => k < n
  | _ => True
def ok_s (n : Nat) (S : List PV) : Prop := ∀ v ∈ S, ok_v n v
def ok_l (n : Nat) (L : List (Option PV)) : Prop := ∀ (k : Nat) (v : PV), L[k]? = some (some v) → ok_v n v
def ok_m (n : Nat) (mr : MR) : Prop := ∀ k j r, mr k j = some r → r < n
theorem pm_ok {n b : Nat} {ad ad2 : Nat → Nat} {v : PV} (h : ∀ i, i < n → ad2 i = ad i) (hv : ok_v n v) : pm_v b ad2 v = pm_v b ad v := by
  rcases v with x | (_ | r) | x
  · rfl
  · rfl
  · simp only [pm_v, Option.map_some]
    rw [h r hv]
  · rfl
theorem ps_ok {n b : Nat} {ad ad2 : Nat → Nat} {S : List PV} (h : ∀ i, i < n → ad2 i = ad i) (hv : ok_s n S) : S.map (pm_v b ad2) = S.map (pm_v b ad) := List.map_congr_left (fun v hm => pm_ok h (hv v hm))
theorem pl_ok {n b m : Nat} {ad ad2 : Nat → Nat} {L : List (Option PV)} {ls : Array Slot} (h : ∀ i, i < n → ad2 i = ad i) (hv : ok_l n L) (hl : lh_c ls m b ad L) : lh_c ls m b ad2 L := ⟨hl.1, hl.2.1, fun k v hk => by rw [pm_ok h (hv k v hk)]; exact hl.2.2 k v hk⟩
theorem ce_ok {n : Nat} {cA : Nat → ClassId} {ad ad2 : Nat → Nat} {mi : MI} {mr : MR} {k : Nat} {s : Nat ⊕ (Nat × Nat)} (h : ∀ i, i < n → ad2 i = ad i) (hm : ok_m n mr) : ce_at cA ad2 mi mr k s = ce_at cA ad mi mr k s := by
  have hq : ∀ j, (mr k j).map ad2 = (mr k j).map ad := by
    intro j
    cases hr : mr k j with
    | none => rfl
    | some r => simp [h r (hm k j r hr)]
  rcases s with ci | ⟨t, m⟩
  · simp only [ce_at, ce_fs]
    congr 2
    refine List.map_congr_left (fun j _ => ?_)
    simp [ce_v, hq]
  · simp only [ce_at, ce_ar, hq]
/-- a cell more -/
theorem ce_push {cA : Nat → ClassId} {ad : Nat → Nat} {sh : SH} {mi : MI} {mr : MR} {s : Nat ⊕ (Nat × Nat)} {q : Nat} {w : va_E} (hm : ok_m sh.length mr) (hw : w = ce_at cA ad mi mr sh.length s) : ce_ws cA ad sh mi mr ++ [(q, w)] = ce_ws cA (va_up ad sh.length q) (sh ++ [s]) mi mr := by
  have h : ∀ i, i < sh.length → va_up ad sh.length q i = ad i := fun i hi => by simp [va_up, Nat.ne_of_lt hi]
  subst hw
  apply List.ext_getElem?
  intro i
  simp only [ce_ws, List.getElem?_mapIdx]
  by_cases hi : i < sh.length
  · rw [List.getElem?_append_left (by simpa using hi), List.getElem?_append_left hi]
    simp only [List.getElem?_mapIdx]
    have hs : sh[i]? = some sh[i] := List.getElem?_eq_getElem hi
    rw [hs]
    simp [h i hi, ce_ok (cA := cA) (mi := mi) h hm]
  · by_cases he : i = sh.length
    · subst he
      simp [va_up, ce_ok (cA := cA) (mi := mi) h hm]
    · rw [List.getElem?_eq_none (by simp; omega), List.getElem?_eq_none (by simp; omega)]
      rfl
theorem ex_push {sh : SH} {ad : Nat → Nat} {s : Nat ⊕ (Nat × Nat)} {q : Nat} : ex_c sh ad (sh ++ [s]) (va_up ad sh.length q) :=
  ⟨by simp, fun i hi => by simp [va_up, Nat.ne_of_lt hi], fun h => by simp at h⟩
theorem st_sum {b : Nat} {ad : Nat → Nat} {S : List PV} : ((S.map (pm_v b ad)).map fun v => v.category).sum = S.length := by
  induction S with
  | nil => rfl
  | cons v S ih =>
    simp only [List.map_cons, List.sum_cons, List.length_cons, pm_cat]
    rw [ih]
    omega
section EVH
variable {X : Option (Nat × (Nat → Int32))} {d mc ms : Nat} {M : MD} {pc : Nat} {L : List (Option PV)} {S : List PV} {sh : SH} {mi : MI} {mr : MR} {Po : PO}
theorem ev_geti {k ci j idx : Nat} (hd : decode M.2.1 pc = .ok (.getfield idx, 3)) (hf : fl_c M.1.cls idx ci j) (hr : cl_ref ci j = false) (hs : sh[k]? = some (.inl ci)) (kk : EV X d mc ms M (pc + 3) L (pv_i (mi k j) :: S) sh mi mr Po) : EV X d mc ms M pc L (pv_r k :: S) sh mi mr Po :=
  ev_lift (fun _ _ _ _ _ _ _ _ _ _ _ _ _ _ _ _ _ _ _ _ _ hC _ hW _ kk => va_get hC.1 hC.2.1 hC.2.2.2.2.2.1 (cl_in ci hf.1) hC.2.2.2.2.1 hC.2.2.2.2.2.2.2.2.1.1 hW.1 k (ce_get hs) (cl_cl ci hf.1) j hf.2.1 (hC.2.2.2.2.2.1 _ hf.2.2) (fun _ h => h) (by rw [ce_fs_at hf.2.1]; simp only [ce_v, hr]; rfl) hd kk) kk
theorem ev_getq {k ci j idx : Nat} (hd : decode M.2.1 pc = .ok (.getfield idx, 3)) (hf : fl_c M.1.cls idx ci j) (hr : cl_ref ci j = true) (hs : sh[k]? = some (.inl ci)) {r : Option Nat} (hq : mr k j = r) (kk : EV X d mc ms M (pc + 3) L (pv_q r :: S) sh mi mr Po) : EV X d mc ms M pc L (pv_r k :: S) sh mi mr Po :=
  ev_lift (fun _ _ _ _ _ _ _ _ _ _ _ _ _ _ _ _ _ ad _ _ _ hC _ hW _ kk => va_get hC.1 hC.2.1 hC.2.2.2.2.2.1 (cl_in ci hf.1) hC.2.2.2.2.1 hC.2.2.2.2.2.2.2.2.1.1 hW.1 k (ce_get hs) (cl_cl ci hf.1) j hf.2.1 (hC.2.2.2.2.2.1 _ hf.2.2) (fun _ h => h) (v := va_rf (r.map ad)) (by rw [ce_fs_at hf.2.1]; simp only [ce_v, hr, hq]; rfl) hd kk) kk
theorem ev_puti {k ci j idx : Nat} {x : Int32} (hd : decode M.2.1 pc = .ok (.putfield idx, 3)) (hf : fl_c M.1.cls idx ci j) (hr : cl_ref ci j = false) (hfin : (cl_T ci j).2.2.2 = false) (hs : sh[k]? = some (.inl ci)) (kk : EV X d mc ms M (pc + 3) L S sh (up_2 mi k j x) mr Po) : EV X d mc ms M pc L (pv_i x :: pv_r k :: S) sh mi mr Po := by
  intro p l e R s mid args below meth c D cA A b Q ad H locs cells slots ls hC hX hR hW hl hr2
  have hty : cl_ty ci j = .int := cl_int hr
  refine va_put (ty := .int) (v := .int x) hC.1 hC.2.1 hC.2.2.2.2.2.1 (cl_in ci hf.1) (cl_ty ci) (cl_tyok ci hf.1) (cl_nm ci hf.1) hC.2.2.2.2.1 hC.2.2.2.2.2.2.2.2.1.1 hW.1 hW.2.1 hW.2.2 k (ce_get hs) (cl_cl ci hf.1) j hf.2.1 (hC.2.2.2.2.2.1 _ hf.2.2) (fun _ h => h) hfin (by rw [cl_tyok ci hf.1 j hf.2.1, hty]) rfl rfl (by rw [ce_fs_len]; exact hf.2.1) hd (fun H1 locs1 hP hD hS => ?_)
  rw [ce_put_i hs hr] at hP hD
  exact kk p l e R s mid args below meth c D cA A b Q ad H1 locs1 cells slots ls hC hX hR ⟨hP, hD, hS⟩ hl hr2
theorem ev_putFi {k ci j idx : Nat} {x : Int32} (hd : decode M.2.1 pc = .ok (.putfield idx, 3)) (hf : fl_c M.1.cls idx ci j) (hr : cl_ref ci j = false) (hfin : (cl_T ci j).2.2.2 = true) (hin : M.1.name = "<init>") (ho : (cl_T ci j).1 = M.1.cls) (hs : sh[k]? = some (.inl ci)) (kk : EV X d mc ms M (pc + 3) L S sh (up_2 mi k j x) mr Po) : EV X d mc ms M pc L (pv_i x :: pv_r k :: S) sh mi mr Po := by
  intro p l e R s mid args below meth c D cA A b Q ad H locs cells slots ls hC hX hR hW hl hr2
  have hty : cl_ty ci j = .int := cl_int hr
  refine va_putF (ty := .int) (v := .int x) hC.1 hC.2.1 hC.2.2.2.2.2.1 (cl_in ci hf.1) (cl_ty ci) (cl_tyok ci hf.1) (cl_nm ci hf.1) hC.2.2.2.2.1 hC.2.2.2.2.2.2.2.2.1.1 hW.1 hW.2.1 hW.2.2 k (ce_get hs) (cl_cl ci hf.1) j hf.2.1 (hC.2.2.2.2.2.1 _ hf.2.2) (fun _ h => h) hfin (hC.2.2.2.2.2.2.2.1 hin) ho (by rw [cl_tyok ci hf.1 j hf.2.1, hty]) rfl rfl (by rw [ce_fs_len]; exact hf.2.1) hd (fun H1 locs1 hP hD hS => ?_)
  rw [ce_put_i hs hr] at hP hD
  exact kk p l e R s mid args below meth c D cA A b Q ad H1 locs1 cells slots ls hC hX hR ⟨hP, hD, hS⟩ hl hr2
theorem ev_putFq {k ci j idx : Nat} {r : Nat} (hd : decode M.2.1 pc = .ok (.putfield idx, 3)) (hf : fl_c M.1.cls idx ci j) (hr : cl_ref ci j = true) (hn : ∀ a, narrow (cl_ty ci j) (.ref a) = .ref a) (hfit : ∀ a, fits (cl_ty ci j) (.ref a) = true) (hfin : (cl_T ci j).2.2.2 = true) (hin : M.1.name = "<init>") (ho : (cl_T ci j).1 = M.1.cls) (hs : sh[k]? = some (.inl ci)) (kk : EV X d mc ms M (pc + 3) L S sh mi (up_2 mr k j (some r)) Po) : EV X d mc ms M pc L (pv_r r :: pv_r k :: S) sh mi mr Po := by
  intro p l e R s mid args below meth c D cA A b Q ad H locs cells slots ls hC hX hR hW hl hr2
  refine va_putF (ty := cl_ty ci j) (v := .ref (ad r)) hC.1 hC.2.1 hC.2.2.2.2.2.1 (cl_in ci hf.1) (cl_ty ci) (cl_tyok ci hf.1) (cl_nm ci hf.1) hC.2.2.2.2.1 hC.2.2.2.2.2.2.2.2.1.1 hW.1 hW.2.1 hW.2.2 k (ce_get hs) (cl_cl ci hf.1) j hf.2.1 (hC.2.2.2.2.2.1 _ hf.2.2) (fun _ h => h) hfin (hC.2.2.2.2.2.2.2.1 hin) ho (cl_tyok ci hf.1 j hf.2.1) (hn _) (hfit _) (by rw [ce_fs_len]; exact hf.2.1) hd (fun H1 locs1 hP hD hS => ?_)
  have he := ce_put_q (cA := cA) (ad := ad) (mi := mi) (mr := mr) (r := some r) hs hr
  rw [show va_rf ((some r).map ad) = Value.ref (ad r) from rfl] at he
  rw [he] at hP hD
  exact kk p l e R s mid args below meth c D cA A b Q ad H1 locs1 cells slots ls hC hX hR ⟨hP, hD, hS⟩ hl hr2
theorem ev_iald {k n j : Nat} {i : Int32} (hd : decode M.2.1 pc = .ok (.iaload, 1)) (hs : sh[k]? = some (.inr (0, n))) (hi : i = nI j) (hj : j < n) (hn : n < 2 ^ 31) (kk : EV X d mc ms M (pc + 1) L (pv_i (mi k j) :: S) sh mi mr Po) : EV X d mc ms M pc L (pv_i i :: pv_r k :: S) sh mi mr Po := by
  obtain ⟨h1, h2⟩ := in_nI hi hj hn
  subst h2
  exact ev_lift (fun _ _ _ _ _ _ _ _ _ _ _ _ _ _ _ _ _ _ _ _ _ hC _ hW _ kk => va_iald hC.1 hC.2.1 hC.2.2.2.2.2.2.2.2.1.1 hW.1 k 0 (ce_get hs) rfl h1 hd kk) kk
theorem ev_zald {k n j : Nat} {i : Int32} (hd : decode M.2.1 pc = .ok (.baload, 1)) (hs : sh[k]? = some (.inr (1, n))) (hi : i = nI j) (hj : j < n) (hn : n < 2 ^ 31) (kk : EV X d mc ms M (pc + 1) L (pv_i (mi k j) :: S) sh mi mr Po) : EV X d mc ms M pc L (pv_i i :: pv_r k :: S) sh mi mr Po := by
  obtain ⟨h1, h2⟩ := in_nI hi hj hn
  subst h2
  exact ev_lift (fun _ _ _ _ _ _ _ _ _ _ _ _ _ _ _ _ _ _ _ _ _ hC _ hW _ kk => va_zald hC.1 hC.2.1 hC.2.2.2.2.2.2.2.2.1.1 hW.1 k 1 (ce_get hs) rfl h1 hd kk) kk
theorem ev_aald {k n j t : Nat} {i : Int32} {C : String} (hd : decode M.2.1 pc = .ok (.aaload, 1)) (hs : sh[k]? = some (.inr (t + 2, n))) (ht : t + 2 < 4) (hC2 : ce_ty (t + 2) = .object C) (hi : i = nI j) (hj : j < n) (hn : n < 2 ^ 31) (kk : EV X d mc ms M (pc + 1) L (pv_q (mr k j) :: S) sh mi mr Po) : EV X d mc ms M pc L (pv_i i :: pv_r k :: S) sh mi mr Po := by
  obtain ⟨h1, h2⟩ := in_nI hi hj hn
  subst h2
  exact ev_lift (fun _ _ _ _ _ _ _ _ _ _ _ _ _ _ _ _ _ _ _ _ _ hC _ hW _ kk => va_aldq hC.1 hC.2.1 hC.2.2.2.2.2.2.2.2.1.1 hW.1 k (t + 2) (ce_get hs) (by rw [← hC2]; exact ty_at ht) h1 hd kk) kk
theorem ev_alen {k n t : Nat} (hd : decode M.2.1 pc = .ok (.arraylength, 1)) (hs : sh[k]? = some (.inr (t, n))) (ht : t < 4) (kk : EV X d mc ms M (pc + 1) L (pv_i (nI n) :: S) sh mi mr Po) : EV X d mc ms M pc L (pv_r k :: S) sh mi mr Po :=
  ev_lift (fun _ _ _ _ _ _ _ _ _ _ _ _ _ _ _ _ _ _ _ _ _ hC _ hW _ kk => va_alen hC.1 hC.2.1 hC.2.2.2.2.2.2.2.2.1.1 hW.1 k t (ce_get hs) (ty_at ht) rfl hd kk) kk
theorem ev_iast {k n j : Nat} {i x : Int32} (hd : decode M.2.1 pc = .ok (.iastore, 1)) (hs : sh[k]? = some (.inr (0, n))) (hi : i = nI j) (hj : j < n) (hn : n < 2 ^ 31) (kk : EV X d mc ms M (pc + 1) L S sh (up_2 mi k j x) mr Po) : EV X d mc ms M pc L (pv_i x :: pv_i i :: pv_r k :: S) sh mi mr Po := by
  obtain ⟨h1, h2⟩ := in_nI hi hj hn
  subst h2
  intro p l e R s mid args below meth c D cA A b Q ad H locs cells slots ls hC hX hR hW hl hr2
  refine va_iast hC.1 hC.2.1 hC.2.2.2.2.2.2.2.2.1.1 hW.1 hW.2.1 hW.2.2 k 0 (ce_get hs) rfl h1 hd (fun H1 locs1 hP hD hS => ?_)
  rw [ce_st_i hs (by decide)] at hP hD
  exact kk p l e R s mid args below meth c D cA A b Q ad H1 locs1 cells slots ls hC hX hR ⟨hP, hD, hS⟩ hl hr2
theorem ev_zast {k n j : Nat} {i x : Int32} (hd : decode M.2.1 pc = .ok (.bastore, 1)) (hs : sh[k]? = some (.inr (1, n))) (hi : i = nI j) (hj : j < n) (hn : n < 2 ^ 31) (hx : vp_nar .boolean x = x) (kk : EV X d mc ms M (pc + 1) L S sh (up_2 mi k j x) mr Po) : EV X d mc ms M pc L (pv_i x :: pv_i i :: pv_r k :: S) sh mi mr Po := by
  obtain ⟨h1, h2⟩ := in_nI hi hj hn
  subst h2
  intro p l e R s mid args below meth c D cA A b Q ad H locs cells slots ls hC hX hR hW hl hr2
  refine va_zast hC.1 hC.2.1 hC.2.2.2.2.2.2.2.2.1.1 hW.1 hW.2.1 hW.2.2 k 1 (ce_get hs) rfl h1 hd (fun H1 locs1 hP hD hS => ?_)
  rw [hx, ce_st_i hs (by decide)] at hP hD
  exact kk p l e R s mid args below meth c D cA A b Q ad H1 locs1 cells slots ls hC hX hR ⟨hP, hD, hS⟩ hl hr2
theorem ev_aast {k n j t v ci : Nat} {i : Int32} (hd : decode M.2.1 pc = .ok (.aastore, 1)) (hs : sh[k]? = some (.inr (t + 2, n))) (ht : t + 2 < 4) (hv : sh[v]? = some (.inl ci)) (hci : ci < 7) (hC2 : ce_ty (t + 2) = .object (cl_R ci)) (hi : i = nI j) (hj : j < n) (hn : n < 2 ^ 31) (kk : EV X d mc ms M (pc + 1) L S sh mi (up_2 mr k j (some v)) Po) : EV X d mc ms M pc L (pv_r v :: pv_i i :: pv_r k :: S) sh mi mr Po := by
  obtain ⟨h1, h2⟩ := in_nI hi hj hn
  subst h2
  intro p l e R s mid args below meth c D cA A b Q ad H locs cells slots ls hC hX hR hW hl hr2
  refine va_astq (r := (cl_R ci, cl_T ci, cl_n ci)) hC.1 hC.2.1 hC.2.2.2.2.2.2.2.2.1.1 hW.1 hW.2.1 hW.2.2 k (t + 2) v ci (ce_get hs) (by rw [← hC2]; exact ty_at ht) (ce_get hv) (cl_cl ci hci) h1 hd (fun H1 locs1 hP hD hS => ?_)
  rw [ce_st_q hs] at hP hD
  exact kk p l e R s mid args below meth c D cA A b Q ad H1 locs1 cells slots ls hC hX hR ⟨hP, hD, hS⟩ hl hr2
theorem ev_slen {n : Nat} {xs : Nat → Int32} (hd : decode M.2.1 pc = .ok (.arraylength, 1)) (kk : EV (some (n, xs)) d mc ms M (pc + 1) L (pv_i (nI n) :: S) sh mi mr Po) : EV (some (n, xs)) d mc ms M pc L (pv_s :: S) sh mi mr Po :=
  ev_lift (fun _ _ _ _ _ _ _ _ _ _ _ _ _ _ _ _ _ _ _ _ _ hC hX hW _ kk => va_slen hC.1 hC.2.1 (hX n xs rfl).1 (hX n xs rfl).2.1 (hX n xs rfl).2.2 hW.2.2 hd kk) kk
theorem ev_sld {n j : Nat} {xs : Nat → Int32} {i : Int32} (hd : decode M.2.1 pc = .ok (.iaload, 1)) (hi : i = nI j) (hj : j < n) (hn : n < 2 ^ 31) (kk : EV (some (n, xs)) d mc ms M (pc + 1) L (pv_i (xs j) :: S) sh mi mr Po) : EV (some (n, xs)) d mc ms M pc L (pv_i i :: pv_s :: S) sh mi mr Po := by
  obtain ⟨h1, h2⟩ := in_nI hi hj hn
  subst h2
  exact ev_lift (fun _ _ _ _ _ _ _ _ _ _ _ _ _ _ _ _ _ _ _ _ _ hC hX hW _ kk => va_sld hC.1 hC.2.1 (hX n xs rfl).1 (hX n xs rfl).2.1 (hX n xs rfl).2.2 hW.2.2 h1 hd kk) kk
theorem ev_new {ci idx mc1 ms1 : Nat} (hd : decode M.2.1 pc = .ok (.new idx, 3)) (hci : ci < 7) (hw1 : Cond.classLink M.1.cls idx (cl_R ci) ∈ tb_w) (hw2 : Cond.instantiable (cl_R ci) (cl_n ci) ∈ tb_w) (hw3 : Cond.initialized (cl_R ci) ∈ tb_w) (hS : ok_s sh.length S) (hL : ok_l sh.length L) (hm : ok_m sh.length mr) (hz : ∀ j, mi sh.length j = 0) (hzr : ∀ j, mr sh.length j = none) (hmc : mc1 + 1 = mc) (hms : ms1 + cl_n ci = ms) (hdv : ∀ j, j < cl_n ci → defaultValue (cl_ty ci j) = if cl_ref ci j = true then .null else .int 0)
    (kk : EV X d mc1 ms1 M (pc + 3) L (pv_r sh.length :: S) (sh ++ [.inl ci]) mi mr Po) : EV X d mc ms M pc L S sh mi mr Po := by
  subst hmc; subst hms
  intro p l e R s mid args below meth c D cA A b Q ad H locs cells slots ls hC hX hR hW hl hr2
  refine va_new (fs := ce_fs ad mi mr sh.length ci) hC.1 hC.2.1 hC.2.2.2.2.2.1 (cl_in ci hci) (cl_ty ci) (cl_tyok ci hci) hC.2.2.2.2.1 (hC.2.2.2.2.2.1 _ hw1) (hC.2.2.2.2.2.1 _ hw2) (hC.2.2.2.2.2.1 _ hw3) hC.2.2.2.2.2.2.2.2.1.1 hW.1 hW.2.1 hW.2.2 hC.2.2.2.2.2.2.2.2.2 (cl_cl ci hci) (fun j hj => ?_) (by omega) (by omega) hd (fun q H1 hP hD hS1 => ?_)
  · rw [hdv j hj]
    simp only [vp_V, List.getD, ce_fs_at hj, Option.getD_some, ce_v, hz, hzr]
    rfl
  · rw [ce_push (w := .inr (ci, ce_fs ad mi mr sh.length ci)) (s := .inl ci) hm rfl] at hP hD
    have h : ∀ i, i < sh.length → va_up ad sh.length q i = ad i := fun i hi => by simp [va_up, Nat.ne_of_lt hi]
    have := kk p l e R s mid args below meth c D cA A b Q (va_up ad sh.length q) H1 locs (cells + 1) (slots + cl_n ci) ls hC hX ⟨hR.1, hR.2.1, by omega, by omega⟩ ⟨hP, hD, hS1⟩ (pl_ok h hL hl) (fun v sh2 mi2 mr2 ad2 H2 locs2 cells2 slots2 pc2 ls2 a1 a2 a3 a4 a5 => hr2 v sh2 mi2 mr2 ad2 H2 locs2 cells2 slots2 pc2 ls2 a1 (ex_tr ex_push a2) a3 ⟨by omega, by omega⟩ a5)
    rw [List.map_cons, ps_ok h hS] at this
    have e1 : pm_v b (va_up ad sh.length q) (pv_r sh.length) = Value.ref q := by simp [pm_v, va_up, va_rf]
    rw [e1] at this
    exact this
theorem ev_newi {N mc1 ms1 : Nat} {n : Int32} (hd : decode M.2.1 pc = .ok (.newarray .int, 2)) (hw : Cond.arrayClass .int ∈ tb_w) (hn : n = nI N) (hN : N < 4096) (hS : ok_s sh.length S) (hL : ok_l sh.length L) (hm : ok_m sh.length mr) (hz : ∀ j, mi sh.length j = 0) (hmc : mc1 + 1 = mc) (hms : ms1 + N = ms)
    (kk : EV X d mc1 ms1 M (pc + 2) L (pv_r sh.length :: S) (sh ++ [.inr (0, N)]) mi mr Po) : EV X d mc ms M pc L (pv_i n :: S) sh mi mr Po := by
  subst hmc; subst hms; subst hn
  intro p l e R s mid args below meth c D cA A b Q ad H locs cells slots ls hC hX hR hW hl hr2
  refine va_newa (atype := .int) (N' := N) (ty := .int) (a0 := (N, .inl (fun _ => 0))) hC.1 hC.2.1 (hC.2.2.2.2.2.1 _ hw) rfl hC.2.2.2.2.2.2.2.2.1.1 hW.1 hW.2.1 hW.2.2 hC.2.2.2.2.2.2.2.2.2 (fun cA => rfl) (nI_pos (by omega)) (nI_clamp (by omega)) (by simp [componentBytes]; omega) (by omega) (by omega) hd (fun q cA2 H1 hK hP hD hS1 => ?_)
  have hc : cA2 = cA 0 := by
    have h1 : s.vm.findClass ("[" ++ FieldType.int.toString) = some cA2 := (hK.2 4 (cA2, .int) rfl).2
    have h2 : s.vm.findClass ("[" ++ FieldType.int.toString) = some (cA 0) := (hK.2 0 (cA 0, .int) rfl).2
    exact Option.some.inj (h1.symm.trans h2)
  subst hc
  have hw : (.inl (cA 0, N, .inl (fun _ => (0 : Int32))) : va_E) = ce_at cA ad mi mr sh.length (.inr (0, N)) := by
    simp only [ce_at, ce_ar]
    congr 4
    funext j
    exact (hz j).symm
  rw [ce_push (s := .inr (0, N)) hm hw] at hP hD
  have h : ∀ i, i < sh.length → va_up ad sh.length q i = ad i := fun i hi => by simp [va_up, Nat.ne_of_lt hi]
  have := kk p l e R s mid args below meth c D cA A b Q (va_up ad sh.length q) H1 locs (cells + 1) (slots + N) ls hC hX ⟨hR.1, hR.2.1, by omega, by omega⟩ ⟨hP, hD, hS1⟩ (pl_ok h hL hl) (fun v sh2 mi2 mr2 ad2 H2 locs2 cells2 slots2 pc2 ls2 a1 a2 a3 a4 a5 => hr2 v sh2 mi2 mr2 ad2 H2 locs2 cells2 slots2 pc2 ls2 a1 (ex_tr ex_push a2) a3 ⟨by omega, by omega⟩ a5)
  rw [List.map_cons, ps_ok h hS] at this
  have e1 : pm_v b (va_up ad sh.length q) (pv_r sh.length) = Value.ref q := by simp [pm_v, va_up, va_rf]
  rw [e1] at this
  exact this
theorem ev_newz {N mc1 ms1 : Nat} {n : Int32} (hd : decode M.2.1 pc = .ok (.newarray .boolean, 2)) (hw : Cond.arrayClass .boolean ∈ tb_w) (hn : n = nI N) (hN : N < 4096) (hS : ok_s sh.length S) (hL : ok_l sh.length L) (hm : ok_m sh.length mr) (hz : ∀ j, mi sh.length j = 0) (hmc : mc1 + 1 = mc) (hms : ms1 + N = ms)
    (kk : EV X d mc1 ms1 M (pc + 2) L (pv_r sh.length :: S) (sh ++ [.inr (1, N)]) mi mr Po) : EV X d mc ms M pc L (pv_i n :: S) sh mi mr Po := by
  subst hmc; subst hms; subst hn
  intro p l e R s mid args below meth c D cA A b Q ad H locs cells slots ls hC hX hR hW hl hr2
  refine va_newa (atype := .boolean) (N' := N) (ty := .boolean) (a0 := (N, .inl (fun _ => 0))) hC.1 hC.2.1 (hC.2.2.2.2.2.1 _ hw) rfl hC.2.2.2.2.2.2.2.2.1.1 hW.1 hW.2.1 hW.2.2 hC.2.2.2.2.2.2.2.2.2 (fun cA => rfl) (nI_pos (by omega)) (nI_clamp (by omega)) (by simp [componentBytes]; omega) (by omega) (by omega) hd (fun q cA2 H1 hK hP hD hS1 => ?_)
  have hc : cA2 = cA 1 := by
    have h1 : s.vm.findClass ("[" ++ FieldType.boolean.toString) = some cA2 := (hK.2 4 (cA2, .boolean) rfl).2
    have h2 : s.vm.findClass ("[" ++ FieldType.boolean.toString) = some (cA 1) := (hK.2 1 (cA 1, .boolean) rfl).2
    exact Option.some.inj (h1.symm.trans h2)
  subst hc
  have hw : (.inl (cA 1, N, .inl (fun _ => (0 : Int32))) : va_E) = ce_at cA ad mi mr sh.length (.inr (1, N)) := by
    simp only [ce_at, ce_ar]
    congr 4
    funext j
    exact (hz j).symm
  rw [ce_push (s := .inr (1, N)) hm hw] at hP hD
  have h : ∀ i, i < sh.length → va_up ad sh.length q i = ad i := fun i hi => by simp [va_up, Nat.ne_of_lt hi]
  have := kk p l e R s mid args below meth c D cA A b Q (va_up ad sh.length q) H1 locs (cells + 1) (slots + N) ls hC hX ⟨hR.1, hR.2.1, by omega, by omega⟩ ⟨hP, hD, hS1⟩ (pl_ok h hL hl) (fun v sh2 mi2 mr2 ad2 H2 locs2 cells2 slots2 pc2 ls2 a1 a2 a3 a4 a5 => hr2 v sh2 mi2 mr2 ad2 H2 locs2 cells2 slots2 pc2 ls2 a1 (ex_tr ex_push a2) a3 ⟨by omega, by omega⟩ a5)
  rw [List.map_cons, ps_ok h hS] at this
  have e1 : pm_v b (va_up ad sh.length q) (pv_r sh.length) = Value.ref q := by simp [pm_v, va_up, va_rf]
  rw [e1] at this
  exact this
theorem ev_newq {N mc1 ms1 t idx : Nat} {C : String} {n : Int32} (hd : decode M.2.1 pc = .ok (.anewarray idx, 3)) (hw : Cond.classLink M.1.cls idx C ∈ tb_w) (htc : (t = 0 ∧ C = "Bindery$Book") ∨ (t = 1 ∧ C = "Bindery$Skin")) (hn : n = nI N) (hN : N < 4096) (hS : ok_s sh.length S) (hL : ok_l sh.length L) (hm : ok_m sh.length mr) (hz : ∀ j, mr sh.length j = none) (hmc : mc1 + 1 = mc) (hms : ms1 + N = ms)
    (kk : EV X d mc1 ms1 M (pc + 3) L (pv_r sh.length :: S) (sh ++ [.inr (t + 2, N)]) mi mr Po) : EV X d mc ms M pc L (pv_i n :: S) sh mi mr Po := by
  subst hmc; subst hms; subst hn
  intro p l e R s mid args below meth c D cA A b Q ad H locs cells slots ls hC hX hR hW hl hr2
  have hao : va_AO C s := by
    rcases htc with ⟨-, rfl⟩ | ⟨-, rfl⟩
    · exact hC.2.2.2.2.2.2.2.2.1.2.2.1
    · exact hC.2.2.2.2.2.2.2.2.1.2.2.2
  refine va_newq (N' := N) (C := C) hC.1 hC.2.1 hC.2.2.2.2.1 (hC.2.2.2.2.2.1 _ hw) hao hC.2.2.2.2.2.2.2.2.1.1 hW.1 hW.2.1 hW.2.2 hC.2.2.2.2.2.2.2.2.2 (nI_pos (by omega)) (nI_clamp (by omega)) (by omega) (by omega) (by omega) hd (fun q cA2 H1 hK hP hD hS1 => ?_)
  have hc : cA2 = cA (t + 2) := by
    obtain ⟨_, _, -, -, -, h1⟩ := (hK.2 4 (cA2, .object C) rfl).2
    rcases htc with ⟨rfl, rfl⟩ | ⟨rfl, rfl⟩
    · obtain ⟨_, _, -, -, -, h2⟩ := (hK.2 2 (cA 2, .object "Bindery$Book") rfl).2
      exact Option.some.inj (h1.symm.trans h2)
    · obtain ⟨_, _, -, -, -, h2⟩ := (hK.2 3 (cA 3, .object "Bindery$Skin") rfl).2
      exact Option.some.inj (h1.symm.trans h2)
  subst hc
  have hw : (.inl (cA (t + 2), N, .inr (.inr (.inr (.inr (fun _ => none))))) : va_E) = ce_at cA ad mi mr sh.length (.inr (t + 2, N)) := by
    simp only [ce_at, ce_ar]
    congr 7
    funext j
    rw [hz j]
    rfl
  rw [ce_push (s := .inr (t + 2, N)) hm hw] at hP hD
  have h : ∀ i, i < sh.length → va_up ad sh.length q i = ad i := fun i hi => by simp [va_up, Nat.ne_of_lt hi]
  have := kk p l e R s mid args below meth c D cA A b Q (va_up ad sh.length q) H1 locs (cells + 1) (slots + N) ls hC hX ⟨hR.1, hR.2.1, by omega, by omega⟩ ⟨hP, hD, hS1⟩ (pl_ok h hL hl) (fun v sh2 mi2 mr2 ad2 H2 locs2 cells2 slots2 pc2 ls2 a1 a2 a3 a4 a5 => hr2 v sh2 mi2 mr2 ad2 H2 locs2 cells2 slots2 pc2 ls2 a1 (ex_tr ex_push a2) a3 ⟨by omega, by omega⟩ a5)
  rw [List.map_cons, ps_ok h hS] at this
  have e1 : pm_v b (va_up ad sh.length q) (pv_r sh.length) = Value.ref q := by simp [pm_v, va_up, va_rf]
  rw [e1] at this
  exact this
theorem ev_objInit {idx k : Nat} (hd : decode M.2.1 pc = .ok (.invokespecial idx, 3)) (hw1 : Cond.methodLink M.1.cls idx objectInit ∈ tb_w) (hw2 : Cond.instanceMethod objectInit ∈ tb_w) (hw3 : Cond.code objectInit ⟨#[0xb1]⟩ 1 none ∈ tb_w) (h1 : 1 ≤ d) (h2 : S.length ≤ 8) (kk : EV X d mc ms M (pc + 3) L S sh mi mr Po) : EV X d mc ms M pc L (pv_r k :: S) sh mi mr Po := by
  intro p l e R s mid args below meth c D cA A b Q ad H locs cells slots ls hC hX hR hW hl hr2
  refine W.objInit hC.1 hC.2.1 hC.2.2.2.2.1 (hC.2.2.2.2.2.1 _ hw1) (hC.2.2.2.2.2.1 _ hw2) (hC.2.2.2.2.2.1 _ hw3) rfl (by rw [hC.2.2.2.1]; exact hl.1) rfl hd (by omega) ?_ ?_
  · have := st_sum (b := b) (ad := ad) (S := S)
    have h3 := lv_room (m := mid) (pc := pc) (ls := ls) (rest := S.map (pm_v b ad)) (st := S.map (pm_v b ad)) (by rw [this]; exact h2)
    have h4 : 2 * (F0 mid pc ls ((pv_r k :: S).map (pm_v b ad))).monitorRoom = 2 * (F0 mid pc ls (S.map (pm_v b ad))).monitorRoom := rfl
    omega
  · exact kk p l e R s mid args below meth c D cA A b Q ad H locs cells slots ls hC hX hR hW hl hr2
end EVH
