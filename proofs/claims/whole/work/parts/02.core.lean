/-! values of the pure machine: an int, a reference (a number of a cell, or null), the script -/
abbrev PV : Type := Int32 ⊕ (Option Nat ⊕ Unit)
abbrev pv_i (x : Int32) : PV := Sum.inl x
abbrev pv_q (r : Option Nat) : PV := Sum.inr (Sum.inl r)
abbrev pv_r (k : Nat) : PV := Sum.inr (Sum.inl (some k))
abbrev pv_s : PV := Sum.inr (Sum.inr ())
def pm_v (b : Nat) (ad : Nat → Nat) (v : PV) : Value := match v with
  | .inl x => .int x
  | .inr (.inl r) => va_rf (r.map ad)
  | .inr (.inr _) => .ref b
theorem pm_cat (b : Nat) (ad : Nat → Nat) (v : PV) : (pm_v b ad v).category = 1 := by
  rcases v with x | (_ | r) | x <;> rfl
/-- shapes of the cells (an object of class ci; an array of kind t and length n), their ints, their references -/
abbrev SH : Type := List (Nat ⊕ (Nat × Nat))
abbrev MI : Type := Nat → Nat → Int32
abbrev MR : Type := Nat → Nat → Option Nat
abbrev PO : Type := Option PV → SH → MI → MR → Prop
def up_2 {α : Type} (f : Nat → Nat → α) (k j : Nat) (v : α) : Nat → Nat → α := fun a b => if a = k ∧ b = j then v else f a b
theorem up_2_row {α : Type} {f : Nat → Nat → α} {k j a : Nat} {v : α} (h : a ≠ k) : up_2 f k j v a = f a := by
  funext b
  simp [up_2, h]
def cl_n (ci : Nat) : Nat := match ci with
  | 0 => 11
  | 1 => 8
  | 2 => 12
  | 3 => 6
  | 4 => 12
  | 5 => 8
  | 6 => 47
  | _ => 0
def cl_ty (ci : Nat) : Nat → FieldType := match ci with
  | 0 => tyX0
  | 1 => tyX1
  | 2 => tyX2
  | 3 => tyX3
  | 4 => tyX4
  | 5 => tyX5
  | _ => tyX6
def cl_rf (t : FieldType) : Bool := match t with
  | .int => false
  | _ => true
def cl_ref (ci j : Nat) : Bool := cl_rf (cl_ty ci j)
def ce_v (ad : Nat → Nat) (mi : MI) (mr : MR) (k ci j : Nat) : Value := if cl_ref ci j = true then va_rf ((mr k j).map ad) else .int (mi k j)
def ce_fs (ad : Nat → Nat) (mi : MI) (mr : MR) (k ci : Nat) : List Value := (List.range (cl_n ci)).map (ce_v ad mi mr k ci)
def ce_ar (ad : Nat → Nat) (mi : MI) (mr : MR) (k t : Nat) : (Nat → Int32) ⊕ (Nat → Int64) ⊕ (Nat → UInt32) ⊕ (Nat → UInt64) ⊕ (Nat → Option Nat) := match t with
  | 0 => .inl (mi k)
  | 1 => .inl (mi k)
  | _ => .inr (.inr (.inr (.inr (fun j => (mr k j).map ad))))
def ce_at (cA : Nat → ClassId) (ad : Nat → Nat) (mi : MI) (mr : MR) (k : Nat) (s : Nat ⊕ (Nat × Nat)) : va_E := match s with
  | .inl ci => .inr (ci, ce_fs ad mi mr k ci)
  | .inr (t, n) => .inl (cA t, n, ce_ar ad mi mr k t)
def ce_ws (cA : Nat → ClassId) (ad : Nat → Nat) (sh : SH) (mi : MI) (mr : MR) : va_W := sh.mapIdx (fun k s => (ad k, ce_at cA ad mi mr k s))
def ce_ty (t : Nat) : FieldType := match t with
  | 0 => .int
  | 1 => .boolean
  | 2 => .object "Bindery$Book"
  | _ => .object "Bindery$Skin"
def ce_tys (cA : Nat → ClassId) : List (ClassId × FieldType) := [(cA 0, ce_ty 0), (cA 1, ce_ty 1), (cA 2, ce_ty 2), (cA 3, ce_ty 3)]
theorem ce_get {cA : Nat → ClassId} {ad : Nat → Nat} {sh : SH} {mi : MI} {mr : MR} {k : Nat} {s : Nat ⊕ (Nat × Nat)} (h : sh[k]? = some s) : (ce_ws cA ad sh mi mr)[k]? = some (ad k, ce_at cA ad mi mr k s) := by
  simp [ce_ws, List.getElem?_mapIdx, h]
theorem ce_fs_at {ad : Nat → Nat} {mi : MI} {mr : MR} {k ci j : Nat} (h : j < cl_n ci) : (ce_fs ad mi mr k ci)[j]? = some (ce_v ad mi mr k ci j) := by
  simp [ce_fs, h]
theorem ce_fs_len {ad : Nat → Nat} {mi : MI} {mr : MR} {k ci : Nat} : (ce_fs ad mi mr k ci).length = cl_n ci := by
  simp [ce_fs]
/-- cells of which nothing differs -/
theorem ce_at_eq {cA : Nat → ClassId} {ad : Nat → Nat} {mi mi2 : MI} {mr mr2 : MR} {k : Nat} {s : Nat ⊕ (Nat × Nat)} (h1 : mi2 k = mi k) (h2 : mr2 k = mr k) : ce_at cA ad mi2 mr2 k s = ce_at cA ad mi mr k s := by
  rcases s with ci | ⟨t, n⟩
  · simp only [ce_at, ce_fs]
    congr 2
    refine List.map_congr_left (fun j _ => ?_)
    simp [ce_v, h1, h2]
  · simp only [ce_at, ce_ar, h1, h2]
theorem ce_set {cA : Nat → ClassId} {ad : Nat → Nat} {sh : SH} {mi mi2 : MI} {mr mr2 : MR} {k : Nat} {s : Nat ⊕ (Nat × Nat)} {w : va_E} (h : sh[k]? = some s) (h1 : ∀ i, i ≠ k → mi2 i = mi i) (h2 : ∀ i, i ≠ k → mr2 i = mr i) (hw : w = ce_at cA ad mi2 mr2 k s) : (ce_ws cA ad sh mi mr).set k (ad k, w) = ce_ws cA ad sh mi2 mr2 := by
  subst hw
  apply List.ext_getElem?
  intro i
  by_cases hi : i = k
  · subst hi
    rw [ce_get h]
    have hl : i < (ce_ws cA ad sh mi mr).length := by
      have := (List.getElem?_eq_some_iff.mp h).1
      simpa [ce_ws] using this
    rw [List.getElem?_set_self hl]
  · rw [List.getElem?_set_ne (Ne.symm hi)]
    simp only [ce_ws, List.getElem?_mapIdx]
    cases hs : sh[i]? with
    | none => rfl
    | some s2 => simp [ce_at_eq (cA := cA) (ad := ad) (s := s2) (h1 i hi) (h2 i hi)]
/-- the words of the tables that ride along -/
def tb_w : List Cond := lw_tbl.filter goodWord
theorem tb_of {w : Cond} (h : w ∈ lw_tbl) (g : goodWord w = true) : w ∈ tb_w := List.mem_filter.mpr ⟨h, g⟩
theorem tb_good {w : Cond} (h : w ∈ tb_w) : goodWord w = true := (List.mem_filter.mp h).2
def nl_w : List (String × Nat × MethodName × String) := [("Bindery", 17, yX2_init, "Bindery"), ("Bindery", 37, yX1_init, "Bindery"), ("Bindery$Book", 50, yX5_within, "Bindery"), ("Bindery$Planner", 68, yX5_within, "Bindery"), ("Bindery$Skin", 31, yX5_within, "Bindery"), ("Bindery$Ledger", 37, yX5_within, "Bindery")]
def kk_w (D : va_G) (cA : Nat → ClassId) (U : State) : Prop := va_K D vwCl (ce_tys cA) U ∧ (∀ q ∈ nl_w, va_Nw (.methodLinkNest q.1 q.2.1 q.2.2.1 q.2.2.2) U) ∧ va_AO "Bindery$Book" U ∧ va_AO "Bindery$Skin" U
theorem kk_w.warm {D : va_G} {cA : Nat → ClassId} {s U : State} (hW : s.WarmedH U.vm) (h : kk_w D cA s) : kk_w D cA U :=
  ⟨va_K.moved hW.alike h.1, fun q hq => va_Nw.warmM hW (h.2.1 q hq), va_AO.moved hW.alike h.2.2.1, va_AO.moved hW.alike h.2.2.2⟩
theorem kk_w.same {D : va_G} {cA : Nat → ClassId} {s U : State} (hv : s.vm = U.vm) (h : kk_w D cA s) : kk_w D cA U := by
  have ha : s.vm.Alike U.vm := by rw [← hv]; exact Vm.Alike.refl s.vm
  exact ⟨va_K.moved ha h.1, fun q hq => va_Nw.same rfl hv (h.2.1 q hq), va_AO.moved ha h.2.2.1, va_AO.moved ha h.2.2.2⟩
/-- what stands through a method -/
def cx_c (M : MD) (p : Program) (s : State) (mid : MethodId) (args : Array Value) (meth : Method) (c : Code) (D : va_G) (cA : Nat → ClassId) (A : Nat → Prop) : Prop :=
  p.tables.exec = Jvm.exec ∧ c.code = M.2.1 ∧ meth.sig.returnType = M.2.2.2 ∧ c.maxLocals = M.2.2.1 ∧ s.vm.findClass M.1.cls = some mid.cls ∧ (∀ w ∈ tb_w, w.before args s = true) ∧ meth.locks = false ∧ (M.1.name = "<init>" → meth.name = "<init>") ∧ kk_w D cA s ∧ ∀ q, s.heap.size ≤ q → A q
def sx_c (X : Option (Nat × (Nat → Int32))) (b : Nat) (A : Nat → Prop) (s : State) : Prop := ∀ (n : Nat) (xs : Nat → Int32), X = some (n, xs) → va_X b n xs s s.heap ∧ b < s.heap.size ∧ ¬ A b
def wx_c (D : va_G) (cA : Nat → ClassId) (ad : Nat → Nat) (sh : SH) (mi : MI) (mr : MR) (A : Nat → Prop) (s : State) (H : Heap) (locs : List Loc) : Prop :=
  va_P D vwCl (ce_ws cA ad sh mi mr) H ∧ va_D A (ce_ws cA ad sh mi mr) ∧ va_S A s.heap H locs
def lh_c (ls : Array Slot) (n b : Nat) (ad : Nat → Nat) (L : List (Option PV)) : Prop := ls.size = n ∧ lv_wf ls ∧ ∀ (k : Nat) (v : PV), L[k]? = some (some v) → ls[k]? = some (.val (pm_v b ad v))
def ex_c (sh : SH) (ad : Nat → Nat) (sh2 : SH) (ad2 : Nat → Nat) : Prop := sh.length ≤ sh2.length ∧ (∀ i, i < sh.length → ad2 i = ad i) ∧ (sh2.length = sh.length → ad2 = ad)
theorem ex_rf {sh : SH} {ad : Nat → Nat} : ex_c sh ad sh ad := ⟨Nat.le_refl _, fun _ _ => rfl, fun _ => rfl⟩
theorem ex_tr {sh sh1 sh2 : SH} {ad ad1 ad2 : Nat → Nat} (h : ex_c sh ad sh1 ad1) (h2 : ex_c sh1 ad1 sh2 ad2) : ex_c sh ad sh2 ad2 :=
  ⟨Nat.le_trans h.1 h2.1, fun i hi => (h2.2.1 i (Nat.lt_of_lt_of_le hi h.1)).trans (h.2.1 i hi), fun hh => by
    have e1 : sh1.length = sh.length := Nat.le_antisymm (by rw [← hh]; exact h2.1) h.1
    exact (h2.2.2 (hh.trans e1.symm)).trans (h.2.2 e1)⟩
def rt_c (M : MD) (pc : Nat) (v : Option PV) : Prop := match v with
  | none => decode M.2.1 pc = .ok (.return_, 1) ∧ M.2.2.2 = none
  | some (.inl x) => decode M.2.1 pc = .ok (.ireturn, 1) ∧ ∃ ty, M.2.2.2 = some ty ∧ narrow ty (.int x) = .int x
  | some (.inr (.inl _)) => decode M.2.1 pc = .ok (.areturn, 1) ∧ ∃ n, M.2.2.2 = some (.object n)
  | some (.inr (.inr _)) => False
/-- THE JUDGEMENT: from pc with these locals, this stack, these cells the method returns, and what it returns is as Po says; at most mc cells of ms slots are made; d frames are enough -/
def EV (X : Option (Nat × (Nat → Int32))) (d mc ms : Nat) (M : MD) (pc : Nat) (L : List (Option PV)) (S : List PV) (sh : SH) (mi : MI) (mr : MR) (Po : PO) : Prop :=
  ∀ (p : Program) (l : Launch) (e : Env) (R : Room) (s : State) (mid : MethodId) (args : Array Value) (below : List Frame) (meth : Method) (c : Code) (D : va_G) (cA : Nat → ClassId) (A : Nat → Prop) (b : Nat) (Q : State → Prop) (ad : Nat → Nat) (H : Heap) (locs : List Loc) (cells slots : Nat) (ls : Array Slot),
    cx_c M p s mid args meth c D cA A → sx_c X b A s → (d ≤ R.frames ∧ 40 * d ≤ R.locals ∧ cells + mc ≤ R.cells ∧ slots + ms ≤ R.slots) → wx_c D cA ad sh mi mr A s H locs → lh_c ls M.2.2.1 b ad L →
    (∀ (v : Option PV) (sh2 : SH) (mi2 : MI) (mr2 : MR) (ad2 : Nat → Nat) (H2 : Heap) (locs2 : List Loc) (cells2 slots2 pc2 : Nat) (ls2 : Array Slot), Po v sh2 mi2 mr2 → ex_c sh ad sh2 ad2 → wx_c D cA ad2 sh2 mi2 mr2 A s H2 locs2 → (cells2 ≤ cells + mc ∧ slots2 ≤ slots + ms) → rt_c M pc2 v →
      W p l e R s mid args below meth c H2 locs2 cells2 slots2 Q (F0 mid pc2 ls2 (v.toList.map (pm_v b ad2)))) →
    W p l e R s mid args below meth c H locs cells slots Q (F0 mid pc ls (S.map (pm_v b ad)))
/-- locals as the kit lists them -/
def as_l (b : Nat) (ad : Nat → Nat) (L : List (Option PV)) : List (Nat × Value) := L.zipIdx.filterMap (fun q => q.1.map (fun v => (q.2, pm_v b ad v)))
theorem as_mem {b : Nat} {ad : Nat → Nat} {L : List (Option PV)} {k : Nat} {w : Value} : (k, w) ∈ as_l b ad L ↔ ∃ v, L[k]? = some (some v) ∧ w = pm_v b ad v := by
  constructor
  · intro h
    obtain ⟨⟨o, i⟩, h1, h2⟩ := List.mem_filterMap.mp h
    have h3 := List.mem_zipIdx_iff_getElem?.mp h1
    cases o with
    | none => cases h2
    | some v =>
      cases h2
      exact ⟨v, h3, rfl⟩
  · rintro ⟨v, h1, rfl⟩
    exact List.mem_filterMap.mpr ⟨(some v, k), List.mem_zipIdx_iff_getElem?.mpr h1, rfl⟩
theorem as_has {ls : Array Slot} {n b : Nat} {ad : Nat → Nat} {L : List (Option PV)} (h : lh_c ls n b ad L) : lv_has ls n (as_l b ad L) := by
  refine ⟨h.1, h.2.1, fun q hq => ?_⟩
  obtain ⟨k, w⟩ := q
  obtain ⟨v, h1, rfl⟩ := as_mem.mp hq
  exact h.2.2 k v h1
theorem as_set {ls : Array Slot} {n b i : Nat} {ad : Nat → Nat} {L : List (Option PV)} {v : PV} (h : lv_has ls n ((i, pm_v b ad v) :: (as_l b ad L).filter (fun q => !(q.1 == i) && !(q.1 + 1 == i && q.2.category == 2)))) : lh_c ls n b ad (L.set i (some v)) := by
  refine ⟨h.1, h.2.1, fun k w hk => ?_⟩
  by_cases hi : k = i
  · subst hi
    have hl : k < L.length := by
      have := (List.getElem?_eq_some_iff.mp hk).1
      simpa using this
    rw [List.getElem?_set_self hl] at hk
    cases hk
    exact h.2.2 (k, pm_v b ad v) List.mem_cons_self
  · rw [List.getElem?_set_ne (Ne.symm hi)] at hk
    refine h.2.2 (k, pm_v b ad w) (List.mem_cons_of_mem _ (List.mem_filter.mpr ⟨as_mem.mpr ⟨w, hk, rfl⟩, ?_⟩))
    simp [hi, pm_cat]
section EVS
variable {X : Option (Nat × (Nat → Int32))} {d mc ms : Nat} {M : MD} {pc : Nat} {L : List (Option PV)} {S : List PV} {sh : SH} {mi : MI} {mr : MR} {Po : PO}
theorem ev_lift {pc2 : Nat} {S2 : List PV} (h : ∀ (p : Program) (l : Launch) (e : Env) (R : Room) (s : State) (mid : MethodId) (args : Array Value) (below : List Frame) (meth : Method) (c : Code) (H : Heap) (locs : List Loc) (cells slots : Nat) (Q : State → Prop) (ls : Array Slot) (b : Nat) (ad : Nat → Nat) (D : va_G) (cA : Nat → ClassId) (A : Nat → Prop),
      cx_c M p s mid args meth c D cA A → sx_c X b A s → wx_c D cA ad sh mi mr A s H locs → lh_c ls M.2.2.1 b ad L → W p l e R s mid args below meth c H locs cells slots Q (F0 mid pc2 ls (S2.map (pm_v b ad))) → W p l e R s mid args below meth c H locs cells slots Q (F0 mid pc ls (S.map (pm_v b ad))))
    (kk : EV X d mc ms M pc2 L S2 sh mi mr Po) : EV X d mc ms M pc L S sh mi mr Po :=
  fun p l e R s mid args below meth c D cA A b Q ad H locs cells slots ls hC hX hR hW hl hr => h p l e R s mid args below meth c H locs cells slots Q ls b ad D cA A hC hX hW hl (kk p l e R s mid args below meth c D cA A b Q ad H locs cells slots ls hC hX hR hW hl hr)
theorem ev_iconst {n : Int} {v : Int32} (hd : decode M.2.1 pc = .ok (.iconst n, 1)) (hv : Int32.ofInt n = v) (kk : EV X d mc ms M (pc + 1) L (pv_i v :: S) sh mi mr Po) : EV X d mc ms M pc L S sh mi mr Po :=
  ev_lift (fun _ _ _ _ _ _ _ _ _ _ _ _ _ _ _ _ _ _ _ _ _ hC _ _ _ k => lv_iconst hC.1 hC.2.1 hd hv k) kk
theorem ev_bipush {n : Int} {v : Int32} (hd : decode M.2.1 pc = .ok (.bipush n, 2)) (hv : (Int8.ofInt n).toInt32 = v) (kk : EV X d mc ms M (pc + 2) L (pv_i v :: S) sh mi mr Po) : EV X d mc ms M pc L S sh mi mr Po :=
  ev_lift (fun _ _ _ _ _ _ _ _ _ _ _ _ _ _ _ _ _ _ _ _ _ hC _ _ _ k => lv_bipush hC.1 hC.2.1 hd hv k) kk
theorem ev_sipush {n : Int} {v : Int32} (hd : decode M.2.1 pc = .ok (.sipush n, 3)) (hv : (Int16.ofInt n).toInt32 = v) (kk : EV X d mc ms M (pc + 3) L (pv_i v :: S) sh mi mr Po) : EV X d mc ms M pc L S sh mi mr Po :=
  ev_lift (fun _ _ _ _ _ _ _ _ _ _ _ _ _ _ _ _ _ _ _ _ _ hC _ _ _ k => lv_sipush hC.1 hC.2.1 hd hv k) kk
theorem ev_ldc {idx : Nat} {v : Int32} (hd : decode M.2.1 pc = .ok (.ldc idx, 2)) (hw : Cond.constant M.1.cls idx v ∈ tb_w) (kk : EV X d mc ms M (pc + 2) L (pv_i v :: S) sh mi mr Po) : EV X d mc ms M pc L S sh mi mr Po :=
  ev_lift (fun _ _ _ _ _ _ _ _ _ _ _ _ _ _ _ _ _ _ _ _ _ hC _ _ _ k => lv_ldc hC.1 hC.2.1 hC.2.2.2.2.1 (hC.2.2.2.2.2.1 _ hw) hd k) kk
theorem ev_ldcw {idx : Nat} {v : Int32} (hd : decode M.2.1 pc = .ok (.ldc_w idx, 3)) (hw : Cond.constant M.1.cls idx v ∈ tb_w) (kk : EV X d mc ms M (pc + 3) L (pv_i v :: S) sh mi mr Po) : EV X d mc ms M pc L S sh mi mr Po :=
  ev_lift (fun _ _ _ _ _ _ _ _ _ _ _ _ _ _ _ _ _ _ _ _ _ hC _ _ _ k => lv_ldcw hC.1 hC.2.1 hC.2.2.2.2.1 (hC.2.2.2.2.2.1 _ hw) hd k) kk
theorem ev_iload_n {k : Fin 4} {x : Int32} (hd : decode M.2.1 pc = .ok (.iload_n k, 1)) (hl : L[(k : Nat)]? = some (some (pv_i x))) (kk : EV X d mc ms M (pc + 1) L (pv_i x :: S) sh mi mr Po) : EV X d mc ms M pc L S sh mi mr Po :=
  ev_lift (fun _ _ _ _ _ _ _ _ _ _ _ _ _ _ _ _ _ _ _ _ _ hC _ _ hL k => lv_iload_n hC.1 hC.2.1 hd rfl (hL.2.2 _ _ hl) k) kk
theorem ev_iload {k : Nat} {x : Int32} (hd : decode M.2.1 pc = .ok (.iload k, 2)) (hl : L[k]? = some (some (pv_i x))) (kk : EV X d mc ms M (pc + 2) L (pv_i x :: S) sh mi mr Po) : EV X d mc ms M pc L S sh mi mr Po :=
  ev_lift (fun _ _ _ _ _ _ _ _ _ _ _ _ _ _ _ _ _ _ _ _ _ hC _ _ hL k => lv_iload hC.1 hC.2.1 hd (hL.2.2 _ _ hl) k) kk
theorem ev_aload_n {k : Fin 4} {r : Option Nat} (hd : decode M.2.1 pc = .ok (.aload_n k, 1)) (hl : L[(k : Nat)]? = some (some (pv_q r))) (kk : EV X d mc ms M (pc + 1) L (pv_q r :: S) sh mi mr Po) : EV X d mc ms M pc L S sh mi mr Po := by
  cases r with
  | none => exact ev_lift (fun _ _ _ _ _ _ _ _ _ _ _ _ _ _ _ _ _ _ _ _ _ hC _ _ hL k => lv_aload_nN hC.1 hC.2.1 hd rfl (hL.2.2 _ _ hl) k) kk
  | some r => exact ev_lift (fun _ _ _ _ _ _ _ _ _ _ _ _ _ _ _ _ _ _ _ _ _ hC _ _ hL k => lv_aload_n hC.1 hC.2.1 hd rfl (hL.2.2 _ _ hl) k) kk
theorem ev_aload {k : Nat} {r : Option Nat} (hd : decode M.2.1 pc = .ok (.aload k, 2)) (hl : L[k]? = some (some (pv_q r))) (kk : EV X d mc ms M (pc + 2) L (pv_q r :: S) sh mi mr Po) : EV X d mc ms M pc L S sh mi mr Po := by
  cases r with
  | none => exact ev_lift (fun _ _ _ _ _ _ _ _ _ _ _ _ _ _ _ _ _ _ _ _ _ hC _ _ hL k => lv_aloadN hC.1 hC.2.1 hd (hL.2.2 _ _ hl) k) kk
  | some r => exact ev_lift (fun _ _ _ _ _ _ _ _ _ _ _ _ _ _ _ _ _ _ _ _ _ hC _ _ hL k => lv_aload hC.1 hC.2.1 hd (hL.2.2 _ _ hl) k) kk
theorem ev_sload {k : Fin 4} (hd : decode M.2.1 pc = .ok (.aload_n k, 1)) (hl : L[(k : Nat)]? = some (some pv_s)) (kk : EV X d mc ms M (pc + 1) L (pv_s :: S) sh mi mr Po) : EV X d mc ms M pc L S sh mi mr Po :=
  ev_lift (fun _ _ _ _ _ _ _ _ _ _ _ _ _ _ _ _ _ _ _ _ _ hC _ _ hL k => lv_aload_n hC.1 hC.2.1 hd rfl (hL.2.2 _ _ hl) k) kk
theorem ev_null (hd : decode M.2.1 pc = .ok (.aconst_null, 1)) (kk : EV X d mc ms M (pc + 1) L (pv_q none :: S) sh mi mr Po) : EV X d mc ms M pc L S sh mi mr Po :=
  ev_lift (fun _ _ _ _ _ _ _ _ _ _ _ _ _ _ _ _ _ _ _ _ _ hC _ _ _ k => lv_null hC.1 hC.2.1 hd k) kk
theorem ev_iadd {x y : Int32} (hd : decode M.2.1 pc = .ok (.iadd, 1)) (kk : EV X d mc ms M (pc + 1) L (pv_i (x + y) :: S) sh mi mr Po) : EV X d mc ms M pc L (pv_i y :: pv_i x :: S) sh mi mr Po :=
  ev_lift (fun _ _ _ _ _ _ _ _ _ _ _ _ _ _ _ _ _ _ _ _ _ hC _ _ _ k => lv_iadd hC.1 hC.2.1 hd k) kk
theorem ev_isub {x y : Int32} (hd : decode M.2.1 pc = .ok (.isub, 1)) (kk : EV X d mc ms M (pc + 1) L (pv_i (x - y) :: S) sh mi mr Po) : EV X d mc ms M pc L (pv_i y :: pv_i x :: S) sh mi mr Po :=
  ev_lift (fun _ _ _ _ _ _ _ _ _ _ _ _ _ _ _ _ _ _ _ _ _ hC _ _ _ k => lv_isub hC.1 hC.2.1 hd k) kk
theorem ev_imul {x y : Int32} (hd : decode M.2.1 pc = .ok (.imul, 1)) (kk : EV X d mc ms M (pc + 1) L (pv_i (x * y) :: S) sh mi mr Po) : EV X d mc ms M pc L (pv_i y :: pv_i x :: S) sh mi mr Po :=
  ev_lift (fun _ _ _ _ _ _ _ _ _ _ _ _ _ _ _ _ _ _ _ _ _ hC _ _ _ k => lv_imul hC.1 hC.2.1 hd k) kk
theorem ev_iand {x y : Int32} (hd : decode M.2.1 pc = .ok (.iand, 1)) (kk : EV X d mc ms M (pc + 1) L (pv_i (x &&& y) :: S) sh mi mr Po) : EV X d mc ms M pc L (pv_i y :: pv_i x :: S) sh mi mr Po :=
  ev_lift (fun _ _ _ _ _ _ _ _ _ _ _ _ _ _ _ _ _ _ _ _ _ hC _ _ _ k => lv_iand hC.1 hC.2.1 hd k) kk
theorem ev_ior {x y : Int32} (hd : decode M.2.1 pc = .ok (.ior, 1)) (kk : EV X d mc ms M (pc + 1) L (pv_i (x ||| y) :: S) sh mi mr Po) : EV X d mc ms M pc L (pv_i y :: pv_i x :: S) sh mi mr Po :=
  ev_lift (fun _ _ _ _ _ _ _ _ _ _ _ _ _ _ _ _ _ _ _ _ _ hC _ _ _ k => lv_ior hC.1 hC.2.1 hd k) kk
theorem ev_ixor {x y : Int32} (hd : decode M.2.1 pc = .ok (.ixor, 1)) (kk : EV X d mc ms M (pc + 1) L (pv_i (x ^^^ y) :: S) sh mi mr Po) : EV X d mc ms M pc L (pv_i y :: pv_i x :: S) sh mi mr Po :=
  ev_lift (fun _ _ _ _ _ _ _ _ _ _ _ _ _ _ _ _ _ _ _ _ _ hC _ _ _ k => lv_ixor hC.1 hC.2.1 hd k) kk
theorem ev_idiv {x y : Int32} (hd : decode M.2.1 pc = .ok (.idiv, 1)) (hy : ¬ y = 0) (kk : EV X d mc ms M (pc + 1) L (pv_i (x / y) :: S) sh mi mr Po) : EV X d mc ms M pc L (pv_i y :: pv_i x :: S) sh mi mr Po :=
  ev_lift (fun _ _ _ _ _ _ _ _ _ _ _ _ _ _ _ _ _ _ _ _ _ hC _ _ _ k => lv_idiv hC.1 hC.2.1 hd hy k) kk
theorem ev_irem {x y : Int32} (hd : decode M.2.1 pc = .ok (.irem, 1)) (hy : ¬ y = 0) (kk : EV X d mc ms M (pc + 1) L (pv_i (x - x / y * y) :: S) sh mi mr Po) : EV X d mc ms M pc L (pv_i y :: pv_i x :: S) sh mi mr Po :=
  ev_lift (fun _ _ _ _ _ _ _ _ _ _ _ _ _ _ _ _ _ _ _ _ _ hC _ _ _ k => lv_irem hC.1 hC.2.1 hd hy k) kk
theorem ev_ineg {x : Int32} (hd : decode M.2.1 pc = .ok (.ineg, 1)) (kk : EV X d mc ms M (pc + 1) L (pv_i (-x) :: S) sh mi mr Po) : EV X d mc ms M pc L (pv_i x :: S) sh mi mr Po :=
  ev_lift (fun _ _ _ _ _ _ _ _ _ _ _ _ _ _ _ _ _ _ _ _ _ hC _ _ _ k => lv_ineg hC.1 hC.2.1 hd k) kk
theorem ev_ishl {x y : Int32} (hd : decode M.2.1 pc = .ok (.ishl, 1)) (kk : EV X d mc ms M (pc + 1) L (pv_i (x <<< (y &&& 31)) :: S) sh mi mr Po) : EV X d mc ms M pc L (pv_i y :: pv_i x :: S) sh mi mr Po :=
  ev_lift (fun _ _ _ _ _ _ _ _ _ _ _ _ _ _ _ _ _ _ _ _ _ hC _ _ _ k => lv_ishl hC.1 hC.2.1 hd k) kk
theorem ev_ishr {x y : Int32} (hd : decode M.2.1 pc = .ok (.ishr, 1)) (kk : EV X d mc ms M (pc + 1) L (pv_i (x >>> (y &&& 31)) :: S) sh mi mr Po) : EV X d mc ms M pc L (pv_i y :: pv_i x :: S) sh mi mr Po :=
  ev_lift (fun _ _ _ _ _ _ _ _ _ _ _ _ _ _ _ _ _ _ _ _ _ hC _ _ _ k => lv_ishr hC.1 hC.2.1 hd k) kk
theorem ev_iushr {x y : Int32} (hd : decode M.2.1 pc = .ok (.iushr, 1)) (kk : EV X d mc ms M (pc + 1) L (pv_i (x.toUInt32 >>> (y.toUInt32 &&& Int32.toUInt32 31)).toInt32 :: S) sh mi mr Po) : EV X d mc ms M pc L (pv_i y :: pv_i x :: S) sh mi mr Po :=
  ev_lift (fun _ _ _ _ _ _ _ _ _ _ _ _ _ _ _ _ _ _ _ _ _ hC _ _ _ k => lv_iushr hC.1 hC.2.1 hd rfl k) kk
theorem ev_dup {v : PV} (hd : decode M.2.1 pc = .ok (.dup, 1)) (kk : EV X d mc ms M (pc + 1) L (v :: v :: S) sh mi mr Po) : EV X d mc ms M pc L (v :: S) sh mi mr Po :=
  ev_lift (fun _ _ _ _ _ _ _ _ _ _ _ _ _ _ _ _ b ad _ _ _ hC _ _ _ k => lv_dup hC.1 hC.2.1 hd (pm_cat b ad v) k) kk
theorem ev_pop {v : PV} (hd : decode M.2.1 pc = .ok (.pop, 1)) (kk : EV X d mc ms M (pc + 1) L S sh mi mr Po) : EV X d mc ms M pc L (v :: S) sh mi mr Po :=
  ev_lift (fun _ _ _ _ _ _ _ _ _ _ _ _ _ _ _ _ b ad _ _ _ hC _ _ _ k => lv_pop hC.1 hC.2.1 hd (pm_cat b ad v) k) kk
theorem ev_goto {off : Int} {tgt : Nat} (hd : decode M.2.1 pc = .ok (.goto off, 3)) (ht : (pc : Int) + off = (tgt : Int)) (kk : EV X d mc ms M tgt L S sh mi mr Po) : EV X d mc ms M pc L S sh mi mr Po :=
  ev_lift (fun _ _ _ _ _ _ _ _ _ _ _ _ _ _ _ _ _ _ _ _ _ hC _ _ _ k => lv_goto hC.1 hC.2.1 hd ht k) kk
end EVS
