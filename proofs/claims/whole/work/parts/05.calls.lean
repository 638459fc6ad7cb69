/-- a method's words and room; its locals at the start -/
def mw_c (M : MD) : List Cond := Cond.code M.1 M.2.1 M.2.2.1 M.2.2.2 :: tb_w
def rm_c (d mc ms : Nat) : Room := { frames := d, cells := mc, slots := ms, locals := 40 * d }
def en_l (M : MD) (av : List PV) : List (Option PV) := av.map some ++ List.replicate (M.2.2.1 - av.length) none
theorem mw_good {M N : MD} (h : Cond.code N.1 N.2.1 N.2.2.1 N.2.2.2 ∈ tb_w) : GoodIn tb_w (mw_c N) := by
  intro w hw
  rcases List.mem_cons.mp hw with rfl | hw
  · exact ⟨h, good_of_word (tb_good h)⟩
  · exact ⟨hw, good_of_word (tb_good hw)⟩
def qc_c (D : va_G) (cA : Nat → ClassId) (b : Nat) (ad : Nat → Nat) (sh : SH) (Po : PO) (A : Nat → Prop) : Array Value → State → Outcome → State → Prop := fun _ st oc t =>
  (∃ (v : Option PV) (sh2 : SH) (mi2 : MI) (mr2 : MR) (ad2 : Nat → Nat), oc = .returned (v.map (pm_v b ad2)) ∧ Po v sh2 mi2 mr2 ∧ ex_c sh ad sh2 ad2 ∧ va_P D vwCl (ce_ws cA ad2 sh2 mi2 mr2) t.heap ∧ va_D A (ce_ws cA ad2 sh2 mi2 mr2)) ∧ va_F A st t
def pc_c (D : va_G) (cA : Nat → ClassId) (ad : Nat → Nat) (sh : SH) (mi : MI) (mr : MR) (sz : Nat) (U : State) : Prop := U.heap.size = sz ∧ va_P D vwCl (ce_ws cA ad sh mi mr) U.heap ∧ kk_w D cA U ∧ va_D (fun _ => True) (ce_ws cA ad sh mi mr)
theorem lg_len (b : Nat) (ad : Nat → Nat) (av : List PV) : lg_sl (av.map (pm_v b ad)) = av.map (fun v => Slot.val (pm_v b ad v)) := by
  induction av with
  | nil => rfl
  | cons v av ih =>
    have : lg_sl ((v :: av).map (pm_v b ad)) = (if (pm_v b ad v).category = 2 then [.val (pm_v b ad v), .second] else [.val (pm_v b ad v)]) ++ lg_sl (av.map (pm_v b ad)) := rfl
    rw [this, ih, pm_cat]
    rfl
theorem la_mem (b : Nat) (ad : Nat → Nat) : ∀ (av : List PV) (i k : Nat) (v : PV), av[k]? = some v → (i + k, pm_v b ad v) ∈ lv_args i (av.map (pm_v b ad))
  | [], i, k, v, h => by simp at h
  | w :: av, i, 0, v, h => by
    simp at h
    subst h
    exact List.mem_cons_self
  | w :: av, i, k + 1, v, h => by
    rw [List.getElem?_cons_succ] at h
    have := la_mem b ad av (i + 1) k v h
    have hc : ¬ (pm_v b ad w).category = 2 := by rw [pm_cat]; decide
    refine List.mem_cons_of_mem _ ?_
    rw [if_neg hc, show i + (k + 1) = i + 1 + k by omega]
    exact this
theorem en_has {M : MD} {b : Nat} {ad : Nat → Nat} {av : List PV} (hn : av.length ≤ M.2.2.1) : lh_c ((lg_sl (av.map (pm_v b ad)) ++ List.replicate (M.2.2.1 - (lg_sl (av.map (pm_v b ad))).length) Slot.unset).toArray) M.2.2.1 b ad (en_l M av) := by
  have h := lv_entry (av.map (pm_v b ad)) (n := M.2.2.1) (by rw [lg_len]; simpa using hn)
  refine ⟨h.1, h.2.1, fun k v hk => ?_⟩
  have hk2 : av[k]? = some v := by
    by_cases hl : k < av.length
    · rw [en_l, List.getElem?_append_left (by simpa using hl), List.getElem?_map] at hk
      cases ha : av[k]? with
      | none => rw [ha] at hk; cases hk
      | some w => rw [ha] at hk; simp at hk; rw [hk]
    · rw [en_l, List.getElem?_append_right (by simp; omega)] at hk
      have := List.mem_of_getElem? hk
      simp at this
  have := la_mem b ad av 0 k v hk2
  rw [Nat.zero_add] at this
  exact h.2.2 _ this
theorem met_ev {M : MD} {d mc ms : Nat} {av : List PV} {sh : SH} {mi : MI} {mr : MR} {Po : PO} (hpl : plainName M.1.cls = true) (hlen : av.length ≤ M.2.2.1) (h : EV none d mc ms M 0 (en_l M av) [] sh mi mr Po) (l : Launch) (D : va_G) (cA : Nat → ClassId) (ad : Nat → Nat) (b sz : Nat) :
    Met l M.1 (mw_c M) (rm_c d mc ms) (va_Pc (av.map (pm_v b ad)) (pc_c D cA ad sh mi mr sz)) (qc_c D cA b ad sh Po (va_A (ce_ws cA ad sh mi mr) sz)) mc ms (va_A (ce_ws cA ad sh mi mr) sz) := by
  refine Met.ofW (cc := M.2.1) (maxL := M.2.2.1) (ret := M.2.2.2) hpl rfl ?_
  intro p e s m args below meth c s₁ B hml hv
  obtain ⟨rfl, hsz, hP, hK, hD0⟩ := hv
  have hts0 := atoms_spec (ws := mw_c M) B.pre
  have hts : ∀ w ∈ tb_w, w.before (av.map (pm_v b ad)).toArray s = true := fun w hw => hts0 w (List.mem_cons_of_mem _ hw)
  have hown : s.vm.findClass M.1.cls = some m.cls := findClass_of_methodNamed B.named
  have hlocks := B.notSynchronized
  have hin : meth.name = M.1.name := (name_of_methodNamed B.named B.method).1
  subst hsz
  have hD := hD0.self (sz := s.heap.size)
  have hA : ∀ q : Nat, s.heap.size ≤ q → va_A (ce_ws cA ad sh mi mr) s.heap.size q := fun q h => Or.inr h
  rw [lg_entry_eq]
  refine h p l e (rm_c d mc ms) s m _ below meth c D cA (va_A (ce_ws cA ad sh mi mr) s.heap.size) b _ ad s.heap [] 0 0 _ ⟨B.exec, B.bytes, B.returns, hml, hown, hts, hlocks, fun h => hin.trans h, hK, hA⟩ (fun n xs hn => by cases hn) ⟨Nat.le_refl _, Nat.le_refl _, by simp [rm_c], by simp [rm_c]⟩ ⟨hP, hD, va_S.rf⟩ (en_has hlen) ?_
  intro v sh2 mi2 mr2 ad2 H2 locs2 cells2 slots2 pc2 ls2 hPo hex hW hcs hrt
  refine W.widen (k := mc) (n := ms) (by omega) (by omega) ?_
  have hq : ∀ t : State, t.heap = H2 → s.WarmedH t.vm → qc_c D cA b ad sh Po (va_A (ce_ws cA ad sh mi mr) s.heap.size) (av.map (pm_v b ad)).toArray s (.returned (v.map (pm_v b ad2))) t := fun t ht hWt => ⟨⟨v, sh2, mi2, mr2, ad2, rfl, hPo, hex, by rw [ht]; exact hW.1, hW.2.1⟩, hW.2.2.F ht⟩
  match v, hrt, hq with
  | none, hrt, hq => exact W.vret B.exec B.bytes (B.returns.trans hrt.2) hq hW.2.2.2.2 hrt.1
  | some (.inl x), hrt, hq =>
    obtain ⟨hd, ty, ht, hn⟩ := hrt
    exact W.zret B.exec B.bytes (B.returns.trans ht) hn hq hW.2.2.2.2 hd
  | some (.inr (.inl r)), hrt, hq =>
    obtain ⟨hd, n, ht⟩ := hrt
    exact W.aret B.exec B.bytes (B.returns.trans ht) (Or.inl ⟨n, rfl⟩) (by cases r <;> simp [pm_v, va_rf]) hq hW.2.2.2.2 hd
  | some (.inr (.inr _)), hrt, _ => exact hrt.elim
section RUN
variable {p : Program} {l : Launch} {e : Env} {R : Room} {s : State} {mid : MethodId} {args : Array Value} {below : List Frame} {meth : Method} {c : Code} {H : Heap} {locs : List Loc} {cells slots : Nat} {Q : State → Prop}
variable {pc mc ms b : Nat} {ls : Array Slot} {rest st0 : List Value} {a : Array Value} {A0 A1 : Nat → Prop} {H0 : Heap} {free : Addr → Prop} {D : va_G} {cA : Nat → ClassId} {ad : Nat → Nat} {sh : SH} {Po : PO}
theorem rn_go (hr : va_Run p l e R s mid args below meth c H locs cells slots mc ms (F0 mid pc ls st0) rest (qc_c D cA b ad sh Po A1 a) free) (hS : va_S A0 H0 H locs) (hA : ∀ q, q < H.size → A1 q → A0 q) (hf : ∀ q, free q → A0 q)
    (kk : ∀ (v : Option PV) (sh2 : SH) (mi2 : MI) (mr2 : MR) (ad2 : Nat → Nat) (H1 : Heap) (locs1 : List Loc), Po v sh2 mi2 mr2 → ex_c sh ad sh2 ad2 → va_P D vwCl (ce_ws cA ad2 sh2 mi2 mr2) H1 → va_D A1 (ce_ws cA ad2 sh2 mi2 mr2) → va_S A0 H0 H1 locs1 → W p l e R s mid args below meth c H1 locs1 (cells + mc) (slots + ms) Q (F0 mid (pc + 3) ls ((v.map (pm_v b ad2)).toList ++ rest))) : W p l e R s mid args below meth c H locs cells slots Q (F0 mid pc ls st0) := by
  intro T hT X
  obtain ⟨v, st₀, t, T', L, h0, X', hL, e1, e2, ⟨⟨v1, sh2, mi2, mr2, ad2, hv, hp, hex, hP1, hD1⟩, hz, hk⟩, st⟩ := hr T hT X
  cases hv
  rw [h0] at hz hk
  obtain ⟨t2, a1, b1⟩ := kk v1 sh2 mi2 mr2 ad2 T'.heap (locs ++ L) hp hex (by rw [e1]; exact hP1) hD1
    ⟨Nat.le_trans hS.1 (by rw [e1]; exact hz), fun q h1 h2 => by rw [e1, hk q (Nat.lt_of_lt_of_le h1 hS.1) (fun z => h2 (hA q (Nat.lt_of_lt_of_le h1 hS.1) z))]; exact hS.2.1 q h1 h2, fun q hq => by
      rcases List.mem_append.mp hq with h | h
      · exact hS.2.2 q h
      · exact hf _ (hL q h)⟩ T' rfl X'
  exact ⟨t2, st t2 a1, b1⟩
end RUN
theorem fb_c {D : va_G} {cA : Nat → ClassId} {ad : Nat → Nat} {sh : SH} {mi : MI} {mr : MR} {sz : Nat} {av : List Value} : FrameBlind (va_Pc av (pc_c D cA ad sh mi mr sz)) := fun a U g mk q => by
  obtain ⟨q0, q1, qP, qK, qD⟩ := q
  exact ⟨q0, q1, qP, kk_w.same (s := U) (U := U.calling g mk a) rfl qK, qD⟩
/-- what a call's instruction needs of the tables: by its kind -/
def cd_c (N : MD) (n : Nat) : Prop := N.1.cls ≠ "java/lang/invoke/MethodHandle" ∧ N.1.cls ≠ "java/lang/invoke/VarHandle" ∧ (parseMethodDescriptor N.1.desc).map (fun d => d.parameters.length) = some n
def cm_c (N : MD) (n : Nat) : Prop := Cond.code N.1 N.2.1 N.2.2.1 N.2.2.2 ∈ tb_w ∧ Cond.initialized N.1.cls ∈ tb_w ∧ cd_c N n ∧ N.2.2.1 ≤ 20 ∧ plainName N.1.cls = true
def cv_c (own : String) (idx : Nat) (N : MD) (ci n : Nat) : Prop := ci < 7 ∧ cl_R ci = N.1.cls ∧ Cond.methodLink own idx N.1 ∈ tb_w ∧ Cond.instanceMethod N.1 ∈ tb_w ∧ Cond.selects N.1.cls N.1 N.1 ∈ tb_w ∧ cm_c N n ∧ n + 1 ≤ N.2.2.1
def cs_c (own : String) (idx : Nat) (N : MD) (n : Nat) : Prop := Cond.methodLink own idx N.1 ∈ tb_w ∧ Cond.static N.1 ∈ tb_w ∧ cm_c N n ∧ n ≤ N.2.2.1
def cn_c (own : String) (idx : Nat) (N : MD) (n : Nat) : Prop := (own, idx, N.1, "Bindery") ∈ nl_w ∧ Cond.static N.1 ∈ tb_w ∧ cm_c N n ∧ n ≤ N.2.2.1
def ci_c (own : String) (idx : Nat) (N : MD) (n : Nat) : Prop := (Cond.methodLink own idx N.1 ∈ tb_w ∨ (own, idx, N.1, "Bindery") ∈ nl_w) ∧ Cond.instanceMethod N.1 ∈ tb_w ∧ N.1.name = "<init>" ∧ N.2.2.2 = none ∧ cm_c N n ∧ n + 1 ≤ N.2.2.1
section EVC
variable {X : Option (Nat × (Nat → Int32))} {d mc ms : Nat} {M N : MD} {pc : Nat} {L : List (Option PV)} {S S0 : List PV} {sh : SH} {mi : MI} {mr : MR} {Po Po1 : PO} {d1 mc1 ms1 mc2 ms2 idx n : Nat} {av : List PV}
/-- a call, in general: from va_Run to what goes on -/
theorem ev_run (hkeep : (∀ v sh2 mi2 mr2, Po1 v sh2 mi2 mr2 → sh2.length = sh.length) ∨ (ok_s sh.length S ∧ ok_l sh.length L)) (hmc : mc1 + mc2 = mc) (hms : ms1 + ms2 = ms)
    (hrun : ∀ (p : Program) (l : Launch) (e : Env) (R : Room) (s : State) (mid : MethodId) (args : Array Value) (below : List Frame) (meth : Method) (c : Code) (D : va_G) (cA : Nat → ClassId) (A : Nat → Prop) (b : Nat) (ad : Nat → Nat) (H : Heap) (locs : List Loc) (cells slots : Nat) (ls : Array Slot), cx_c M p s mid args meth c D cA A → (d ≤ R.frames ∧ 40 * d ≤ R.locals ∧ cells + mc ≤ R.cells ∧ slots + ms ≤ R.slots) → wx_c D cA ad sh mi mr A s H locs → lh_c ls M.2.2.1 b ad L →
      ∃ a : Array Value, va_Run p l e R s mid args below meth c H locs cells slots mc1 ms1 (F0 mid pc ls (S0.map (pm_v b ad))) (S.map (pm_v b ad)) (qc_c D cA b ad sh Po1 (va_A (ce_ws cA ad sh mi mr) H.size) a) (va_A (ce_ws cA ad sh mi mr) H.size))
    (kk : ∀ v sh2 mi2 mr2, Po1 v sh2 mi2 mr2 → EV X d mc2 ms2 M (pc + 3) L (v.toList ++ S) sh2 mi2 mr2 Po) : EV X d mc ms M pc L S0 sh mi mr Po := by
  subst hmc; subst hms
  intro p l e R s mid args below meth c D cA A b Q ad H locs cells slots ls hC hX hR hW hl hr2
  obtain ⟨a, hrn⟩ := hrun p l e R s mid args below meth c D cA A b ad H locs cells slots ls hC hR hW hl
  have hF : ∀ q, va_A (ce_ws cA ad sh mi mr) H.size q → A q := by
    intro q hq
    rcases hq with ⟨k, w, hk⟩ | hq
    · exact hW.2.1.2 k (q, w) hk
    · exact hC.2.2.2.2.2.2.2.2.2 q (Nat.le_trans hW.2.2.1 hq)
  refine rn_go hrn hW.2.2 (fun q _ h => hF q h) hF (fun v sh2 mi2 mr2 ad2 H1 locs1 hPo hex hP hD hS => ?_)
  have hS2 : S.map (pm_v b ad2) = S.map (pm_v b ad) ∧ lh_c ls M.2.2.1 b ad2 L := by
    rcases hkeep with h | ⟨h1, h2⟩
    · rw [hex.2.2 (h v sh2 mi2 mr2 hPo)]
      exact ⟨rfl, hl⟩
    · exact ⟨ps_ok hex.2.1 h1, pl_ok hex.2.1 h2 hl⟩
  have := kk v sh2 mi2 mr2 hPo p l e R s mid args below meth c D cA A b Q ad2 H1 locs1 (cells + mc1) (slots + ms1) ls hC hX ⟨hR.1, hR.2.1, by omega, by omega⟩ ⟨hP, hD.weaken (fun _ q _ h => hF q.1 h), hS⟩ hS2.2 (fun v sh3 mi3 mr3 ad3 H3 locs3 cells3 slots3 pc3 ls3 a1 a2 a3 a4 a5 => hr2 v sh3 mi3 mr3 ad3 H3 locs3 cells3 slots3 pc3 ls3 a1 (ex_tr hex a2) a3 ⟨by omega, by omega⟩ a5)
  rw [List.map_append, hS2.1] at this
  have e1 : v.toList.map (pm_v b ad2) = (v.map (pm_v b ad2)).toList := by cases v <;> rfl
  rw [e1] at this
  exact this
theorem ev_callv {k ci : Nat} (hd : decode M.2.1 pc = .ok (.invokevirtual idx, 3)) (hc : cv_c M.1.cls idx N ci n) (hs : sh[k]? = some (.inl ci)) (hn : av.length = n) (hS0 : S0 = av.reverse ++ pv_r k :: S) (hS8 : S.length ≤ 8) (hd1 : d1 < d) (hkeep : (∀ v sh2 mi2 mr2, Po1 v sh2 mi2 mr2 → sh2.length = sh.length) ∨ (ok_s sh.length S ∧ ok_l sh.length L)) (hmc : mc1 + mc2 = mc) (hms : ms1 + ms2 = ms)
    (hcall : EV none d1 mc1 ms1 N 0 (en_l N (pv_r k :: av)) [] sh mi mr Po1) (kk : ∀ v sh2 mi2 mr2, Po1 v sh2 mi2 mr2 → EV X d mc2 ms2 M (pc + 3) L (v.toList ++ S) sh2 mi2 mr2 Po) : EV X d mc ms M pc L S0 sh mi mr Po := by
  refine ev_run hkeep hmc hms (fun p l e R s mid args below meth c D cA A b ad H locs cells slots ls hC hR hW hl => ?_) kk
  obtain ⟨hci, hcl, hw1, hw2, hw3, ⟨hm1, hm2, hm3, hm4, hm5⟩, hn1⟩ := hc
  have hM := met_ev hm5 (by simp; omega) hcall l D cA ad b H.size
  have hK : kk_w D cA s := hC.2.2.2.2.2.2.2.2.1
  have hG : GoodIn tb_w (wsV M.1.cls idx N.1.cls N.1 (mw_c N)) := by
    intro w hw
    rcases List.mem_append.mp hw with hw | hw
    · have : w ∈ tb_w := by
        simp only [List.mem_cons, List.not_mem_nil, or_false] at hw
        rcases hw with rfl | rfl | rfl | rfl
        · exact hw1
        · exact hw2
        · exact hw3
        · exact hm2
      exact ⟨this, good_of_word (tb_good this)⟩
    · exact mw_good (M := M) hm1 w hw
  have hcw := cwV (R := R) (rm := rm_c d1 mc1 ms1) n hC.2.2.2.2.2.1 hG rfl rfl rfl ⟨rfl, hm3⟩ ⟨show d1 + 1 ≤ R.frames by omega, show 8 + (N.2.2.1 + 11) + 40 * d1 ≤ R.locals by omega⟩
  have e1 : S0.map (pm_v b ad) = (av.map (pm_v b ad)).reverse ++ Value.ref (ad k) :: S.map (pm_v b ad) := by
    rw [hS0, List.map_append, List.map_reverse]
    rfl
  refine ⟨_, va_runV (As := av.map (pm_v b ad)) (b := ad k) ⟨hC.1, hC.2.1, hC.2.2.2.1, hC.2.2.2.2.1, hC.2.2.2.2.2.1⟩ hM hcw ⟨fb_c, ?_, fun U hU hWU => ⟨rfl, by rw [hU], by rw [hU]; exact hW.1, hK.warm hWU, hW.2.1.weaken (fun _ _ _ _ => trivial)⟩⟩ rfl (by simpa using hn) hl.1 e1 (by rw [e1] <;> exact lv_room (by rw [st_sum]; exact hS8)) hd ⟨by omega, by omega⟩⟩
  have := va_recv hK.1 hW.1 (cl_cl ci hci) (ce_get hs)
  rw [← hcl]
  exact this
theorem ev_calls (hd : decode M.2.1 pc = .ok (.invokestatic idx, 3)) (hc : cs_c M.1.cls idx N n) (hn : av.length = n) (hS0 : S0 = av.reverse ++ S) (hS8 : S.length ≤ 8) (hd1 : d1 < d) (hkeep : (∀ v sh2 mi2 mr2, Po1 v sh2 mi2 mr2 → sh2.length = sh.length) ∨ (ok_s sh.length S ∧ ok_l sh.length L)) (hmc : mc1 + mc2 = mc) (hms : ms1 + ms2 = ms)
    (hcall : EV none d1 mc1 ms1 N 0 (en_l N av) [] sh mi mr Po1) (kk : ∀ v sh2 mi2 mr2, Po1 v sh2 mi2 mr2 → EV X d mc2 ms2 M (pc + 3) L (v.toList ++ S) sh2 mi2 mr2 Po) : EV X d mc ms M pc L S0 sh mi mr Po := by
  refine ev_run hkeep hmc hms (fun p l e R s mid args below meth c D cA A b ad H locs cells slots ls hC hR hW hl => ?_) kk
  obtain ⟨hw1, hw2, ⟨hm1, hm2, hm3, hm4, hm5⟩, hn1⟩ := hc
  have hM := met_ev hm5 (by omega) hcall l D cA ad b H.size
  have hK : kk_w D cA s := hC.2.2.2.2.2.2.2.2.1
  have hG : GoodIn tb_w (va_wsS M.1.cls idx N.1 (mw_c N)) := by
    intro w hw
    rcases List.mem_append.mp hw with hw | hw
    · have : w ∈ tb_w := by
        simp only [List.mem_cons, List.not_mem_nil, or_false] at hw
        rcases hw with rfl | rfl | rfl
        · exact hw1
        · exact hw2
        · exact hm2
      exact ⟨this, good_of_word (tb_good this)⟩
    · exact mw_good (M := M) hm1 w hw
  have hcw := va_cwS (R := R) (rm := rm_c d1 mc1 ms1) n hC.2.2.2.2.2.1 hG rfl rfl rfl hm3 ⟨show d1 + 1 ≤ R.frames by omega, show 8 + (N.2.2.1 + 11) + 40 * d1 ≤ R.locals by omega⟩
  have e1 : S0.map (pm_v b ad) = (av.map (pm_v b ad)).reverse ++ S.map (pm_v b ad) := by
    rw [hS0, List.map_append, List.map_reverse]
  exact ⟨_, va_runS (As := av.map (pm_v b ad)) ⟨hC.1, hC.2.1, hC.2.2.2.1, hC.2.2.2.2.1, hC.2.2.2.2.2.1⟩ hM hcw ⟨fb_c, fun U hU hWU => ⟨rfl, by rw [hU], by rw [hU]; exact hW.1, hK.warm hWU, hW.2.1.weaken (fun _ _ _ _ => trivial)⟩⟩ rfl (by simpa using hn) hl.1 e1 (by rw [e1] <;> exact lv_room (by rw [st_sum]; exact hS8)) hd ⟨by omega, by omega⟩⟩
theorem ev_calln (hd : decode M.2.1 pc = .ok (.invokestatic idx, 3)) (hc : cn_c M.1.cls idx N n) (hn : av.length = n) (hS0 : S0 = av.reverse ++ S) (hS8 : S.length ≤ 8) (hd1 : d1 < d) (hkeep : (∀ v sh2 mi2 mr2, Po1 v sh2 mi2 mr2 → sh2.length = sh.length) ∨ (ok_s sh.length S ∧ ok_l sh.length L)) (hmc : mc1 + mc2 = mc) (hms : ms1 + ms2 = ms)
    (hcall : EV none d1 mc1 ms1 N 0 (en_l N av) [] sh mi mr Po1) (kk : ∀ v sh2 mi2 mr2, Po1 v sh2 mi2 mr2 → EV X d mc2 ms2 M (pc + 3) L (v.toList ++ S) sh2 mi2 mr2 Po) : EV X d mc ms M pc L S0 sh mi mr Po := by
  refine ev_run hkeep hmc hms (fun p l e R s mid args below meth c D cA A b ad H locs cells slots ls hC hR hW hl => ?_) kk
  obtain ⟨hw1, hw2, ⟨hm1, hm2, hm3, hm4, hm5⟩, hn1⟩ := hc
  have hM := met_ev hm5 (by omega) hcall l D cA ad b H.size
  have hK : kk_w D cA s := hC.2.2.2.2.2.2.2.2.1
  have hcw := va_cnB (R := R) (rm := rm_c d1 mc1 ms1) n hC.2.2.2.2.2.1 (mw_good (M := M) hm1) rfl rfl rfl (hK.2.1 _ hw1) (hC.2.2.2.2.2.1 _ hm2) hm3 ⟨show d1 + 1 ≤ R.frames by omega, show 8 + (N.2.2.1 + 11) + 40 * d1 ≤ R.locals by omega⟩
  have e1 : S0.map (pm_v b ad) = (av.map (pm_v b ad)).reverse ++ S.map (pm_v b ad) := by
    rw [hS0, List.map_append, List.map_reverse]
  exact ⟨_, va_runSN (As := av.map (pm_v b ad)) ⟨hC.1, hC.2.1, hC.2.2.2.1, hC.2.2.2.2.1, hC.2.2.2.2.2.1⟩ hM ⟨hcw, hC.2.2.2.2.2.1 _ hw2, trivial⟩ ⟨fb_c, fun U hU hWU => ⟨rfl, by rw [hU], by rw [hU]; exact hW.1, hK.warm hWU, hW.2.1.weaken (fun _ _ _ _ => trivial)⟩⟩ rfl (by simpa using hn) hl.1 e1 (by rw [e1] <;> exact lv_room (by rw [st_sum]; exact hS8)) hd ⟨by omega, by omega⟩⟩
theorem ev_calli {k : Nat} (hd : decode M.2.1 pc = .ok (.invokespecial idx, 3)) (hc : ci_c M.1.cls idx N n) (hn : av.length = n) (hS0 : S0 = av.reverse ++ pv_r k :: S) (hS8 : S.length ≤ 8) (hd1 : d1 < d) (hkeep : (∀ v sh2 mi2 mr2, Po1 v sh2 mi2 mr2 → sh2.length = sh.length) ∨ (ok_s sh.length S ∧ ok_l sh.length L)) (hmc : mc1 + mc2 = mc) (hms : ms1 + ms2 = ms)
    (hcall : EV none d1 mc1 ms1 N 0 (en_l N (pv_r k :: av)) [] sh mi mr Po1) (kk : ∀ v sh2 mi2 mr2, Po1 v sh2 mi2 mr2 → EV X d mc2 ms2 M (pc + 3) L (v.toList ++ S) sh2 mi2 mr2 Po) : EV X d mc ms M pc L S0 sh mi mr Po := by
  refine ev_run hkeep hmc hms (fun p l e R s mid args below meth c D cA A b ad H locs cells slots ls hC hR hW hl => ?_) kk
  obtain ⟨hw0, hw2, hnm, hrt, ⟨hm1, hm2, hm3, hm4, hm5⟩, hn1⟩ := hc
  have hM := met_ev hm5 (by simp; omega) hcall l D cA ad b H.size
  have hK : kk_w D cA s := hC.2.2.2.2.2.2.2.2.1
  have e1 : S0.map (pm_v b ad) = (av.map (pm_v b ad)).reverse ++ Value.ref (ad k) :: S.map (pm_v b ad) := by
    rw [hS0, List.map_append, List.map_reverse]
    rfl
  have hmw : mw_c N = Cond.code N.1 N.2.1 N.2.2.1 none :: tb_w := by rw [← hrt]; rfl
  have hP : PreS s H (va_Pc ((pv_r k :: av).map (pm_v b ad)) (pc_c D cA ad sh mi mr H.size)) (.ref (ad k) :: av.map (pm_v b ad)) := ⟨fb_c, fun U hU hWU => ⟨rfl, by rw [hU], by rw [hU]; exact hW.1, hK.warm hWU, hW.2.1.weaken (fun _ _ _ _ => trivial)⟩⟩
  rcases hw0 with hw1 | hw1
  · have hcw := cwI (R := R) (rm := rm_c d1 mc1 ms1) n hC.2.2.2.2.2.1 (mw_good (M := M) hm1) hmw rfl rfl (hC.2.2.2.2.2.1 _ hm2) (hC.2.2.2.2.2.1 _ hw1) (hC.2.2.2.2.2.1 _ hw2) hnm hm3 ⟨show d1 + 1 ≤ R.frames by omega, show 8 + (N.2.2.1 + 11) + 40 * d1 ≤ R.locals by omega⟩
    exact ⟨_, va_runI (As := av.map (pm_v b ad)) (b := ad k) ⟨hC.1, hC.2.1, hC.2.2.2.1, hC.2.2.2.2.1, hC.2.2.2.2.2.1⟩ hM hcw hP rfl (by simpa using hn) hl.1 e1 (by rw [e1] <;> exact lv_room (by rw [st_sum]; exact hS8)) hd ⟨by omega, by omega⟩⟩
  · have hcw := va_cnB (R := R) (rm := rm_c d1 mc1 ms1) n hC.2.2.2.2.2.1 (mw_good (M := M) hm1) hmw rfl rfl (hK.2.1 _ hw1) (hC.2.2.2.2.2.1 _ hm2) hm3 ⟨show d1 + 1 ≤ R.frames by omega, show 8 + (N.2.2.1 + 11) + 40 * d1 ≤ R.locals by omega⟩
    exact ⟨_, va_runIN (As := av.map (pm_v b ad)) (b := ad k) ⟨hC.1, hC.2.1, hC.2.2.2.1, hC.2.2.2.2.1, hC.2.2.2.2.2.1⟩ hM ⟨hcw, hnm, hC.2.2.2.2.2.1 _ hw2⟩ hP rfl (by simpa using hn) hl.1 e1 (by rw [e1] <;> exact lv_room (by rw [st_sum]; exact hS8)) hd ⟨by omega, by omega⟩⟩
end EVC
