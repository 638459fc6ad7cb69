set_option maxRecDepth 100000 in
set_option maxHeartbeats 4000000 in
theorem lw_loop {N : Nat} {xs : Nat → Int32} (hN2 : N ≤ 2560) : ∀ i, i ≤ 512 → LN N xs i := by
  refine lp_i 512 (fun i hi ih => ?_)
  intro sh mi mr hI
  have hB : ba_c sh mr := by
    obtain ⟨nb, kb, at_, ns, ks, Wd, Hd, hZ, -⟩ := hI
    exact hZ.1
  refine ev_iload_n dL_law_18 rfl ?_
  refine ev_sload dL_law_19 rfl ?_
  refine ev_slen dL_law_20 ?_
  refine ev_iconst (v := 5) dL_law_21 rfl ?_
  refine ev_isub dL_law_22 ?_
  refine ev_icmp_gt (tgt := 1154) dL_law_23 rfl (fun h => ?_) (fun h => ?_)
  · refine ev_iconst (v := 1) dL_law_1154 rfl ?_
    exact ev_ireturn (ty := .boolean) dL_law_1155 rfl rfl rfl
  · have hlt : 5 * i + 5 ≤ N := by
      by_cases h5 : N < 5
      · exfalso
        have h1 : nI N - nI 5 < 0 := pk_sneg (by decide) h5
        have h2 : (0 : Int32) ≤ nI (5 * i) := nI_pos' (by omega)
        exact h (Int32.lt_of_lt_of_le h1 h2)
      · rw [show nI N - 5 = nI (N - 5) from pk_sub (b := 5) (by omega)] at h
        have := (not_congr (nI_ltI (by omega) (by omega))).mp h
        omega
    have hi512 : i < 512 := by omega
    have hn := ih hi512
    refine ev_sload dL_law_26 rfl ?_
    refine ev_iload_n dL_law_27 rfl ?_
    refine ev_sld (j := 5 * i) dL_law_28 rfl (by omega) (by omega) ?_
    refine ev_bipush (v := 31) dL_law_29 rfl ?_
    refine ev_iand dL_law_31 ?_
    obtain ⟨k, hk, e⟩ := pk_andE (xs (5 * i)) (m := 31) 5 (by decide)
    rw [e]
    by_cases e0 : k = 0
    · subst e0
      refine ev_tableIn (tgt := 168) dL_law_32 (by decide) (by decide) rfl rfl ?_
      exact lw_book hB hI hi512 hlt hN2 hn
    by_cases e1 : k = 1
    · subst e1
      refine ev_tableIn (tgt := 181) dL_law_32 (by decide) (by decide) rfl rfl ?_
      exact lw_gather hB hI hi512 hlt hN2 hn
    by_cases e2 : k = 2
    · subst e2
      refine ev_tableIn (tgt := 214) dL_law_32 (by decide) (by decide) rfl rfl ?_
      exact lw_look hB hI hi512 hlt hN2 hn
    by_cases e3 : k = 3
    · subst e3
      refine ev_tableIn (tgt := 257) dL_law_32 (by decide) (by decide) rfl rfl ?_
      exact lw_pass hB hI hi512 hlt hN2 hn
    by_cases e4 : k = 4
    · subst e4
      refine ev_tableIn (tgt := 280) dL_law_32 (by decide) (by decide) rfl rfl ?_
      exact lw_told hB hI hi512 hlt hN2 hn
    by_cases e5 : k = 5
    · subst e5
      refine ev_tableIn (tgt := 313) dL_law_32 (by decide) (by decide) rfl rfl ?_
      exact lw_there hB hI hi512 hlt hN2 hn
    by_cases e6 : k = 6
    · subst e6
      refine ev_tableIn (tgt := 346) dL_law_32 (by decide) (by decide) rfl rfl ?_
      exact lw_gone hB hI hi512 hlt hN2 hn
    by_cases e7 : k = 7
    · subst e7
      refine ev_tableIn (tgt := 389) dL_law_32 (by decide) (by decide) rfl rfl ?_
      exact lw_hours hB hI hi512 hlt hN2 hn
    by_cases e8 : k = 8
    · subst e8
      refine ev_tableIn (tgt := 432) dL_law_32 (by decide) (by decide) rfl rfl ?_
      exact lw_promise hB hI hi512 hlt hN2 hn
    by_cases e9 : k = 9
    · subst e9
      refine ev_tableIn (tgt := 485) dL_law_32 (by decide) (by decide) rfl rfl ?_
      exact lw_plan hB hI hi512 hlt hN2 hn
    by_cases e10 : k = 10
    · subst e10
      refine ev_tableIn (tgt := 508) dL_law_32 (by decide) (by decide) rfl rfl ?_
      exact lw_planned hB hI hi512 hlt hN2 hn
    by_cases e11 : k = 11
    · subst e11
      refine ev_tableIn (tgt := 541) dL_law_32 (by decide) (by decide) rfl rfl ?_
      exact lw_delays hB hI hi512 hlt hN2 hn
    by_cases e12 : k = 12
    · subst e12
      refine ev_tableIn (tgt := 564) dL_law_32 (by decide) (by decide) rfl rfl ?_
      exact lw_width hB hI hi512 hlt hN2 hn
    by_cases e13 : k = 13
    · subst e13
      refine ev_tableIn (tgt := 597) dL_law_32 (by decide) (by decide) rfl rfl ?_
      exact lw_sign hB hI hi512 hlt hN2 hn
    by_cases e14 : k = 14
    · subst e14
      refine ev_tableIn (tgt := 620) dL_law_32 (by decide) (by decide) rfl rfl ?_
      exact lw_wipe hB hI hi512 hlt hN2 hn
    by_cases e15 : k = 15
    · subst e15
      refine ev_tableIn (tgt := 633) dL_law_32 (by decide) (by decide) rfl rfl ?_
      exact lw_broken hB hI hi512 hlt hN2 hn
    by_cases e16 : k = 16
    · subst e16
      refine ev_tableIn (tgt := 666) dL_law_32 (by decide) (by decide) rfl rfl ?_
      exact lw_line hB hI hi512 hlt hN2 hn
    by_cases e17 : k = 17
    · subst e17
      refine ev_tableIn (tgt := 689) dL_law_32 (by decide) (by decide) rfl rfl ?_
      exact lw_stamp hB hI hi512 hlt hN2 hn
    by_cases e18 : k = 18
    · subst e18
      refine ev_tableIn (tgt := 702) dL_law_32 (by decide) (by decide) rfl rfl ?_
      exact lw_sharpen hB hI hi512 hlt hN2 hn
    by_cases e19 : k = 19
    · subst e19
      refine ev_tableIn (tgt := 725) dL_law_32 (by decide) (by decide) rfl rfl ?_
      exact lw_last hB hI hi512 hlt hN2 hn
    by_cases e20 : k = 20
    · subst e20
      refine ev_tableIn (tgt := 748) dL_law_32 (by decide) (by decide) rfl rfl ?_
      exact lw_skin hB hI hi512 hlt hN2 hn
    by_cases e21 : k = 21
    · subst e21
      refine ev_tableIn (tgt := 791) dL_law_32 (by decide) (by decide) rfl rfl ?_
      exact lw_flaw hB hI hi512 hlt hN2 hn
    by_cases e22 : k = 22
    · subst e22
      refine ev_tableIn (tgt := 834) dL_law_32 (by decide) (by decide) rfl rfl ?_
      exact lw_cut hB hI hi512 hlt hN2 hn
    by_cases e23 : k = 23
    · subst e23
      refine ev_tableIn (tgt := 877) dL_law_32 (by decide) (by decide) rfl rfl ?_
      exact lw_covers hB hI hi512 hlt hN2 hn
    by_cases e24 : k = 24
    · subst e24
      refine ev_tableIn (tgt := 930) dL_law_32 (by decide) (by decide) rfl rfl ?_
      exact lw_spot hB hI hi512 hlt hN2 hn
    by_cases e25 : k = 25
    · subst e25
      refine ev_tableIn (tgt := 973) dL_law_32 (by decide) (by decide) rfl rfl ?_
      exact lw_days hB hI hi512 hlt hN2 hn
    by_cases e26 : k = 26
    · subst e26
      refine ev_tableIn (tgt := 996) dL_law_32 (by decide) (by decide) rfl rfl ?_
      exact lw_rate hB hI hi512 hlt hN2 hn
    by_cases e27 : k = 27
    · subst e27
      refine ev_tableIn (tgt := 1039) dL_law_32 (by decide) (by decide) rfl rfl ?_
      exact lw_rateAt hB hI hi512 hlt hN2 hn
    by_cases e28 : k = 28
    · subst e28
      refine ev_tableIn (tgt := 1082) dL_law_32 (by decide) (by decide) rfl rfl ?_
      exact lw_wages hB hI hi512 hlt hN2 hn
    by_cases e29 : k = 29
    · subst e29
      refine ev_tableIn (tgt := 1125) dL_law_32 (by decide) (by decide) rfl rfl ?_
      exact lw_count hB hI hi512 hlt hN2 hn
    refine ev_tableOut (tgt := 1148) dL_law_32 (Or.inr ?_) rfl ?_
    · rw [nI_toInt (by omega)]
      omega
    · exact ev_mo (lw_nx hn (iv_S hI)) (Nat.le_refl _) (by omega) (by omega)
set_option maxRecDepth 100000 in
set_option maxHeartbeats 4000000 in
theorem lw_go {N : Nat} {xs : Nat → Int32} (hN2 : N ≤ 2560) : EV (some (N, xs)) 2000 600000 7302250 mL_law 0 [some pv_s, none, none, none] [] [] (fun _ _ => 0) (fun _ _ => none) (fun v _ _ _ => v = some (pv_i 1)) := by
  refine ev_new2 (ci := 5) (q := 0) (mc1 := 599999) (ms1 := 7302242) dL_law_0 (by decide) nw_L_7 ins_5.1 ins_5.2 rfl ok_sn (ok_lc trivial (ok_lo (ok_lo (ok_lo ok_ln)))) (fun k j r e => by cases e) (fun j => rfl) (fun j => rfl) rfl rfl dv_5 ?_
  refine ev_dup dL_law_3 ?_
  refine ev_calli (k := 0) (av := []) (d1 := 2) (mc1 := 28) (ms1 := 833) (mc2 := 599971) (ms2 := 7301409) dL_law_4 ci_L_9 rfl rfl (Nat.le_of_ble_eq_true rfl) (by decide) (Or.inr ⟨ok_sc (show 0 < _ by decide) ok_sn, ok_lc trivial (ok_lo (ok_lo (ok_lo ok_ln)))⟩) rfl rfl t_X5_init ?_
  rintro v_ sh1 mi1 mr1 ⟨e1, es, em, er, hS⟩
  subst e1
  refine ev_astore_n dL_law_7 (by decide) ?_
  refine ev_new2 (ci := 6) (q := 29) (mc1 := 599970) (ms1 := 7301362) dL_law_8 (by decide) nw_L_10 ins_6.1 ins_6.2 hS.1 ok_sn (ok_lc trivial (ok_lc (show 0 < 29 by decide) (ok_lo (ok_lo ok_ln)))) hS.2.1 (fun j => (hS.2.2 29 (Nat.le_refl _) j).1) (fun j => (hS.2.2 29 (Nat.le_refl _) j).2) rfl rfl dv_6 ?_
  refine ev_dup dL_law_11 ?_
  refine ev_calli (k := 29) (av := []) (d1 := 1) (mc1 := 37) (ms1 := 2718) (mc2 := 599933) (ms2 := 7298644) dL_law_12 ci_L_12 rfl rfl (Nat.le_of_ble_eq_true rfl) (by decide) (Or.inr ⟨ok_sc (show 29 < _ by rw [ln_s hS.1 rfl]; decide) ok_sn, ok_lc trivial (ok_lc (show 0 < _ by rw [ln_s hS.1 rfl]; decide) (ok_lo (ok_lo ok_ln)))⟩) rfl rfl (t_X6_init (q := 29) (st_al _ hS) (lk_n hS.1) (fun j => (hS.2.2 29 (Nat.le_refl _) j).1)) ?_
  rintro v_ sh2 mi2 mr2 ⟨e1, es2, em2, er2, hS2⟩
  subst e1
  refine ev_astore_n dL_law_15 (by decide) ?_
  refine ev_iconst (v := 0) dL_law_16 rfl ?_
  refine ev_istore_n dL_law_17 (by decide) ?_
  have a1 : sh2 = sh_0 := by
    rw [es2, es]
    rfl
  have a2 : mi2 = mi_s := by
    rw [em2, em]
    rfl
  have a3 : mr2 = mr_s := by
    rw [er2, er]
    rfl
  rw [a1, a2, a3] at hS2
  rw [a1, a2, a3]
  exact ev_mo (lw_loop hN2 0 (by decide) sh_0 mi_s mr_s (inv_0 hS2)) (Nat.le_refl _) (by decide) (by decide)
/-- YOUR PART: from the entry, for every script of at most 2560 ints, the law comes to its end with true -/
theorem whole_start {p : Program} {e : Env} {s : State} {m : MethodId} {below : List Frame} {meth : Method} {c : Code} (l : Launch) {b L : Nat} {xs : Nat → Int32} (hL : L ≤ 2560) (C0 : lw_At p s m meth c b L xs) : W p l e room_1 s m #[Value.ref b] below meth c s.heap [] 0 0 (lw_Z below #[Value.ref b] s) (entryFrame m ([Value.ref b] : List Value).toArray 4) := by
  exact law_of l hL C0 (lw_go hL)
-- ===== YOUR PART ENDS =====
set_option maxHeartbeats 4000000 in
theorem lw_walk (l : Launch) (b : Addr) (xs : List Int32) : MetFree l x (headSpec (Jvm.Cond.code x code maxLocals ret :: tables_1) room_1) (lw_P b xs) (fun _ _ _ _ _ => True) lw_Q := by
  refine MetFree.of_bodyS (code := code) (maxLocals := maxLocals) (ret := ret) (by decide) ?_ ?_
  · intro args s m h hn
    obtain ⟨meth, c, h1, h2, h3, h4, h5, h6, -, -⟩ := Cond.code_spec hn (atoms_spec (ws := Jvm.Cond.code x code maxLocals ret :: tables_1) h _ List.mem_cons_self)
    exact ⟨meth, c, h1, h2, h3, h4, h5, h6⟩
  · intro p e s m args below meth c s₁ B hml0 hP _
    obtain ⟨rfl, hx, hbd, hgv⟩ := hP
    obtain ⟨scr, harrAt, hlist, hof, hsmall⟩ := hx
    obtain ⟨hcb, hkn, -, -⟩ := State.arrayAt?_spec harrAt
    have hown : s.vm.findClass R_law = some m.cls := findClass_of_methodNamed B.named
    have hts0 : ∀ c ∈ (Jvm.Cond.code x code maxLocals ret :: tables_1), c.before #[Value.ref b] s = true := atoms_spec (ws := Jvm.Cond.code x code maxLocals ret :: tables_1) B.pre
    have hts : ∀ w ∈ lw_tbl, w.before #[Value.ref b] s = true := k2_hts_sels lw_privs (fun w hw => hts0 w (List.mem_cons_of_mem _ hw)) lw_privs_ok
    have hml : c.maxLocals = 4 := B.maxLocals_eq (hts0 _ List.mem_cons_self)
    have X₀ : Stand p l e room_1 s m #[Value.ref b] below meth c s₁ [] 0 0 := Stand.of_body B
    have hh0 : s₁.heap = s.heap := by rw [B.state]; rfl
    have hsz : scr.slots.size = xs.length := by rw [← Array.length_toList, hlist, List.length_map]
    have hval : ∀ j : Nat, j < xs.length → scr.slots[j]? = some (.int (xs.getD j 0)) := fun j hj => by
      rw [← Array.getElem?_toList, hlist]
      simp [hj]
    have hbl : b < s.heap.size := (Array.getElem?_eq_some_iff.mp hcb).1
    have hX : va_X b xs.length (fun j => xs.getD j 0) s s.heap := ⟨scr, hcb, hof, hkn, hsz, hval⟩
    have K : W p l e room_1 s m #[Value.ref b] below meth c s₁.heap [] 0 0 (lw_Z below #[Value.ref b] s) (entryFrame m ([Value.ref b] : List Value).toArray 4) := by
      rw [hh0]
      exact whole_start l hbd ⟨B.exec, B.bytes, B.returns, hml, hown, hts, hX, hbl, B.notSynchronized, hgv⟩
    obtain ⟨t, a1, o, b1, b2, b3⟩ := K s₁ rfl X₀
    exact ⟨t, o, a1, b1, b2, b3⟩
theorem lw_pre_spec {args : Array Value} {s : State} (h : (Jvm.Cond.and given_1 narrow_1).before args s = true) (hr : rest_1_c.before args s = true) : ∃ (b : Addr) (xs : List Int32), lw_P b xs args s := by
  have hs := flat_of_before _ h
  have hq := flat_of_before _ hr
  have hc : (Cond.count 1).before args s = true := hs _ (by decide +kernel)
  have harr : (Cond.arrayOf (.arg 0) .int).before args s = true := hs _ (by decide +kernel)
  have hle : (Cond.le (.length (.arg 0)) (.int 2560)).before args s = true := hs _ (by decide +kernel)
  have hlen : (Cond.isInt (.length (.arg 0))).before args s = true := hq _ (by decide +kernel)
  have hall : (Cond.all (.arg 0) (.isInt (.elem (.arg 0) (.index 0)))).before args s = true := hq _ (by decide +kernel)
  obtain ⟨b, xs, hb, hx⟩ := State.ints_of_pre rfl harr hlen hall
  have hsm : xs.length < 2 ^ 31 := hx.choose_spec.2.2.2
  have hev : (Term.length (.arg 0)).eval args s none [] s = some (.int xs.length.toInt32) := hx.length_eval hb
  have hv := Cond.le_ints hev (show (Term.int 2560).eval args s none [] s = some (.int 2560) from rfl)
  have hd : xs.length.toInt32 ≤ 2560 := by
    simpa [Cond.before, Cond.holds, hv] using hle
  have hN : xs.length ≤ 2560 := (Int32.ofNat_le_ofNat hsm (by decide)).mp (show Int32.ofNat xs.length ≤ Int32.ofNat 2560 from hd)
  exact ⟨b, xs, Cond.one_arg hc (show args[0]? = some (.ref b) from hb), hx, hN, h⟩
theorem lw_comes (l : Launch) : Comes l x (Jvm.Cond.code x code maxLocals ret :: tables_1) room_1 (fun tb e args s => Calls_1 tb e args s ∧ rest_1 tb e args s ∧ Pre_1 tb e args s)
    (fun _ _ args s o t => lw_Q args s o t) := by
  intro p e ha hc hk s m args below hf hfit hheap happ hpre
  obtain ⟨b, xs, hP⟩ := lw_pre_spec hpre.2.2 hpre.2.1
  obtain ⟨k, o, h1, h2, h3, hQ⟩ := lw_walk l b xs p e ha hc hk s m args below hf ((Spec.applies_iff_loose hf).mp happ).1 hP trivial
  exact ⟨k, o, h1, h2, h3, hQ⟩
theorem lw_frame {s t : State} {o : Outcome} {args : Array Value} (h : Framed s o t [] 600000 7302250) :
    Framed s o t (fieldLocs frame_1_writes args s ++ arrayLocs frame_1_arrays args s ++ staticLocs frame_1_statics s) 600000 7302250 := h
theorem lw_limb (L : Cond) (hL : ∀ (args : Array Value) (s t : State), L.after args s (.returned (some (.int 1))) t = true) :
    ArmFor flags0 classFile x code maxLocals ret World_1 tables_1 room_1 Calls_1 rest_1 Pre_1
      (fun tb e a s o t => postC L tb e a s o t ∧ Framed s o t (fieldLocs frame_1_writes a s ++ arrayLocs frame_1_arrays a s ++ staticLocs frame_1_statics s) 600000 7302250) := by
  intro l _ _ _ p e ha hc hk s m args below hf hfit hheap happ hpre
  obtain ⟨k, o, h1, h2, h3, rfl, hF⟩ := lw_comes l p e ha hc hk s m args below hf hfit hheap happ hpre
  exact ⟨k, _, h1, h2, h3, hL args s _, lw_frame hF⟩
theorem i_vc : Claimed_1_1 ∧ Claimed_1_2 := ⟨lw_limb limb_1_1 (fun args s t => by simp [limb_1_1, Cond.after, Cond.holds, Cond.value]), lw_limb limb_1_2 (fun args s t => Cond.after_iff.mpr (by
  first | (rw [show limb_1_2 = Cond.eq .result (.int 1) from rfl, Cond.eq_ints (x := 1) (y := 1) rfl rfl]; simp; done) | (simp [limb_1_2, Cond.value, Term.eval]; done)))⟩
