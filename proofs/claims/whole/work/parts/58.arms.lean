theorem ba_67 {sh : SH} {mr : MR} (h : ba_c sh mr) : 67 ≤ sh.length := by
  have h1 := h.1 66 _ rfl
  have h2 := (List.getElem?_eq_some_iff.mp h1).1
  omega
theorem lw_l {n i : Nat} (h : 67 ≤ n) : ok_l n [some pv_s, some (pv_r 0), some (pv_r 29), some (pv_i (nI (5 * i)))] := ok_lc trivial (ok_lc (show 0 < n by omega) (ok_lc (show 29 < n by omega) (ok_lc trivial ok_ln)))
section LAW
variable {i N : Nat} {xs : Nat → Int32}
/-- what the loop owes for the next call -/
def LN (N : Nat) (xs : Nat → Int32) (i : Nat) : Prop := ∀ sh mi mr, Inv i sh mi mr → EV (some (N, xs)) 2000 (6 * (512 - i)) (150 * (512 - i)) mL_law 18 [some pv_s, some (pv_r 0), some (pv_r 29), some (pv_i (nI (5 * i)))] [] sh mi mr (fun v _ _ _ => v = some (pv_i 1))
theorem lw_nx {sh : SH} {mi : MI} {mr : MR} (hn : LN N xs (i + 1)) (hI : Inv (i + 1) sh mi mr) : EV (some (N, xs)) 2000 (6 * (512 - (i + 1))) (150 * (512 - (i + 1))) mL_law 1148 [some pv_s, some (pv_r 0), some (pv_r 29), some (pv_i (nI (5 * i)))] [] sh mi mr (fun v _ _ _ => v = some (pv_i 1)) := by
  refine ev_iinc (v := nI (5 * (i + 1))) dL_law_1148 rfl ?_ (by decide) ?_
  · rw [show Int32.ofInt 5 = nI 5 from rfl, nI_add]
    rfl
  refine ev_goto (tgt := 18) dL_law_1151 rfl ?_
  exact hn sh mi mr hI
set_option maxRecDepth 100000 in
set_option maxHeartbeats 4000000 in
theorem lw_book {sh : SH} {mi : MI} {mr : MR} (hB : ba_c sh mr) (hI : Inv i sh mi mr) (hi : i < 512) (hN : 5 * i + 5 ≤ N) (hN2 : N ≤ 2560) (hn : LN N xs (i + 1)) : EV (some (N, xs)) 2000 (6 * (512 - i)) (150 * (512 - i)) mL_law 168 [some pv_s, some (pv_r 0), some (pv_r 29), some (pv_i (nI (5 * i)))] [] sh mi mr (fun v _ _ _ => v = some (pv_i 1)) := by
  refine ev_aload_n dL_law_168 rfl ?_
  refine ev_callv (k := 0) (av := []) (d1 := 20) (mc1 := 6) (ms1 := 150) (mc2 := 6 * (512 - (i + 1))) (ms2 := 150 * (512 - (i + 1))) dL_law_169 cv_L_13 (hB.1 0 _ rfl) rfl rfl (Nat.le_of_ble_eq_true rfl) (by decide) (Or.inr ⟨ok_sn, lw_l (ba_67 hB)⟩) (by omega) (by omega) (op_book hI ) ?_
  rintro v_ sh2 mi2 mr2 ⟨r, e_, hB2, h6⟩
  subst e_
  refine ev_aload_n dL_law_172 rfl ?_
  refine ev_callv (k := 29) (av := []) (d1 := 20) (mc1 := 0) (ms1 := 0) (mc2 := 6 * (512 - (i + 1))) (ms2 := 150 * (512 - (i + 1))) dL_law_173 cv_L_17 (hB2.1 29 _ rfl) rfl rfl (Nat.le_of_ble_eq_true rfl) (by decide) (Or.inr ⟨ok_sc trivial ok_sn, lw_l (ba_67 hB2)⟩) (Nat.zero_add _) (Nat.zero_add _) h6 ?_
  rintro v_ sh3 mi3 mr3 ⟨e_, hI3⟩
  subst e_
  refine ev_icmp_eq_t (tgt := 1148) dL_law_176 rfl rfl ?_
  exact lw_nx hn hI3
set_option maxRecDepth 100000 in
set_option maxHeartbeats 4000000 in
theorem lw_gather {sh : SH} {mi : MI} {mr : MR} (hB : ba_c sh mr) (hI : Inv i sh mi mr) (hi : i < 512) (hN : 5 * i + 5 ≤ N) (hN2 : N ≤ 2560) (hn : LN N xs (i + 1)) : EV (some (N, xs)) 2000 (6 * (512 - i)) (150 * (512 - i)) mL_law 181 [some pv_s, some (pv_r 0), some (pv_r 29), some (pv_i (nI (5 * i)))] [] sh mi mr (fun v _ _ _ => v = some (pv_i 1)) := by
  refine ev_aload_n dL_law_181 rfl ?_
  refine ev_sload dL_law_182 rfl ?_
  refine ev_iload_n dL_law_183 rfl ?_
  refine ev_iconst (v := 1) dL_law_184 rfl ?_
  refine ev_iadd dL_law_185 ?_
  refine ev_sld (j := 5 * i + 1) dL_law_186 (nI_add (5 * i) 1) (by omega) (by omega) ?_
  refine ev_sload dL_law_187 rfl ?_
  refine ev_iload_n dL_law_188 rfl ?_
  refine ev_iconst (v := 2) dL_law_189 rfl ?_
  refine ev_iadd dL_law_190 ?_
  refine ev_sld (j := 5 * i + 2) dL_law_191 (nI_add (5 * i) 2) (by omega) (by omega) ?_
  refine ev_callv (k := 0) (av := [pv_i (xs (5 * i + 1)), pv_i (xs (5 * i + 2))]) (d1 := 20) (mc1 := 6) (ms1 := 150) (mc2 := 6 * (512 - (i + 1))) (ms2 := 150 * (512 - (i + 1))) dL_law_192 cv_L_18 (hB.1 0 _ rfl) rfl rfl (Nat.le_of_ble_eq_true rfl) (by decide) (Or.inr ⟨ok_sn, lw_l (ba_67 hB)⟩) (by omega) (by omega) (op_gather hI (xs (5 * i + 1)) (xs (5 * i + 2))) ?_
  rintro v_ sh2 mi2 mr2 ⟨r, e_, hB2, h6⟩
  subst e_
  refine ev_aload_n dL_law_195 rfl ?_
  refine ev_sload dL_law_196 rfl ?_
  refine ev_iload_n dL_law_197 rfl ?_
  refine ev_iconst (v := 1) dL_law_198 rfl ?_
  refine ev_iadd dL_law_199 ?_
  refine ev_sld (j := 5 * i + 1) dL_law_200 (nI_add (5 * i) 1) (by omega) (by omega) ?_
  refine ev_sload dL_law_201 rfl ?_
  refine ev_iload_n dL_law_202 rfl ?_
  refine ev_iconst (v := 2) dL_law_203 rfl ?_
  refine ev_iadd dL_law_204 ?_
  refine ev_sld (j := 5 * i + 2) dL_law_205 (nI_add (5 * i) 2) (by omega) (by omega) ?_
  refine ev_callv (k := 29) (av := [pv_i (xs (5 * i + 1)), pv_i (xs (5 * i + 2))]) (d1 := 20) (mc1 := 0) (ms1 := 0) (mc2 := 6 * (512 - (i + 1))) (ms2 := 150 * (512 - (i + 1))) dL_law_206 cv_L_22 (hB2.1 29 _ rfl) rfl rfl (Nat.le_of_ble_eq_true rfl) (by decide) (Or.inr ⟨ok_sc trivial ok_sn, lw_l (ba_67 hB2)⟩) (Nat.zero_add _) (Nat.zero_add _) h6 ?_
  rintro v_ sh3 mi3 mr3 ⟨e_, hI3⟩
  subst e_
  refine ev_icmp_eq_t (tgt := 1148) dL_law_209 rfl rfl ?_
  exact lw_nx hn hI3
set_option maxRecDepth 100000 in
set_option maxHeartbeats 4000000 in
theorem lw_look {sh : SH} {mi : MI} {mr : MR} (hB : ba_c sh mr) (hI : Inv i sh mi mr) (hi : i < 512) (hN : 5 * i + 5 ≤ N) (hN2 : N ≤ 2560) (hn : LN N xs (i + 1)) : EV (some (N, xs)) 2000 (6 * (512 - i)) (150 * (512 - i)) mL_law 214 [some pv_s, some (pv_r 0), some (pv_r 29), some (pv_i (nI (5 * i)))] [] sh mi mr (fun v _ _ _ => v = some (pv_i 1)) := by
  refine ev_aload_n dL_law_214 rfl ?_
  refine ev_sload dL_law_215 rfl ?_
  refine ev_iload_n dL_law_216 rfl ?_
  refine ev_iconst (v := 1) dL_law_217 rfl ?_
  refine ev_iadd dL_law_218 ?_
  refine ev_sld (j := 5 * i + 1) dL_law_219 (nI_add (5 * i) 1) (by omega) (by omega) ?_
  refine ev_sload dL_law_220 rfl ?_
  refine ev_iload_n dL_law_221 rfl ?_
  refine ev_iconst (v := 2) dL_law_222 rfl ?_
  refine ev_iadd dL_law_223 ?_
  refine ev_sld (j := 5 * i + 2) dL_law_224 (nI_add (5 * i) 2) (by omega) (by omega) ?_
  refine ev_sload dL_law_225 rfl ?_
  refine ev_iload_n dL_law_226 rfl ?_
  refine ev_iconst (v := 3) dL_law_227 rfl ?_
  refine ev_iadd dL_law_228 ?_
  refine ev_sld (j := 5 * i + 3) dL_law_229 (nI_add (5 * i) 3) (by omega) (by omega) ?_
  refine ev_callv (k := 0) (av := [pv_i (xs (5 * i + 1)), pv_i (xs (5 * i + 2)), pv_i (xs (5 * i + 3))]) (d1 := 20) (mc1 := 6) (ms1 := 150) (mc2 := 6 * (512 - (i + 1))) (ms2 := 150 * (512 - (i + 1))) dL_law_230 cv_L_23 (hB.1 0 _ rfl) rfl rfl (Nat.le_of_ble_eq_true rfl) (by decide) (Or.inr ⟨ok_sn, lw_l (ba_67 hB)⟩) (by omega) (by omega) (op_look hI (xs (5 * i + 1)) (xs (5 * i + 2)) (xs (5 * i + 3))) ?_
  rintro v_ sh2 mi2 mr2 ⟨r, e_, hB2, h6⟩
  subst e_
  refine ev_aload_n dL_law_233 rfl ?_
  refine ev_sload dL_law_234 rfl ?_
  refine ev_iload_n dL_law_235 rfl ?_
  refine ev_iconst (v := 1) dL_law_236 rfl ?_
  refine ev_iadd dL_law_237 ?_
  refine ev_sld (j := 5 * i + 1) dL_law_238 (nI_add (5 * i) 1) (by omega) (by omega) ?_
  refine ev_sload dL_law_239 rfl ?_
  refine ev_iload_n dL_law_240 rfl ?_
  refine ev_iconst (v := 2) dL_law_241 rfl ?_
  refine ev_iadd dL_law_242 ?_
  refine ev_sld (j := 5 * i + 2) dL_law_243 (nI_add (5 * i) 2) (by omega) (by omega) ?_
  refine ev_sload dL_law_244 rfl ?_
  refine ev_iload_n dL_law_245 rfl ?_
  refine ev_iconst (v := 3) dL_law_246 rfl ?_
  refine ev_iadd dL_law_247 ?_
  refine ev_sld (j := 5 * i + 3) dL_law_248 (nI_add (5 * i) 3) (by omega) (by omega) ?_
  refine ev_callv (k := 29) (av := [pv_i (xs (5 * i + 1)), pv_i (xs (5 * i + 2)), pv_i (xs (5 * i + 3))]) (d1 := 20) (mc1 := 0) (ms1 := 0) (mc2 := 6 * (512 - (i + 1))) (ms2 := 150 * (512 - (i + 1))) dL_law_249 cv_L_27 (hB2.1 29 _ rfl) rfl rfl (Nat.le_of_ble_eq_true rfl) (by decide) (Or.inr ⟨ok_sc trivial ok_sn, lw_l (ba_67 hB2)⟩) (Nat.zero_add _) (Nat.zero_add _) h6 ?_
  rintro v_ sh3 mi3 mr3 ⟨e_, hI3⟩
  subst e_
  refine ev_icmp_eq_t (tgt := 1148) dL_law_252 rfl rfl ?_
  exact lw_nx hn hI3
set_option maxRecDepth 100000 in
set_option maxHeartbeats 4000000 in
theorem lw_pass {sh : SH} {mi : MI} {mr : MR} (hB : ba_c sh mr) (hI : Inv i sh mi mr) (hi : i < 512) (hN : 5 * i + 5 ≤ N) (hN2 : N ≤ 2560) (hn : LN N xs (i + 1)) : EV (some (N, xs)) 2000 (6 * (512 - i)) (150 * (512 - i)) mL_law 257 [some pv_s, some (pv_r 0), some (pv_r 29), some (pv_i (nI (5 * i)))] [] sh mi mr (fun v _ _ _ => v = some (pv_i 1)) := by
  refine ev_aload_n dL_law_257 rfl ?_
  refine ev_sload dL_law_258 rfl ?_
  refine ev_iload_n dL_law_259 rfl ?_
  refine ev_iconst (v := 1) dL_law_260 rfl ?_
  refine ev_iadd dL_law_261 ?_
  refine ev_sld (j := 5 * i + 1) dL_law_262 (nI_add (5 * i) 1) (by omega) (by omega) ?_
  refine ev_callv (k := 0) (av := [pv_i (xs (5 * i + 1))]) (d1 := 20) (mc1 := 6) (ms1 := 150) (mc2 := 6 * (512 - (i + 1))) (ms2 := 150 * (512 - (i + 1))) dL_law_263 cv_L_28 (hB.1 0 _ rfl) rfl rfl (Nat.le_of_ble_eq_true rfl) (by decide) (Or.inr ⟨ok_sn, lw_l (ba_67 hB)⟩) (by omega) (by omega) (op_pass hI (xs (5 * i + 1))) ?_
  rintro v_ sh2 mi2 mr2 ⟨r, e_, hB2, h6⟩
  subst e_
  refine ev_aload_n dL_law_266 rfl ?_
  refine ev_sload dL_law_267 rfl ?_
  refine ev_iload_n dL_law_268 rfl ?_
  refine ev_iconst (v := 1) dL_law_269 rfl ?_
  refine ev_iadd dL_law_270 ?_
  refine ev_sld (j := 5 * i + 1) dL_law_271 (nI_add (5 * i) 1) (by omega) (by omega) ?_
  refine ev_callv (k := 29) (av := [pv_i (xs (5 * i + 1))]) (d1 := 20) (mc1 := 0) (ms1 := 0) (mc2 := 6 * (512 - (i + 1))) (ms2 := 150 * (512 - (i + 1))) dL_law_272 cv_L_32 (hB2.1 29 _ rfl) rfl rfl (Nat.le_of_ble_eq_true rfl) (by decide) (Or.inr ⟨ok_sc trivial ok_sn, lw_l (ba_67 hB2)⟩) (Nat.zero_add _) (Nat.zero_add _) h6 ?_
  rintro v_ sh3 mi3 mr3 ⟨e_, hI3⟩
  subst e_
  refine ev_icmp_eq_t (tgt := 1148) dL_law_275 rfl rfl ?_
  exact lw_nx hn hI3
set_option maxRecDepth 100000 in
set_option maxHeartbeats 4000000 in
theorem lw_told {sh : SH} {mi : MI} {mr : MR} (hB : ba_c sh mr) (hI : Inv i sh mi mr) (hi : i < 512) (hN : 5 * i + 5 ≤ N) (hN2 : N ≤ 2560) (hn : LN N xs (i + 1)) : EV (some (N, xs)) 2000 (6 * (512 - i)) (150 * (512 - i)) mL_law 280 [some pv_s, some (pv_r 0), some (pv_r 29), some (pv_i (nI (5 * i)))] [] sh mi mr (fun v _ _ _ => v = some (pv_i 1)) := by
  refine ev_aload_n dL_law_280 rfl ?_
  refine ev_sload dL_law_281 rfl ?_
  refine ev_iload_n dL_law_282 rfl ?_
  refine ev_iconst (v := 1) dL_law_283 rfl ?_
  refine ev_iadd dL_law_284 ?_
  refine ev_sld (j := 5 * i + 1) dL_law_285 (nI_add (5 * i) 1) (by omega) (by omega) ?_
  refine ev_sload dL_law_286 rfl ?_
  refine ev_iload_n dL_law_287 rfl ?_
  refine ev_iconst (v := 2) dL_law_288 rfl ?_
  refine ev_iadd dL_law_289 ?_
  refine ev_sld (j := 5 * i + 2) dL_law_290 (nI_add (5 * i) 2) (by omega) (by omega) ?_
  refine ev_callv (k := 0) (av := [pv_i (xs (5 * i + 1)), pv_i (xs (5 * i + 2))]) (d1 := 20) (mc1 := 6) (ms1 := 150) (mc2 := 6 * (512 - (i + 1))) (ms2 := 150 * (512 - (i + 1))) dL_law_291 cv_L_33 (hB.1 0 _ rfl) rfl rfl (Nat.le_of_ble_eq_true rfl) (by decide) (Or.inr ⟨ok_sn, lw_l (ba_67 hB)⟩) (by omega) (by omega) (op_told hI (xs (5 * i + 1)) (xs (5 * i + 2))) ?_
  rintro v_ sh2 mi2 mr2 ⟨r, e_, hB2, h6⟩
  subst e_
  refine ev_aload_n dL_law_294 rfl ?_
  refine ev_sload dL_law_295 rfl ?_
  refine ev_iload_n dL_law_296 rfl ?_
  refine ev_iconst (v := 1) dL_law_297 rfl ?_
  refine ev_iadd dL_law_298 ?_
  refine ev_sld (j := 5 * i + 1) dL_law_299 (nI_add (5 * i) 1) (by omega) (by omega) ?_
  refine ev_sload dL_law_300 rfl ?_
  refine ev_iload_n dL_law_301 rfl ?_
  refine ev_iconst (v := 2) dL_law_302 rfl ?_
  refine ev_iadd dL_law_303 ?_
  refine ev_sld (j := 5 * i + 2) dL_law_304 (nI_add (5 * i) 2) (by omega) (by omega) ?_
  refine ev_callv (k := 29) (av := [pv_i (xs (5 * i + 1)), pv_i (xs (5 * i + 2))]) (d1 := 20) (mc1 := 0) (ms1 := 0) (mc2 := 6 * (512 - (i + 1))) (ms2 := 150 * (512 - (i + 1))) dL_law_305 cv_L_36 (hB2.1 29 _ rfl) rfl rfl (Nat.le_of_ble_eq_true rfl) (by decide) (Or.inr ⟨ok_sc trivial ok_sn, lw_l (ba_67 hB2)⟩) (Nat.zero_add _) (Nat.zero_add _) h6 ?_
  rintro v_ sh3 mi3 mr3 ⟨e_, hI3⟩
  subst e_
  refine ev_icmp_eq_t (tgt := 1148) dL_law_308 rfl rfl ?_
  exact lw_nx hn hI3
set_option maxRecDepth 100000 in
set_option maxHeartbeats 4000000 in
theorem lw_there {sh : SH} {mi : MI} {mr : MR} (hB : ba_c sh mr) (hI : Inv i sh mi mr) (hi : i < 512) (hN : 5 * i + 5 ≤ N) (hN2 : N ≤ 2560) (hn : LN N xs (i + 1)) : EV (some (N, xs)) 2000 (6 * (512 - i)) (150 * (512 - i)) mL_law 313 [some pv_s, some (pv_r 0), some (pv_r 29), some (pv_i (nI (5 * i)))] [] sh mi mr (fun v _ _ _ => v = some (pv_i 1)) := by
  refine ev_aload_n dL_law_313 rfl ?_
  refine ev_sload dL_law_314 rfl ?_
  refine ev_iload_n dL_law_315 rfl ?_
  refine ev_iconst (v := 1) dL_law_316 rfl ?_
  refine ev_iadd dL_law_317 ?_
  refine ev_sld (j := 5 * i + 1) dL_law_318 (nI_add (5 * i) 1) (by omega) (by omega) ?_
  refine ev_sload dL_law_319 rfl ?_
  refine ev_iload_n dL_law_320 rfl ?_
  refine ev_iconst (v := 2) dL_law_321 rfl ?_
  refine ev_iadd dL_law_322 ?_
  refine ev_sld (j := 5 * i + 2) dL_law_323 (nI_add (5 * i) 2) (by omega) (by omega) ?_
  refine ev_callv (k := 0) (av := [pv_i (xs (5 * i + 1)), pv_i (xs (5 * i + 2))]) (d1 := 20) (mc1 := 6) (ms1 := 150) (mc2 := 6 * (512 - (i + 1))) (ms2 := 150 * (512 - (i + 1))) dL_law_324 cv_L_37 (hB.1 0 _ rfl) rfl rfl (Nat.le_of_ble_eq_true rfl) (by decide) (Or.inr ⟨ok_sn, lw_l (ba_67 hB)⟩) (by omega) (by omega) (op_there hI (xs (5 * i + 1)) (xs (5 * i + 2))) ?_
  rintro v_ sh2 mi2 mr2 ⟨r, e_, hB2, h6⟩
  subst e_
  refine ev_aload_n dL_law_327 rfl ?_
  refine ev_sload dL_law_328 rfl ?_
  refine ev_iload_n dL_law_329 rfl ?_
  refine ev_iconst (v := 1) dL_law_330 rfl ?_
  refine ev_iadd dL_law_331 ?_
  refine ev_sld (j := 5 * i + 1) dL_law_332 (nI_add (5 * i) 1) (by omega) (by omega) ?_
  refine ev_sload dL_law_333 rfl ?_
  refine ev_iload_n dL_law_334 rfl ?_
  refine ev_iconst (v := 2) dL_law_335 rfl ?_
  refine ev_iadd dL_law_336 ?_
  refine ev_sld (j := 5 * i + 2) dL_law_337 (nI_add (5 * i) 2) (by omega) (by omega) ?_
  refine ev_callv (k := 29) (av := [pv_i (xs (5 * i + 1)), pv_i (xs (5 * i + 2))]) (d1 := 20) (mc1 := 0) (ms1 := 0) (mc2 := 6 * (512 - (i + 1))) (ms2 := 150 * (512 - (i + 1))) dL_law_338 cv_L_40 (hB2.1 29 _ rfl) rfl rfl (Nat.le_of_ble_eq_true rfl) (by decide) (Or.inr ⟨ok_sc trivial ok_sn, lw_l (ba_67 hB2)⟩) (Nat.zero_add _) (Nat.zero_add _) h6 ?_
  rintro v_ sh3 mi3 mr3 ⟨e_, hI3⟩
  subst e_
  refine ev_icmp_eq_t (tgt := 1148) dL_law_341 rfl rfl ?_
  exact lw_nx hn hI3
set_option maxRecDepth 100000 in
set_option maxHeartbeats 4000000 in
theorem lw_gone {sh : SH} {mi : MI} {mr : MR} (hB : ba_c sh mr) (hI : Inv i sh mi mr) (hi : i < 512) (hN : 5 * i + 5 ≤ N) (hN2 : N ≤ 2560) (hn : LN N xs (i + 1)) : EV (some (N, xs)) 2000 (6 * (512 - i)) (150 * (512 - i)) mL_law 346 [some pv_s, some (pv_r 0), some (pv_r 29), some (pv_i (nI (5 * i)))] [] sh mi mr (fun v _ _ _ => v = some (pv_i 1)) := by
  refine ev_aload_n dL_law_346 rfl ?_
  refine ev_sload dL_law_347 rfl ?_
  refine ev_iload_n dL_law_348 rfl ?_
  refine ev_iconst (v := 1) dL_law_349 rfl ?_
  refine ev_iadd dL_law_350 ?_
  refine ev_sld (j := 5 * i + 1) dL_law_351 (nI_add (5 * i) 1) (by omega) (by omega) ?_
  refine ev_sload dL_law_352 rfl ?_
  refine ev_iload_n dL_law_353 rfl ?_
  refine ev_iconst (v := 2) dL_law_354 rfl ?_
  refine ev_iadd dL_law_355 ?_
  refine ev_sld (j := 5 * i + 2) dL_law_356 (nI_add (5 * i) 2) (by omega) (by omega) ?_
  refine ev_sload dL_law_357 rfl ?_
  refine ev_iload_n dL_law_358 rfl ?_
  refine ev_iconst (v := 3) dL_law_359 rfl ?_
  refine ev_iadd dL_law_360 ?_
  refine ev_sld (j := 5 * i + 3) dL_law_361 (nI_add (5 * i) 3) (by omega) (by omega) ?_
  refine ev_callv (k := 0) (av := [pv_i (xs (5 * i + 1)), pv_i (xs (5 * i + 2)), pv_i (xs (5 * i + 3))]) (d1 := 20) (mc1 := 6) (ms1 := 150) (mc2 := 6 * (512 - (i + 1))) (ms2 := 150 * (512 - (i + 1))) dL_law_362 cv_L_41 (hB.1 0 _ rfl) rfl rfl (Nat.le_of_ble_eq_true rfl) (by decide) (Or.inr ⟨ok_sn, lw_l (ba_67 hB)⟩) (by omega) (by omega) (op_gone hI (xs (5 * i + 1)) (xs (5 * i + 2)) (xs (5 * i + 3))) ?_
  rintro v_ sh2 mi2 mr2 ⟨r, e_, hB2, h6⟩
  subst e_
  refine ev_aload_n dL_law_365 rfl ?_
  refine ev_sload dL_law_366 rfl ?_
  refine ev_iload_n dL_law_367 rfl ?_
  refine ev_iconst (v := 1) dL_law_368 rfl ?_
  refine ev_iadd dL_law_369 ?_
  refine ev_sld (j := 5 * i + 1) dL_law_370 (nI_add (5 * i) 1) (by omega) (by omega) ?_
  refine ev_sload dL_law_371 rfl ?_
  refine ev_iload_n dL_law_372 rfl ?_
  refine ev_iconst (v := 2) dL_law_373 rfl ?_
  refine ev_iadd dL_law_374 ?_
  refine ev_sld (j := 5 * i + 2) dL_law_375 (nI_add (5 * i) 2) (by omega) (by omega) ?_
  refine ev_sload dL_law_376 rfl ?_
  refine ev_iload_n dL_law_377 rfl ?_
  refine ev_iconst (v := 3) dL_law_378 rfl ?_
  refine ev_iadd dL_law_379 ?_
  refine ev_sld (j := 5 * i + 3) dL_law_380 (nI_add (5 * i) 3) (by omega) (by omega) ?_
  refine ev_callv (k := 29) (av := [pv_i (xs (5 * i + 1)), pv_i (xs (5 * i + 2)), pv_i (xs (5 * i + 3))]) (d1 := 20) (mc1 := 0) (ms1 := 0) (mc2 := 6 * (512 - (i + 1))) (ms2 := 150 * (512 - (i + 1))) dL_law_381 cv_L_44 (hB2.1 29 _ rfl) rfl rfl (Nat.le_of_ble_eq_true rfl) (by decide) (Or.inr ⟨ok_sc trivial ok_sn, lw_l (ba_67 hB2)⟩) (Nat.zero_add _) (Nat.zero_add _) h6 ?_
  rintro v_ sh3 mi3 mr3 ⟨e_, hI3⟩
  subst e_
  refine ev_icmp_eq_t (tgt := 1148) dL_law_384 rfl rfl ?_
  exact lw_nx hn hI3
set_option maxRecDepth 100000 in
set_option maxHeartbeats 4000000 in
theorem lw_hours {sh : SH} {mi : MI} {mr : MR} (hB : ba_c sh mr) (hI : Inv i sh mi mr) (hi : i < 512) (hN : 5 * i + 5 ≤ N) (hN2 : N ≤ 2560) (hn : LN N xs (i + 1)) : EV (some (N, xs)) 2000 (6 * (512 - i)) (150 * (512 - i)) mL_law 389 [some pv_s, some (pv_r 0), some (pv_r 29), some (pv_i (nI (5 * i)))] [] sh mi mr (fun v _ _ _ => v = some (pv_i 1)) := by
  refine ev_aload_n dL_law_389 rfl ?_
  refine ev_sload dL_law_390 rfl ?_
  refine ev_iload_n dL_law_391 rfl ?_
  refine ev_iconst (v := 1) dL_law_392 rfl ?_
  refine ev_iadd dL_law_393 ?_
  refine ev_sld (j := 5 * i + 1) dL_law_394 (nI_add (5 * i) 1) (by omega) (by omega) ?_
  refine ev_sload dL_law_395 rfl ?_
  refine ev_iload_n dL_law_396 rfl ?_
  refine ev_iconst (v := 2) dL_law_397 rfl ?_
  refine ev_iadd dL_law_398 ?_
  refine ev_sld (j := 5 * i + 2) dL_law_399 (nI_add (5 * i) 2) (by omega) (by omega) ?_
  refine ev_sload dL_law_400 rfl ?_
  refine ev_iload_n dL_law_401 rfl ?_
  refine ev_iconst (v := 3) dL_law_402 rfl ?_
  refine ev_iadd dL_law_403 ?_
  refine ev_sld (j := 5 * i + 3) dL_law_404 (nI_add (5 * i) 3) (by omega) (by omega) ?_
  refine ev_callv (k := 0) (av := [pv_i (xs (5 * i + 1)), pv_i (xs (5 * i + 2)), pv_i (xs (5 * i + 3))]) (d1 := 20) (mc1 := 6) (ms1 := 150) (mc2 := 6 * (512 - (i + 1))) (ms2 := 150 * (512 - (i + 1))) dL_law_405 cv_L_45 (hB.1 0 _ rfl) rfl rfl (Nat.le_of_ble_eq_true rfl) (by decide) (Or.inr ⟨ok_sn, lw_l (ba_67 hB)⟩) (by omega) (by omega) (op_hours hI (xs (5 * i + 1)) (xs (5 * i + 2)) (xs (5 * i + 3))) ?_
  rintro v_ sh2 mi2 mr2 ⟨r, e_, hB2, h6⟩
  subst e_
  refine ev_aload_n dL_law_408 rfl ?_
  refine ev_sload dL_law_409 rfl ?_
  refine ev_iload_n dL_law_410 rfl ?_
  refine ev_iconst (v := 1) dL_law_411 rfl ?_
  refine ev_iadd dL_law_412 ?_
  refine ev_sld (j := 5 * i + 1) dL_law_413 (nI_add (5 * i) 1) (by omega) (by omega) ?_
  refine ev_sload dL_law_414 rfl ?_
  refine ev_iload_n dL_law_415 rfl ?_
  refine ev_iconst (v := 2) dL_law_416 rfl ?_
  refine ev_iadd dL_law_417 ?_
  refine ev_sld (j := 5 * i + 2) dL_law_418 (nI_add (5 * i) 2) (by omega) (by omega) ?_
  refine ev_sload dL_law_419 rfl ?_
  refine ev_iload_n dL_law_420 rfl ?_
  refine ev_iconst (v := 3) dL_law_421 rfl ?_
  refine ev_iadd dL_law_422 ?_
  refine ev_sld (j := 5 * i + 3) dL_law_423 (nI_add (5 * i) 3) (by omega) (by omega) ?_
  refine ev_callv (k := 29) (av := [pv_i (xs (5 * i + 1)), pv_i (xs (5 * i + 2)), pv_i (xs (5 * i + 3))]) (d1 := 20) (mc1 := 0) (ms1 := 0) (mc2 := 6 * (512 - (i + 1))) (ms2 := 150 * (512 - (i + 1))) dL_law_424 cv_L_48 (hB2.1 29 _ rfl) rfl rfl (Nat.le_of_ble_eq_true rfl) (by decide) (Or.inr ⟨ok_sc trivial ok_sn, lw_l (ba_67 hB2)⟩) (Nat.zero_add _) (Nat.zero_add _) h6 ?_
  rintro v_ sh3 mi3 mr3 ⟨e_, hI3⟩
  subst e_
  refine ev_icmp_eq_t (tgt := 1148) dL_law_427 rfl rfl ?_
  exact lw_nx hn hI3
set_option maxRecDepth 100000 in
set_option maxHeartbeats 4000000 in
theorem lw_promise {sh : SH} {mi : MI} {mr : MR} (hB : ba_c sh mr) (hI : Inv i sh mi mr) (hi : i < 512) (hN : 5 * i + 5 ≤ N) (hN2 : N ≤ 2560) (hn : LN N xs (i + 1)) : EV (some (N, xs)) 2000 (6 * (512 - i)) (150 * (512 - i)) mL_law 432 [some pv_s, some (pv_r 0), some (pv_r 29), some (pv_i (nI (5 * i)))] [] sh mi mr (fun v _ _ _ => v = some (pv_i 1)) := by
  refine ev_aload_n dL_law_432 rfl ?_
  refine ev_sload dL_law_433 rfl ?_
  refine ev_iload_n dL_law_434 rfl ?_
  refine ev_iconst (v := 1) dL_law_435 rfl ?_
  refine ev_iadd dL_law_436 ?_
  refine ev_sld (j := 5 * i + 1) dL_law_437 (nI_add (5 * i) 1) (by omega) (by omega) ?_
  refine ev_sload dL_law_438 rfl ?_
  refine ev_iload_n dL_law_439 rfl ?_
  refine ev_iconst (v := 2) dL_law_440 rfl ?_
  refine ev_iadd dL_law_441 ?_
  refine ev_sld (j := 5 * i + 2) dL_law_442 (nI_add (5 * i) 2) (by omega) (by omega) ?_
  refine ev_sload dL_law_443 rfl ?_
  refine ev_iload_n dL_law_444 rfl ?_
  refine ev_iconst (v := 3) dL_law_445 rfl ?_
  refine ev_iadd dL_law_446 ?_
  refine ev_sld (j := 5 * i + 3) dL_law_447 (nI_add (5 * i) 3) (by omega) (by omega) ?_
  refine ev_sload dL_law_448 rfl ?_
  refine ev_iload_n dL_law_449 rfl ?_
  refine ev_iconst (v := 4) dL_law_450 rfl ?_
  refine ev_iadd dL_law_451 ?_
  refine ev_sld (j := 5 * i + 4) dL_law_452 (nI_add (5 * i) 4) (by omega) (by omega) ?_
  refine ev_callv (k := 0) (av := [pv_i (xs (5 * i + 1)), pv_i (xs (5 * i + 2)), pv_i (xs (5 * i + 3)), pv_i (xs (5 * i + 4))]) (d1 := 20) (mc1 := 6) (ms1 := 150) (mc2 := 6 * (512 - (i + 1))) (ms2 := 150 * (512 - (i + 1))) dL_law_453 cv_L_49 (hB.1 0 _ rfl) rfl rfl (Nat.le_of_ble_eq_true rfl) (by decide) (Or.inr ⟨ok_sn, lw_l (ba_67 hB)⟩) (by omega) (by omega) (op_promise hI (xs (5 * i + 1)) (xs (5 * i + 2)) (xs (5 * i + 3)) (xs (5 * i + 4))) ?_
  rintro v_ sh2 mi2 mr2 ⟨r, e_, hB2, h6⟩
  subst e_
  refine ev_aload_n dL_law_456 rfl ?_
  refine ev_sload dL_law_457 rfl ?_
  refine ev_iload_n dL_law_458 rfl ?_
  refine ev_iconst (v := 1) dL_law_459 rfl ?_
  refine ev_iadd dL_law_460 ?_
  refine ev_sld (j := 5 * i + 1) dL_law_461 (nI_add (5 * i) 1) (by omega) (by omega) ?_
  refine ev_sload dL_law_462 rfl ?_
  refine ev_iload_n dL_law_463 rfl ?_
  refine ev_iconst (v := 2) dL_law_464 rfl ?_
  refine ev_iadd dL_law_465 ?_
  refine ev_sld (j := 5 * i + 2) dL_law_466 (nI_add (5 * i) 2) (by omega) (by omega) ?_
  refine ev_sload dL_law_467 rfl ?_
  refine ev_iload_n dL_law_468 rfl ?_
  refine ev_iconst (v := 3) dL_law_469 rfl ?_
  refine ev_iadd dL_law_470 ?_
  refine ev_sld (j := 5 * i + 3) dL_law_471 (nI_add (5 * i) 3) (by omega) (by omega) ?_
  refine ev_sload dL_law_472 rfl ?_
  refine ev_iload_n dL_law_473 rfl ?_
  refine ev_iconst (v := 4) dL_law_474 rfl ?_
  refine ev_iadd dL_law_475 ?_
  refine ev_sld (j := 5 * i + 4) dL_law_476 (nI_add (5 * i) 4) (by omega) (by omega) ?_
  refine ev_callv (k := 29) (av := [pv_i (xs (5 * i + 1)), pv_i (xs (5 * i + 2)), pv_i (xs (5 * i + 3)), pv_i (xs (5 * i + 4))]) (d1 := 20) (mc1 := 0) (ms1 := 0) (mc2 := 6 * (512 - (i + 1))) (ms2 := 150 * (512 - (i + 1))) dL_law_477 cv_L_53 (hB2.1 29 _ rfl) rfl rfl (Nat.le_of_ble_eq_true rfl) (by decide) (Or.inr ⟨ok_sc trivial ok_sn, lw_l (ba_67 hB2)⟩) (Nat.zero_add _) (Nat.zero_add _) h6 ?_
  rintro v_ sh3 mi3 mr3 ⟨e_, hI3⟩
  subst e_
  refine ev_icmp_eq_t (tgt := 1148) dL_law_480 rfl rfl ?_
  exact lw_nx hn hI3
set_option maxRecDepth 100000 in
set_option maxHeartbeats 4000000 in
theorem lw_plan {sh : SH} {mi : MI} {mr : MR} (hB : ba_c sh mr) (hI : Inv i sh mi mr) (hi : i < 512) (hN : 5 * i + 5 ≤ N) (hN2 : N ≤ 2560) (hn : LN N xs (i + 1)) : EV (some (N, xs)) 2000 (6 * (512 - i)) (150 * (512 - i)) mL_law 485 [some pv_s, some (pv_r 0), some (pv_r 29), some (pv_i (nI (5 * i)))] [] sh mi mr (fun v _ _ _ => v = some (pv_i 1)) := by
  refine ev_aload_n dL_law_485 rfl ?_
  refine ev_sload dL_law_486 rfl ?_
  refine ev_iload_n dL_law_487 rfl ?_
  refine ev_iconst (v := 1) dL_law_488 rfl ?_
  refine ev_iadd dL_law_489 ?_
  refine ev_sld (j := 5 * i + 1) dL_law_490 (nI_add (5 * i) 1) (by omega) (by omega) ?_
  refine ev_callv (k := 0) (av := [pv_i (xs (5 * i + 1))]) (d1 := 20) (mc1 := 6) (ms1 := 150) (mc2 := 6 * (512 - (i + 1))) (ms2 := 150 * (512 - (i + 1))) dL_law_491 cv_L_54 (hB.1 0 _ rfl) rfl rfl (Nat.le_of_ble_eq_true rfl) (by decide) (Or.inr ⟨ok_sn, lw_l (ba_67 hB)⟩) (by omega) (by omega) (op_plan hI (xs (5 * i + 1))) ?_
  rintro v_ sh2 mi2 mr2 ⟨r, e_, hB2, h6⟩
  subst e_
  refine ev_aload_n dL_law_494 rfl ?_
  refine ev_sload dL_law_495 rfl ?_
  refine ev_iload_n dL_law_496 rfl ?_
  refine ev_iconst (v := 1) dL_law_497 rfl ?_
  refine ev_iadd dL_law_498 ?_
  refine ev_sld (j := 5 * i + 1) dL_law_499 (nI_add (5 * i) 1) (by omega) (by omega) ?_
  refine ev_callv (k := 29) (av := [pv_i (xs (5 * i + 1))]) (d1 := 20) (mc1 := 0) (ms1 := 0) (mc2 := 6 * (512 - (i + 1))) (ms2 := 150 * (512 - (i + 1))) dL_law_500 cv_L_57 (hB2.1 29 _ rfl) rfl rfl (Nat.le_of_ble_eq_true rfl) (by decide) (Or.inr ⟨ok_sc trivial ok_sn, lw_l (ba_67 hB2)⟩) (Nat.zero_add _) (Nat.zero_add _) h6 ?_
  rintro v_ sh3 mi3 mr3 ⟨e_, hI3⟩
  subst e_
  refine ev_icmp_eq_t (tgt := 1148) dL_law_503 rfl rfl ?_
  exact lw_nx hn hI3
set_option maxRecDepth 100000 in
set_option maxHeartbeats 4000000 in
theorem lw_planned {sh : SH} {mi : MI} {mr : MR} (hB : ba_c sh mr) (hI : Inv i sh mi mr) (hi : i < 512) (hN : 5 * i + 5 ≤ N) (hN2 : N ≤ 2560) (hn : LN N xs (i + 1)) : EV (some (N, xs)) 2000 (6 * (512 - i)) (150 * (512 - i)) mL_law 508 [some pv_s, some (pv_r 0), some (pv_r 29), some (pv_i (nI (5 * i)))] [] sh mi mr (fun v _ _ _ => v = some (pv_i 1)) := by
  refine ev_aload_n dL_law_508 rfl ?_
  refine ev_sload dL_law_509 rfl ?_
  refine ev_iload_n dL_law_510 rfl ?_
  refine ev_iconst (v := 1) dL_law_511 rfl ?_
  refine ev_iadd dL_law_512 ?_
  refine ev_sld (j := 5 * i + 1) dL_law_513 (nI_add (5 * i) 1) (by omega) (by omega) ?_
  refine ev_sload dL_law_514 rfl ?_
  refine ev_iload_n dL_law_515 rfl ?_
  refine ev_iconst (v := 2) dL_law_516 rfl ?_
  refine ev_iadd dL_law_517 ?_
  refine ev_sld (j := 5 * i + 2) dL_law_518 (nI_add (5 * i) 2) (by omega) (by omega) ?_
  refine ev_callv (k := 0) (av := [pv_i (xs (5 * i + 1)), pv_i (xs (5 * i + 2))]) (d1 := 20) (mc1 := 6) (ms1 := 150) (mc2 := 6 * (512 - (i + 1))) (ms2 := 150 * (512 - (i + 1))) dL_law_519 cv_L_58 (hB.1 0 _ rfl) rfl rfl (Nat.le_of_ble_eq_true rfl) (by decide) (Or.inr ⟨ok_sn, lw_l (ba_67 hB)⟩) (by omega) (by omega) (op_planned hI (xs (5 * i + 1)) (xs (5 * i + 2))) ?_
  rintro v_ sh2 mi2 mr2 ⟨r, e_, hB2, h6⟩
  subst e_
  refine ev_aload_n dL_law_522 rfl ?_
  refine ev_sload dL_law_523 rfl ?_
  refine ev_iload_n dL_law_524 rfl ?_
  refine ev_iconst (v := 1) dL_law_525 rfl ?_
  refine ev_iadd dL_law_526 ?_
  refine ev_sld (j := 5 * i + 1) dL_law_527 (nI_add (5 * i) 1) (by omega) (by omega) ?_
  refine ev_sload dL_law_528 rfl ?_
  refine ev_iload_n dL_law_529 rfl ?_
  refine ev_iconst (v := 2) dL_law_530 rfl ?_
  refine ev_iadd dL_law_531 ?_
  refine ev_sld (j := 5 * i + 2) dL_law_532 (nI_add (5 * i) 2) (by omega) (by omega) ?_
  refine ev_callv (k := 29) (av := [pv_i (xs (5 * i + 1)), pv_i (xs (5 * i + 2))]) (d1 := 20) (mc1 := 0) (ms1 := 0) (mc2 := 6 * (512 - (i + 1))) (ms2 := 150 * (512 - (i + 1))) dL_law_533 cv_L_61 (hB2.1 29 _ rfl) rfl rfl (Nat.le_of_ble_eq_true rfl) (by decide) (Or.inr ⟨ok_sc trivial ok_sn, lw_l (ba_67 hB2)⟩) (Nat.zero_add _) (Nat.zero_add _) h6 ?_
  rintro v_ sh3 mi3 mr3 ⟨e_, hI3⟩
  subst e_
  refine ev_icmp_eq_t (tgt := 1148) dL_law_536 rfl rfl ?_
  exact lw_nx hn hI3
set_option maxRecDepth 100000 in
set_option maxHeartbeats 4000000 in
theorem lw_delays {sh : SH} {mi : MI} {mr : MR} (hB : ba_c sh mr) (hI : Inv i sh mi mr) (hi : i < 512) (hN : 5 * i + 5 ≤ N) (hN2 : N ≤ 2560) (hn : LN N xs (i + 1)) : EV (some (N, xs)) 2000 (6 * (512 - i)) (150 * (512 - i)) mL_law 541 [some pv_s, some (pv_r 0), some (pv_r 29), some (pv_i (nI (5 * i)))] [] sh mi mr (fun v _ _ _ => v = some (pv_i 1)) := by
  refine ev_aload_n dL_law_541 rfl ?_
  refine ev_sload dL_law_542 rfl ?_
  refine ev_iload_n dL_law_543 rfl ?_
  refine ev_iconst (v := 1) dL_law_544 rfl ?_
  refine ev_iadd dL_law_545 ?_
  refine ev_sld (j := 5 * i + 1) dL_law_546 (nI_add (5 * i) 1) (by omega) (by omega) ?_
  refine ev_callv (k := 0) (av := [pv_i (xs (5 * i + 1))]) (d1 := 20) (mc1 := 6) (ms1 := 150) (mc2 := 6 * (512 - (i + 1))) (ms2 := 150 * (512 - (i + 1))) dL_law_547 cv_L_62 (hB.1 0 _ rfl) rfl rfl (Nat.le_of_ble_eq_true rfl) (by decide) (Or.inr ⟨ok_sn, lw_l (ba_67 hB)⟩) (by omega) (by omega) (op_delays hI (xs (5 * i + 1))) ?_
  rintro v_ sh2 mi2 mr2 ⟨r, e_, hB2, h6⟩
  subst e_
  refine ev_aload_n dL_law_550 rfl ?_
  refine ev_sload dL_law_551 rfl ?_
  refine ev_iload_n dL_law_552 rfl ?_
  refine ev_iconst (v := 1) dL_law_553 rfl ?_
  refine ev_iadd dL_law_554 ?_
  refine ev_sld (j := 5 * i + 1) dL_law_555 (nI_add (5 * i) 1) (by omega) (by omega) ?_
  refine ev_callv (k := 29) (av := [pv_i (xs (5 * i + 1))]) (d1 := 20) (mc1 := 0) (ms1 := 0) (mc2 := 6 * (512 - (i + 1))) (ms2 := 150 * (512 - (i + 1))) dL_law_556 cv_L_65 (hB2.1 29 _ rfl) rfl rfl (Nat.le_of_ble_eq_true rfl) (by decide) (Or.inr ⟨ok_sc trivial ok_sn, lw_l (ba_67 hB2)⟩) (Nat.zero_add _) (Nat.zero_add _) h6 ?_
  rintro v_ sh3 mi3 mr3 ⟨e_, hI3⟩
  subst e_
  refine ev_icmp_eq_t (tgt := 1148) dL_law_559 rfl rfl ?_
  exact lw_nx hn hI3
set_option maxRecDepth 100000 in
set_option maxHeartbeats 4000000 in
theorem lw_width {sh : SH} {mi : MI} {mr : MR} (hB : ba_c sh mr) (hI : Inv i sh mi mr) (hi : i < 512) (hN : 5 * i + 5 ≤ N) (hN2 : N ≤ 2560) (hn : LN N xs (i + 1)) : EV (some (N, xs)) 2000 (6 * (512 - i)) (150 * (512 - i)) mL_law 564 [some pv_s, some (pv_r 0), some (pv_r 29), some (pv_i (nI (5 * i)))] [] sh mi mr (fun v _ _ _ => v = some (pv_i 1)) := by
  refine ev_aload_n dL_law_564 rfl ?_
  refine ev_sload dL_law_565 rfl ?_
  refine ev_iload_n dL_law_566 rfl ?_
  refine ev_iconst (v := 1) dL_law_567 rfl ?_
  refine ev_iadd dL_law_568 ?_
  refine ev_sld (j := 5 * i + 1) dL_law_569 (nI_add (5 * i) 1) (by omega) (by omega) ?_
  refine ev_sload dL_law_570 rfl ?_
  refine ev_iload_n dL_law_571 rfl ?_
  refine ev_iconst (v := 2) dL_law_572 rfl ?_
  refine ev_iadd dL_law_573 ?_
  refine ev_sld (j := 5 * i + 2) dL_law_574 (nI_add (5 * i) 2) (by omega) (by omega) ?_
  refine ev_callv (k := 0) (av := [pv_i (xs (5 * i + 1)), pv_i (xs (5 * i + 2))]) (d1 := 20) (mc1 := 6) (ms1 := 150) (mc2 := 6 * (512 - (i + 1))) (ms2 := 150 * (512 - (i + 1))) dL_law_575 cv_L_66 (hB.1 0 _ rfl) rfl rfl (Nat.le_of_ble_eq_true rfl) (by decide) (Or.inr ⟨ok_sn, lw_l (ba_67 hB)⟩) (by omega) (by omega) (op_width hI (xs (5 * i + 1)) (xs (5 * i + 2))) ?_
  rintro v_ sh2 mi2 mr2 ⟨r, e_, hB2, h6⟩
  subst e_
  refine ev_aload_n dL_law_578 rfl ?_
  refine ev_sload dL_law_579 rfl ?_
  refine ev_iload_n dL_law_580 rfl ?_
  refine ev_iconst (v := 1) dL_law_581 rfl ?_
  refine ev_iadd dL_law_582 ?_
  refine ev_sld (j := 5 * i + 1) dL_law_583 (nI_add (5 * i) 1) (by omega) (by omega) ?_
  refine ev_sload dL_law_584 rfl ?_
  refine ev_iload_n dL_law_585 rfl ?_
  refine ev_iconst (v := 2) dL_law_586 rfl ?_
  refine ev_iadd dL_law_587 ?_
  refine ev_sld (j := 5 * i + 2) dL_law_588 (nI_add (5 * i) 2) (by omega) (by omega) ?_
  refine ev_callv (k := 29) (av := [pv_i (xs (5 * i + 1)), pv_i (xs (5 * i + 2))]) (d1 := 20) (mc1 := 0) (ms1 := 0) (mc2 := 6 * (512 - (i + 1))) (ms2 := 150 * (512 - (i + 1))) dL_law_589 cv_L_69 (hB2.1 29 _ rfl) rfl rfl (Nat.le_of_ble_eq_true rfl) (by decide) (Or.inr ⟨ok_sc trivial ok_sn, lw_l (ba_67 hB2)⟩) (Nat.zero_add _) (Nat.zero_add _) h6 ?_
  rintro v_ sh3 mi3 mr3 ⟨e_, hI3⟩
  subst e_
  refine ev_icmp_eq_t (tgt := 1148) dL_law_592 rfl rfl ?_
  exact lw_nx hn hI3
set_option maxRecDepth 100000 in
set_option maxHeartbeats 4000000 in
theorem lw_sign {sh : SH} {mi : MI} {mr : MR} (hB : ba_c sh mr) (hI : Inv i sh mi mr) (hi : i < 512) (hN : 5 * i + 5 ≤ N) (hN2 : N ≤ 2560) (hn : LN N xs (i + 1)) : EV (some (N, xs)) 2000 (6 * (512 - i)) (150 * (512 - i)) mL_law 597 [some pv_s, some (pv_r 0), some (pv_r 29), some (pv_i (nI (5 * i)))] [] sh mi mr (fun v _ _ _ => v = some (pv_i 1)) := by
  refine ev_aload_n dL_law_597 rfl ?_
  refine ev_sload dL_law_598 rfl ?_
  refine ev_iload_n dL_law_599 rfl ?_
  refine ev_iconst (v := 1) dL_law_600 rfl ?_
  refine ev_iadd dL_law_601 ?_
  refine ev_sld (j := 5 * i + 1) dL_law_602 (nI_add (5 * i) 1) (by omega) (by omega) ?_
  refine ev_callv (k := 0) (av := [pv_i (xs (5 * i + 1))]) (d1 := 20) (mc1 := 6) (ms1 := 150) (mc2 := 6 * (512 - (i + 1))) (ms2 := 150 * (512 - (i + 1))) dL_law_603 cv_L_70 (hB.1 0 _ rfl) rfl rfl (Nat.le_of_ble_eq_true rfl) (by decide) (Or.inr ⟨ok_sn, lw_l (ba_67 hB)⟩) (by omega) (by omega) (op_sign hI (xs (5 * i + 1))) ?_
  rintro v_ sh2 mi2 mr2 ⟨r, e_, hB2, h6⟩
  subst e_
  refine ev_aload_n dL_law_606 rfl ?_
  refine ev_sload dL_law_607 rfl ?_
  refine ev_iload_n dL_law_608 rfl ?_
  refine ev_iconst (v := 1) dL_law_609 rfl ?_
  refine ev_iadd dL_law_610 ?_
  refine ev_sld (j := 5 * i + 1) dL_law_611 (nI_add (5 * i) 1) (by omega) (by omega) ?_
  refine ev_callv (k := 29) (av := [pv_i (xs (5 * i + 1))]) (d1 := 20) (mc1 := 0) (ms1 := 0) (mc2 := 6 * (512 - (i + 1))) (ms2 := 150 * (512 - (i + 1))) dL_law_612 cv_L_73 (hB2.1 29 _ rfl) rfl rfl (Nat.le_of_ble_eq_true rfl) (by decide) (Or.inr ⟨ok_sc trivial ok_sn, lw_l (ba_67 hB2)⟩) (Nat.zero_add _) (Nat.zero_add _) h6 ?_
  rintro v_ sh3 mi3 mr3 ⟨e_, hI3⟩
  subst e_
  refine ev_icmp_eq_t (tgt := 1148) dL_law_615 rfl rfl ?_
  exact lw_nx hn hI3
set_option maxRecDepth 100000 in
set_option maxHeartbeats 4000000 in
theorem lw_wipe {sh : SH} {mi : MI} {mr : MR} (hB : ba_c sh mr) (hI : Inv i sh mi mr) (hi : i < 512) (hN : 5 * i + 5 ≤ N) (hN2 : N ≤ 2560) (hn : LN N xs (i + 1)) : EV (some (N, xs)) 2000 (6 * (512 - i)) (150 * (512 - i)) mL_law 620 [some pv_s, some (pv_r 0), some (pv_r 29), some (pv_i (nI (5 * i)))] [] sh mi mr (fun v _ _ _ => v = some (pv_i 1)) := by
  refine ev_aload_n dL_law_620 rfl ?_
  refine ev_callv (k := 0) (av := []) (d1 := 20) (mc1 := 6) (ms1 := 150) (mc2 := 6 * (512 - (i + 1))) (ms2 := 150 * (512 - (i + 1))) dL_law_621 cv_L_74 (hB.1 0 _ rfl) rfl rfl (Nat.le_of_ble_eq_true rfl) (by decide) (Or.inr ⟨ok_sn, lw_l (ba_67 hB)⟩) (by omega) (by omega) (op_wipe hI ) ?_
  rintro v_ sh2 mi2 mr2 ⟨r, e_, hB2, h6⟩
  subst e_
  refine ev_aload_n dL_law_624 rfl ?_
  refine ev_callv (k := 29) (av := []) (d1 := 20) (mc1 := 0) (ms1 := 0) (mc2 := 6 * (512 - (i + 1))) (ms2 := 150 * (512 - (i + 1))) dL_law_625 cv_L_77 (hB2.1 29 _ rfl) rfl rfl (Nat.le_of_ble_eq_true rfl) (by decide) (Or.inr ⟨ok_sc trivial ok_sn, lw_l (ba_67 hB2)⟩) (Nat.zero_add _) (Nat.zero_add _) h6 ?_
  rintro v_ sh3 mi3 mr3 ⟨e_, hI3⟩
  subst e_
  refine ev_icmp_eq_t (tgt := 1148) dL_law_628 rfl rfl ?_
  exact lw_nx hn hI3
set_option maxRecDepth 100000 in
set_option maxHeartbeats 4000000 in
theorem lw_broken {sh : SH} {mi : MI} {mr : MR} (hB : ba_c sh mr) (hI : Inv i sh mi mr) (hi : i < 512) (hN : 5 * i + 5 ≤ N) (hN2 : N ≤ 2560) (hn : LN N xs (i + 1)) : EV (some (N, xs)) 2000 (6 * (512 - i)) (150 * (512 - i)) mL_law 633 [some pv_s, some (pv_r 0), some (pv_r 29), some (pv_i (nI (5 * i)))] [] sh mi mr (fun v _ _ _ => v = some (pv_i 1)) := by
  refine ev_aload_n dL_law_633 rfl ?_
  refine ev_sload dL_law_634 rfl ?_
  refine ev_iload_n dL_law_635 rfl ?_
  refine ev_iconst (v := 1) dL_law_636 rfl ?_
  refine ev_iadd dL_law_637 ?_
  refine ev_sld (j := 5 * i + 1) dL_law_638 (nI_add (5 * i) 1) (by omega) (by omega) ?_
  refine ev_sload dL_law_639 rfl ?_
  refine ev_iload_n dL_law_640 rfl ?_
  refine ev_iconst (v := 2) dL_law_641 rfl ?_
  refine ev_iadd dL_law_642 ?_
  refine ev_sld (j := 5 * i + 2) dL_law_643 (nI_add (5 * i) 2) (by omega) (by omega) ?_
  refine ev_callv (k := 0) (av := [pv_i (xs (5 * i + 1)), pv_i (xs (5 * i + 2))]) (d1 := 20) (mc1 := 6) (ms1 := 150) (mc2 := 6 * (512 - (i + 1))) (ms2 := 150 * (512 - (i + 1))) dL_law_644 cv_L_78 (hB.1 0 _ rfl) rfl rfl (Nat.le_of_ble_eq_true rfl) (by decide) (Or.inr ⟨ok_sn, lw_l (ba_67 hB)⟩) (by omega) (by omega) (op_broken hI (xs (5 * i + 1)) (xs (5 * i + 2))) ?_
  rintro v_ sh2 mi2 mr2 ⟨r, e_, hB2, h6⟩
  subst e_
  refine ev_aload_n dL_law_647 rfl ?_
  refine ev_sload dL_law_648 rfl ?_
  refine ev_iload_n dL_law_649 rfl ?_
  refine ev_iconst (v := 1) dL_law_650 rfl ?_
  refine ev_iadd dL_law_651 ?_
  refine ev_sld (j := 5 * i + 1) dL_law_652 (nI_add (5 * i) 1) (by omega) (by omega) ?_
  refine ev_sload dL_law_653 rfl ?_
  refine ev_iload_n dL_law_654 rfl ?_
  refine ev_iconst (v := 2) dL_law_655 rfl ?_
  refine ev_iadd dL_law_656 ?_
  refine ev_sld (j := 5 * i + 2) dL_law_657 (nI_add (5 * i) 2) (by omega) (by omega) ?_
  refine ev_callv (k := 29) (av := [pv_i (xs (5 * i + 1)), pv_i (xs (5 * i + 2))]) (d1 := 20) (mc1 := 0) (ms1 := 0) (mc2 := 6 * (512 - (i + 1))) (ms2 := 150 * (512 - (i + 1))) dL_law_658 cv_L_81 (hB2.1 29 _ rfl) rfl rfl (Nat.le_of_ble_eq_true rfl) (by decide) (Or.inr ⟨ok_sc trivial ok_sn, lw_l (ba_67 hB2)⟩) (Nat.zero_add _) (Nat.zero_add _) h6 ?_
  rintro v_ sh3 mi3 mr3 ⟨e_, hI3⟩
  subst e_
  refine ev_icmp_eq_t (tgt := 1148) dL_law_661 rfl rfl ?_
  exact lw_nx hn hI3
set_option maxRecDepth 100000 in
set_option maxHeartbeats 4000000 in
theorem lw_line {sh : SH} {mi : MI} {mr : MR} (hB : ba_c sh mr) (hI : Inv i sh mi mr) (hi : i < 512) (hN : 5 * i + 5 ≤ N) (hN2 : N ≤ 2560) (hn : LN N xs (i + 1)) : EV (some (N, xs)) 2000 (6 * (512 - i)) (150 * (512 - i)) mL_law 666 [some pv_s, some (pv_r 0), some (pv_r 29), some (pv_i (nI (5 * i)))] [] sh mi mr (fun v _ _ _ => v = some (pv_i 1)) := by
  refine ev_aload_n dL_law_666 rfl ?_
  refine ev_sload dL_law_667 rfl ?_
  refine ev_iload_n dL_law_668 rfl ?_
  refine ev_iconst (v := 1) dL_law_669 rfl ?_
  refine ev_iadd dL_law_670 ?_
  refine ev_sld (j := 5 * i + 1) dL_law_671 (nI_add (5 * i) 1) (by omega) (by omega) ?_
  refine ev_callv (k := 0) (av := [pv_i (xs (5 * i + 1))]) (d1 := 20) (mc1 := 6) (ms1 := 150) (mc2 := 6 * (512 - (i + 1))) (ms2 := 150 * (512 - (i + 1))) dL_law_672 cv_L_82 (hB.1 0 _ rfl) rfl rfl (Nat.le_of_ble_eq_true rfl) (by decide) (Or.inr ⟨ok_sn, lw_l (ba_67 hB)⟩) (by omega) (by omega) (op_line hI (xs (5 * i + 1))) ?_
  rintro v_ sh2 mi2 mr2 ⟨r, e_, hB2, h6⟩
  subst e_
  refine ev_aload_n dL_law_675 rfl ?_
  refine ev_sload dL_law_676 rfl ?_
  refine ev_iload_n dL_law_677 rfl ?_
  refine ev_iconst (v := 1) dL_law_678 rfl ?_
  refine ev_iadd dL_law_679 ?_
  refine ev_sld (j := 5 * i + 1) dL_law_680 (nI_add (5 * i) 1) (by omega) (by omega) ?_
  refine ev_callv (k := 29) (av := [pv_i (xs (5 * i + 1))]) (d1 := 20) (mc1 := 0) (ms1 := 0) (mc2 := 6 * (512 - (i + 1))) (ms2 := 150 * (512 - (i + 1))) dL_law_681 cv_L_85 (hB2.1 29 _ rfl) rfl rfl (Nat.le_of_ble_eq_true rfl) (by decide) (Or.inr ⟨ok_sc trivial ok_sn, lw_l (ba_67 hB2)⟩) (Nat.zero_add _) (Nat.zero_add _) h6 ?_
  rintro v_ sh3 mi3 mr3 ⟨e_, hI3⟩
  subst e_
  refine ev_icmp_eq_t (tgt := 1148) dL_law_684 rfl rfl ?_
  exact lw_nx hn hI3
set_option maxRecDepth 100000 in
set_option maxHeartbeats 4000000 in
theorem lw_stamp {sh : SH} {mi : MI} {mr : MR} (hB : ba_c sh mr) (hI : Inv i sh mi mr) (hi : i < 512) (hN : 5 * i + 5 ≤ N) (hN2 : N ≤ 2560) (hn : LN N xs (i + 1)) : EV (some (N, xs)) 2000 (6 * (512 - i)) (150 * (512 - i)) mL_law 689 [some pv_s, some (pv_r 0), some (pv_r 29), some (pv_i (nI (5 * i)))] [] sh mi mr (fun v _ _ _ => v = some (pv_i 1)) := by
  refine ev_aload_n dL_law_689 rfl ?_
  refine ev_callv (k := 0) (av := []) (d1 := 20) (mc1 := 6) (ms1 := 150) (mc2 := 6 * (512 - (i + 1))) (ms2 := 150 * (512 - (i + 1))) dL_law_690 cv_L_86 (hB.1 0 _ rfl) rfl rfl (Nat.le_of_ble_eq_true rfl) (by decide) (Or.inr ⟨ok_sn, lw_l (ba_67 hB)⟩) (by omega) (by omega) (op_stamp hI ) ?_
  rintro v_ sh2 mi2 mr2 ⟨r, e_, hB2, h6⟩
  subst e_
  refine ev_aload_n dL_law_693 rfl ?_
  refine ev_callv (k := 29) (av := []) (d1 := 20) (mc1 := 0) (ms1 := 0) (mc2 := 6 * (512 - (i + 1))) (ms2 := 150 * (512 - (i + 1))) dL_law_694 cv_L_89 (hB2.1 29 _ rfl) rfl rfl (Nat.le_of_ble_eq_true rfl) (by decide) (Or.inr ⟨ok_sc trivial ok_sn, lw_l (ba_67 hB2)⟩) (Nat.zero_add _) (Nat.zero_add _) h6 ?_
  rintro v_ sh3 mi3 mr3 ⟨e_, hI3⟩
  subst e_
  refine ev_icmp_eq_t (tgt := 1148) dL_law_697 rfl rfl ?_
  exact lw_nx hn hI3
set_option maxRecDepth 100000 in
set_option maxHeartbeats 4000000 in
theorem lw_sharpen {sh : SH} {mi : MI} {mr : MR} (hB : ba_c sh mr) (hI : Inv i sh mi mr) (hi : i < 512) (hN : 5 * i + 5 ≤ N) (hN2 : N ≤ 2560) (hn : LN N xs (i + 1)) : EV (some (N, xs)) 2000 (6 * (512 - i)) (150 * (512 - i)) mL_law 702 [some pv_s, some (pv_r 0), some (pv_r 29), some (pv_i (nI (5 * i)))] [] sh mi mr (fun v _ _ _ => v = some (pv_i 1)) := by
  refine ev_aload_n dL_law_702 rfl ?_
  refine ev_sload dL_law_703 rfl ?_
  refine ev_iload_n dL_law_704 rfl ?_
  refine ev_iconst (v := 1) dL_law_705 rfl ?_
  refine ev_iadd dL_law_706 ?_
  refine ev_sld (j := 5 * i + 1) dL_law_707 (nI_add (5 * i) 1) (by omega) (by omega) ?_
  refine ev_callv (k := 0) (av := [pv_i (xs (5 * i + 1))]) (d1 := 20) (mc1 := 6) (ms1 := 150) (mc2 := 6 * (512 - (i + 1))) (ms2 := 150 * (512 - (i + 1))) dL_law_708 cv_L_90 (hB.1 0 _ rfl) rfl rfl (Nat.le_of_ble_eq_true rfl) (by decide) (Or.inr ⟨ok_sn, lw_l (ba_67 hB)⟩) (by omega) (by omega) (op_sharpen hI (xs (5 * i + 1))) ?_
  rintro v_ sh2 mi2 mr2 ⟨r, e_, hB2, h6⟩
  subst e_
  refine ev_aload_n dL_law_711 rfl ?_
  refine ev_sload dL_law_712 rfl ?_
  refine ev_iload_n dL_law_713 rfl ?_
  refine ev_iconst (v := 1) dL_law_714 rfl ?_
  refine ev_iadd dL_law_715 ?_
  refine ev_sld (j := 5 * i + 1) dL_law_716 (nI_add (5 * i) 1) (by omega) (by omega) ?_
  refine ev_callv (k := 29) (av := [pv_i (xs (5 * i + 1))]) (d1 := 20) (mc1 := 0) (ms1 := 0) (mc2 := 6 * (512 - (i + 1))) (ms2 := 150 * (512 - (i + 1))) dL_law_717 cv_L_93 (hB2.1 29 _ rfl) rfl rfl (Nat.le_of_ble_eq_true rfl) (by decide) (Or.inr ⟨ok_sc trivial ok_sn, lw_l (ba_67 hB2)⟩) (Nat.zero_add _) (Nat.zero_add _) h6 ?_
  rintro v_ sh3 mi3 mr3 ⟨e_, hI3⟩
  subst e_
  refine ev_icmp_eq_t (tgt := 1148) dL_law_720 rfl rfl ?_
  exact lw_nx hn hI3
set_option maxRecDepth 100000 in
set_option maxHeartbeats 4000000 in
theorem lw_last {sh : SH} {mi : MI} {mr : MR} (hB : ba_c sh mr) (hI : Inv i sh mi mr) (hi : i < 512) (hN : 5 * i + 5 ≤ N) (hN2 : N ≤ 2560) (hn : LN N xs (i + 1)) : EV (some (N, xs)) 2000 (6 * (512 - i)) (150 * (512 - i)) mL_law 725 [some pv_s, some (pv_r 0), some (pv_r 29), some (pv_i (nI (5 * i)))] [] sh mi mr (fun v _ _ _ => v = some (pv_i 1)) := by
  refine ev_aload_n dL_law_725 rfl ?_
  refine ev_sload dL_law_726 rfl ?_
  refine ev_iload_n dL_law_727 rfl ?_
  refine ev_iconst (v := 1) dL_law_728 rfl ?_
  refine ev_iadd dL_law_729 ?_
  refine ev_sld (j := 5 * i + 1) dL_law_730 (nI_add (5 * i) 1) (by omega) (by omega) ?_
  refine ev_callv (k := 0) (av := [pv_i (xs (5 * i + 1))]) (d1 := 20) (mc1 := 6) (ms1 := 150) (mc2 := 6 * (512 - (i + 1))) (ms2 := 150 * (512 - (i + 1))) dL_law_731 cv_L_94 (hB.1 0 _ rfl) rfl rfl (Nat.le_of_ble_eq_true rfl) (by decide) (Or.inr ⟨ok_sn, lw_l (ba_67 hB)⟩) (by omega) (by omega) (op_last hI (xs (5 * i + 1))) ?_
  rintro v_ sh2 mi2 mr2 ⟨r, e_, hB2, h6⟩
  subst e_
  refine ev_aload_n dL_law_734 rfl ?_
  refine ev_sload dL_law_735 rfl ?_
  refine ev_iload_n dL_law_736 rfl ?_
  refine ev_iconst (v := 1) dL_law_737 rfl ?_
  refine ev_iadd dL_law_738 ?_
  refine ev_sld (j := 5 * i + 1) dL_law_739 (nI_add (5 * i) 1) (by omega) (by omega) ?_
  refine ev_callv (k := 29) (av := [pv_i (xs (5 * i + 1))]) (d1 := 20) (mc1 := 0) (ms1 := 0) (mc2 := 6 * (512 - (i + 1))) (ms2 := 150 * (512 - (i + 1))) dL_law_740 cv_L_97 (hB2.1 29 _ rfl) rfl rfl (Nat.le_of_ble_eq_true rfl) (by decide) (Or.inr ⟨ok_sc trivial ok_sn, lw_l (ba_67 hB2)⟩) (Nat.zero_add _) (Nat.zero_add _) h6 ?_
  rintro v_ sh3 mi3 mr3 ⟨e_, hI3⟩
  subst e_
  refine ev_icmp_eq_t (tgt := 1148) dL_law_743 rfl rfl ?_
  exact lw_nx hn hI3
set_option maxRecDepth 100000 in
set_option maxHeartbeats 4000000 in
theorem lw_skin {sh : SH} {mi : MI} {mr : MR} (hB : ba_c sh mr) (hI : Inv i sh mi mr) (hi : i < 512) (hN : 5 * i + 5 ≤ N) (hN2 : N ≤ 2560) (hn : LN N xs (i + 1)) : EV (some (N, xs)) 2000 (6 * (512 - i)) (150 * (512 - i)) mL_law 748 [some pv_s, some (pv_r 0), some (pv_r 29), some (pv_i (nI (5 * i)))] [] sh mi mr (fun v _ _ _ => v = some (pv_i 1)) := by
  refine ev_aload_n dL_law_748 rfl ?_
  refine ev_sload dL_law_749 rfl ?_
  refine ev_iload_n dL_law_750 rfl ?_
  refine ev_iconst (v := 1) dL_law_751 rfl ?_
  refine ev_iadd dL_law_752 ?_
  refine ev_sld (j := 5 * i + 1) dL_law_753 (nI_add (5 * i) 1) (by omega) (by omega) ?_
  refine ev_sload dL_law_754 rfl ?_
  refine ev_iload_n dL_law_755 rfl ?_
  refine ev_iconst (v := 2) dL_law_756 rfl ?_
  refine ev_iadd dL_law_757 ?_
  refine ev_sld (j := 5 * i + 2) dL_law_758 (nI_add (5 * i) 2) (by omega) (by omega) ?_
  refine ev_sload dL_law_759 rfl ?_
  refine ev_iload_n dL_law_760 rfl ?_
  refine ev_iconst (v := 3) dL_law_761 rfl ?_
  refine ev_iadd dL_law_762 ?_
  refine ev_sld (j := 5 * i + 3) dL_law_763 (nI_add (5 * i) 3) (by omega) (by omega) ?_
  refine ev_callv (k := 0) (av := [pv_i (xs (5 * i + 1)), pv_i (xs (5 * i + 2)), pv_i (xs (5 * i + 3))]) (d1 := 20) (mc1 := 6) (ms1 := 150) (mc2 := 6 * (512 - (i + 1))) (ms2 := 150 * (512 - (i + 1))) dL_law_764 cv_L_98 (hB.1 0 _ rfl) rfl rfl (Nat.le_of_ble_eq_true rfl) (by decide) (Or.inr ⟨ok_sn, lw_l (ba_67 hB)⟩) (by omega) (by omega) (op_skin hI (xs (5 * i + 1)) (xs (5 * i + 2)) (xs (5 * i + 3))) ?_
  rintro v_ sh2 mi2 mr2 ⟨r, e_, hB2, h6⟩
  subst e_
  refine ev_aload_n dL_law_767 rfl ?_
  refine ev_sload dL_law_768 rfl ?_
  refine ev_iload_n dL_law_769 rfl ?_
  refine ev_iconst (v := 1) dL_law_770 rfl ?_
  refine ev_iadd dL_law_771 ?_
  refine ev_sld (j := 5 * i + 1) dL_law_772 (nI_add (5 * i) 1) (by omega) (by omega) ?_
  refine ev_sload dL_law_773 rfl ?_
  refine ev_iload_n dL_law_774 rfl ?_
  refine ev_iconst (v := 2) dL_law_775 rfl ?_
  refine ev_iadd dL_law_776 ?_
  refine ev_sld (j := 5 * i + 2) dL_law_777 (nI_add (5 * i) 2) (by omega) (by omega) ?_
  refine ev_sload dL_law_778 rfl ?_
  refine ev_iload_n dL_law_779 rfl ?_
  refine ev_iconst (v := 3) dL_law_780 rfl ?_
  refine ev_iadd dL_law_781 ?_
  refine ev_sld (j := 5 * i + 3) dL_law_782 (nI_add (5 * i) 3) (by omega) (by omega) ?_
  refine ev_callv (k := 29) (av := [pv_i (xs (5 * i + 1)), pv_i (xs (5 * i + 2)), pv_i (xs (5 * i + 3))]) (d1 := 20) (mc1 := 0) (ms1 := 0) (mc2 := 6 * (512 - (i + 1))) (ms2 := 150 * (512 - (i + 1))) dL_law_783 cv_L_101 (hB2.1 29 _ rfl) rfl rfl (Nat.le_of_ble_eq_true rfl) (by decide) (Or.inr ⟨ok_sc trivial ok_sn, lw_l (ba_67 hB2)⟩) (Nat.zero_add _) (Nat.zero_add _) h6 ?_
  rintro v_ sh3 mi3 mr3 ⟨e_, hI3⟩
  subst e_
  refine ev_icmp_eq_t (tgt := 1148) dL_law_786 rfl rfl ?_
  exact lw_nx hn hI3
set_option maxRecDepth 100000 in
set_option maxHeartbeats 4000000 in
theorem lw_flaw {sh : SH} {mi : MI} {mr : MR} (hB : ba_c sh mr) (hI : Inv i sh mi mr) (hi : i < 512) (hN : 5 * i + 5 ≤ N) (hN2 : N ≤ 2560) (hn : LN N xs (i + 1)) : EV (some (N, xs)) 2000 (6 * (512 - i)) (150 * (512 - i)) mL_law 791 [some pv_s, some (pv_r 0), some (pv_r 29), some (pv_i (nI (5 * i)))] [] sh mi mr (fun v _ _ _ => v = some (pv_i 1)) := by
  refine ev_aload_n dL_law_791 rfl ?_
  refine ev_sload dL_law_792 rfl ?_
  refine ev_iload_n dL_law_793 rfl ?_
  refine ev_iconst (v := 1) dL_law_794 rfl ?_
  refine ev_iadd dL_law_795 ?_
  refine ev_sld (j := 5 * i + 1) dL_law_796 (nI_add (5 * i) 1) (by omega) (by omega) ?_
  refine ev_sload dL_law_797 rfl ?_
  refine ev_iload_n dL_law_798 rfl ?_
  refine ev_iconst (v := 2) dL_law_799 rfl ?_
  refine ev_iadd dL_law_800 ?_
  refine ev_sld (j := 5 * i + 2) dL_law_801 (nI_add (5 * i) 2) (by omega) (by omega) ?_
  refine ev_sload dL_law_802 rfl ?_
  refine ev_iload_n dL_law_803 rfl ?_
  refine ev_iconst (v := 3) dL_law_804 rfl ?_
  refine ev_iadd dL_law_805 ?_
  refine ev_sld (j := 5 * i + 3) dL_law_806 (nI_add (5 * i) 3) (by omega) (by omega) ?_
  refine ev_callv (k := 0) (av := [pv_i (xs (5 * i + 1)), pv_i (xs (5 * i + 2)), pv_i (xs (5 * i + 3))]) (d1 := 20) (mc1 := 6) (ms1 := 150) (mc2 := 6 * (512 - (i + 1))) (ms2 := 150 * (512 - (i + 1))) dL_law_807 cv_L_102 (hB.1 0 _ rfl) rfl rfl (Nat.le_of_ble_eq_true rfl) (by decide) (Or.inr ⟨ok_sn, lw_l (ba_67 hB)⟩) (by omega) (by omega) (op_flaw hI (xs (5 * i + 1)) (xs (5 * i + 2)) (xs (5 * i + 3))) ?_
  rintro v_ sh2 mi2 mr2 ⟨r, e_, hB2, h6⟩
  subst e_
  refine ev_aload_n dL_law_810 rfl ?_
  refine ev_sload dL_law_811 rfl ?_
  refine ev_iload_n dL_law_812 rfl ?_
  refine ev_iconst (v := 1) dL_law_813 rfl ?_
  refine ev_iadd dL_law_814 ?_
  refine ev_sld (j := 5 * i + 1) dL_law_815 (nI_add (5 * i) 1) (by omega) (by omega) ?_
  refine ev_sload dL_law_816 rfl ?_
  refine ev_iload_n dL_law_817 rfl ?_
  refine ev_iconst (v := 2) dL_law_818 rfl ?_
  refine ev_iadd dL_law_819 ?_
  refine ev_sld (j := 5 * i + 2) dL_law_820 (nI_add (5 * i) 2) (by omega) (by omega) ?_
  refine ev_sload dL_law_821 rfl ?_
  refine ev_iload_n dL_law_822 rfl ?_
  refine ev_iconst (v := 3) dL_law_823 rfl ?_
  refine ev_iadd dL_law_824 ?_
  refine ev_sld (j := 5 * i + 3) dL_law_825 (nI_add (5 * i) 3) (by omega) (by omega) ?_
  refine ev_callv (k := 29) (av := [pv_i (xs (5 * i + 1)), pv_i (xs (5 * i + 2)), pv_i (xs (5 * i + 3))]) (d1 := 20) (mc1 := 0) (ms1 := 0) (mc2 := 6 * (512 - (i + 1))) (ms2 := 150 * (512 - (i + 1))) dL_law_826 cv_L_105 (hB2.1 29 _ rfl) rfl rfl (Nat.le_of_ble_eq_true rfl) (by decide) (Or.inr ⟨ok_sc trivial ok_sn, lw_l (ba_67 hB2)⟩) (Nat.zero_add _) (Nat.zero_add _) h6 ?_
  rintro v_ sh3 mi3 mr3 ⟨e_, hI3⟩
  subst e_
  refine ev_icmp_eq_t (tgt := 1148) dL_law_829 rfl rfl ?_
  exact lw_nx hn hI3
set_option maxRecDepth 100000 in
set_option maxHeartbeats 4000000 in
theorem lw_cut {sh : SH} {mi : MI} {mr : MR} (hB : ba_c sh mr) (hI : Inv i sh mi mr) (hi : i < 512) (hN : 5 * i + 5 ≤ N) (hN2 : N ≤ 2560) (hn : LN N xs (i + 1)) : EV (some (N, xs)) 2000 (6 * (512 - i)) (150 * (512 - i)) mL_law 834 [some pv_s, some (pv_r 0), some (pv_r 29), some (pv_i (nI (5 * i)))] [] sh mi mr (fun v _ _ _ => v = some (pv_i 1)) := by
  refine ev_aload_n dL_law_834 rfl ?_
  refine ev_sload dL_law_835 rfl ?_
  refine ev_iload_n dL_law_836 rfl ?_
  refine ev_iconst (v := 1) dL_law_837 rfl ?_
  refine ev_iadd dL_law_838 ?_
  refine ev_sld (j := 5 * i + 1) dL_law_839 (nI_add (5 * i) 1) (by omega) (by omega) ?_
  refine ev_sload dL_law_840 rfl ?_
  refine ev_iload_n dL_law_841 rfl ?_
  refine ev_iconst (v := 2) dL_law_842 rfl ?_
  refine ev_iadd dL_law_843 ?_
  refine ev_sld (j := 5 * i + 2) dL_law_844 (nI_add (5 * i) 2) (by omega) (by omega) ?_
  refine ev_sload dL_law_845 rfl ?_
  refine ev_iload_n dL_law_846 rfl ?_
  refine ev_iconst (v := 3) dL_law_847 rfl ?_
  refine ev_iadd dL_law_848 ?_
  refine ev_sld (j := 5 * i + 3) dL_law_849 (nI_add (5 * i) 3) (by omega) (by omega) ?_
  refine ev_callv (k := 0) (av := [pv_i (xs (5 * i + 1)), pv_i (xs (5 * i + 2)), pv_i (xs (5 * i + 3))]) (d1 := 20) (mc1 := 6) (ms1 := 150) (mc2 := 6 * (512 - (i + 1))) (ms2 := 150 * (512 - (i + 1))) dL_law_850 cv_L_106 (hB.1 0 _ rfl) rfl rfl (Nat.le_of_ble_eq_true rfl) (by decide) (Or.inr ⟨ok_sn, lw_l (ba_67 hB)⟩) (by omega) (by omega) (op_cut hI (xs (5 * i + 1)) (xs (5 * i + 2)) (xs (5 * i + 3))) ?_
  rintro v_ sh2 mi2 mr2 ⟨r, e_, hB2, h6⟩
  subst e_
  refine ev_aload_n dL_law_853 rfl ?_
  refine ev_sload dL_law_854 rfl ?_
  refine ev_iload_n dL_law_855 rfl ?_
  refine ev_iconst (v := 1) dL_law_856 rfl ?_
  refine ev_iadd dL_law_857 ?_
  refine ev_sld (j := 5 * i + 1) dL_law_858 (nI_add (5 * i) 1) (by omega) (by omega) ?_
  refine ev_sload dL_law_859 rfl ?_
  refine ev_iload_n dL_law_860 rfl ?_
  refine ev_iconst (v := 2) dL_law_861 rfl ?_
  refine ev_iadd dL_law_862 ?_
  refine ev_sld (j := 5 * i + 2) dL_law_863 (nI_add (5 * i) 2) (by omega) (by omega) ?_
  refine ev_sload dL_law_864 rfl ?_
  refine ev_iload_n dL_law_865 rfl ?_
  refine ev_iconst (v := 3) dL_law_866 rfl ?_
  refine ev_iadd dL_law_867 ?_
  refine ev_sld (j := 5 * i + 3) dL_law_868 (nI_add (5 * i) 3) (by omega) (by omega) ?_
  refine ev_callv (k := 29) (av := [pv_i (xs (5 * i + 1)), pv_i (xs (5 * i + 2)), pv_i (xs (5 * i + 3))]) (d1 := 20) (mc1 := 0) (ms1 := 0) (mc2 := 6 * (512 - (i + 1))) (ms2 := 150 * (512 - (i + 1))) dL_law_869 cv_L_109 (hB2.1 29 _ rfl) rfl rfl (Nat.le_of_ble_eq_true rfl) (by decide) (Or.inr ⟨ok_sc trivial ok_sn, lw_l (ba_67 hB2)⟩) (Nat.zero_add _) (Nat.zero_add _) h6 ?_
  rintro v_ sh3 mi3 mr3 ⟨e_, hI3⟩
  subst e_
  refine ev_icmp_eq_t (tgt := 1148) dL_law_872 rfl rfl ?_
  exact lw_nx hn hI3
set_option maxRecDepth 100000 in
set_option maxHeartbeats 4000000 in
theorem lw_covers {sh : SH} {mi : MI} {mr : MR} (hB : ba_c sh mr) (hI : Inv i sh mi mr) (hi : i < 512) (hN : 5 * i + 5 ≤ N) (hN2 : N ≤ 2560) (hn : LN N xs (i + 1)) : EV (some (N, xs)) 2000 (6 * (512 - i)) (150 * (512 - i)) mL_law 877 [some pv_s, some (pv_r 0), some (pv_r 29), some (pv_i (nI (5 * i)))] [] sh mi mr (fun v _ _ _ => v = some (pv_i 1)) := by
  refine ev_aload_n dL_law_877 rfl ?_
  refine ev_sload dL_law_878 rfl ?_
  refine ev_iload_n dL_law_879 rfl ?_
  refine ev_iconst (v := 1) dL_law_880 rfl ?_
  refine ev_iadd dL_law_881 ?_
  refine ev_sld (j := 5 * i + 1) dL_law_882 (nI_add (5 * i) 1) (by omega) (by omega) ?_
  refine ev_sload dL_law_883 rfl ?_
  refine ev_iload_n dL_law_884 rfl ?_
  refine ev_iconst (v := 2) dL_law_885 rfl ?_
  refine ev_iadd dL_law_886 ?_
  refine ev_sld (j := 5 * i + 2) dL_law_887 (nI_add (5 * i) 2) (by omega) (by omega) ?_
  refine ev_sload dL_law_888 rfl ?_
  refine ev_iload_n dL_law_889 rfl ?_
  refine ev_iconst (v := 3) dL_law_890 rfl ?_
  refine ev_iadd dL_law_891 ?_
  refine ev_sld (j := 5 * i + 3) dL_law_892 (nI_add (5 * i) 3) (by omega) (by omega) ?_
  refine ev_sload dL_law_893 rfl ?_
  refine ev_iload_n dL_law_894 rfl ?_
  refine ev_iconst (v := 4) dL_law_895 rfl ?_
  refine ev_iadd dL_law_896 ?_
  refine ev_sld (j := 5 * i + 4) dL_law_897 (nI_add (5 * i) 4) (by omega) (by omega) ?_
  refine ev_callv (k := 0) (av := [pv_i (xs (5 * i + 1)), pv_i (xs (5 * i + 2)), pv_i (xs (5 * i + 3)), pv_i (xs (5 * i + 4))]) (d1 := 20) (mc1 := 6) (ms1 := 150) (mc2 := 6 * (512 - (i + 1))) (ms2 := 150 * (512 - (i + 1))) dL_law_898 cv_L_110 (hB.1 0 _ rfl) rfl rfl (Nat.le_of_ble_eq_true rfl) (by decide) (Or.inr ⟨ok_sn, lw_l (ba_67 hB)⟩) (by omega) (by omega) (op_covers hI (by omega) (xs (5 * i + 1)) (xs (5 * i + 2)) (xs (5 * i + 3)) (xs (5 * i + 4))) ?_
  rintro v_ sh2 mi2 mr2 ⟨r, e_, hB2, h6⟩
  subst e_
  refine ev_aload_n dL_law_901 rfl ?_
  refine ev_sload dL_law_902 rfl ?_
  refine ev_iload_n dL_law_903 rfl ?_
  refine ev_iconst (v := 1) dL_law_904 rfl ?_
  refine ev_iadd dL_law_905 ?_
  refine ev_sld (j := 5 * i + 1) dL_law_906 (nI_add (5 * i) 1) (by omega) (by omega) ?_
  refine ev_sload dL_law_907 rfl ?_
  refine ev_iload_n dL_law_908 rfl ?_
  refine ev_iconst (v := 2) dL_law_909 rfl ?_
  refine ev_iadd dL_law_910 ?_
  refine ev_sld (j := 5 * i + 2) dL_law_911 (nI_add (5 * i) 2) (by omega) (by omega) ?_
  refine ev_sload dL_law_912 rfl ?_
  refine ev_iload_n dL_law_913 rfl ?_
  refine ev_iconst (v := 3) dL_law_914 rfl ?_
  refine ev_iadd dL_law_915 ?_
  refine ev_sld (j := 5 * i + 3) dL_law_916 (nI_add (5 * i) 3) (by omega) (by omega) ?_
  refine ev_sload dL_law_917 rfl ?_
  refine ev_iload_n dL_law_918 rfl ?_
  refine ev_iconst (v := 4) dL_law_919 rfl ?_
  refine ev_iadd dL_law_920 ?_
  refine ev_sld (j := 5 * i + 4) dL_law_921 (nI_add (5 * i) 4) (by omega) (by omega) ?_
  refine ev_callv (k := 29) (av := [pv_i (xs (5 * i + 1)), pv_i (xs (5 * i + 2)), pv_i (xs (5 * i + 3)), pv_i (xs (5 * i + 4))]) (d1 := 20) (mc1 := 0) (ms1 := 0) (mc2 := 6 * (512 - (i + 1))) (ms2 := 150 * (512 - (i + 1))) dL_law_922 cv_L_113 (hB2.1 29 _ rfl) rfl rfl (Nat.le_of_ble_eq_true rfl) (by decide) (Or.inr ⟨ok_sc trivial ok_sn, lw_l (ba_67 hB2)⟩) (Nat.zero_add _) (Nat.zero_add _) h6 ?_
  rintro v_ sh3 mi3 mr3 ⟨e_, hI3⟩
  subst e_
  refine ev_icmp_eq_t (tgt := 1148) dL_law_925 rfl rfl ?_
  exact lw_nx hn hI3
set_option maxRecDepth 100000 in
set_option maxHeartbeats 4000000 in
theorem lw_spot {sh : SH} {mi : MI} {mr : MR} (hB : ba_c sh mr) (hI : Inv i sh mi mr) (hi : i < 512) (hN : 5 * i + 5 ≤ N) (hN2 : N ≤ 2560) (hn : LN N xs (i + 1)) : EV (some (N, xs)) 2000 (6 * (512 - i)) (150 * (512 - i)) mL_law 930 [some pv_s, some (pv_r 0), some (pv_r 29), some (pv_i (nI (5 * i)))] [] sh mi mr (fun v _ _ _ => v = some (pv_i 1)) := by
  refine ev_aload_n dL_law_930 rfl ?_
  refine ev_sload dL_law_931 rfl ?_
  refine ev_iload_n dL_law_932 rfl ?_
  refine ev_iconst (v := 1) dL_law_933 rfl ?_
  refine ev_iadd dL_law_934 ?_
  refine ev_sld (j := 5 * i + 1) dL_law_935 (nI_add (5 * i) 1) (by omega) (by omega) ?_
  refine ev_sload dL_law_936 rfl ?_
  refine ev_iload_n dL_law_937 rfl ?_
  refine ev_iconst (v := 2) dL_law_938 rfl ?_
  refine ev_iadd dL_law_939 ?_
  refine ev_sld (j := 5 * i + 2) dL_law_940 (nI_add (5 * i) 2) (by omega) (by omega) ?_
  refine ev_sload dL_law_941 rfl ?_
  refine ev_iload_n dL_law_942 rfl ?_
  refine ev_iconst (v := 3) dL_law_943 rfl ?_
  refine ev_iadd dL_law_944 ?_
  refine ev_sld (j := 5 * i + 3) dL_law_945 (nI_add (5 * i) 3) (by omega) (by omega) ?_
  refine ev_callv (k := 0) (av := [pv_i (xs (5 * i + 1)), pv_i (xs (5 * i + 2)), pv_i (xs (5 * i + 3))]) (d1 := 20) (mc1 := 6) (ms1 := 150) (mc2 := 6 * (512 - (i + 1))) (ms2 := 150 * (512 - (i + 1))) dL_law_946 cv_L_114 (hB.1 0 _ rfl) rfl rfl (Nat.le_of_ble_eq_true rfl) (by decide) (Or.inr ⟨ok_sn, lw_l (ba_67 hB)⟩) (by omega) (by omega) (op_spot hI (xs (5 * i + 1)) (xs (5 * i + 2)) (xs (5 * i + 3))) ?_
  rintro v_ sh2 mi2 mr2 ⟨r, e_, hB2, h6⟩
  subst e_
  refine ev_aload_n dL_law_949 rfl ?_
  refine ev_sload dL_law_950 rfl ?_
  refine ev_iload_n dL_law_951 rfl ?_
  refine ev_iconst (v := 1) dL_law_952 rfl ?_
  refine ev_iadd dL_law_953 ?_
  refine ev_sld (j := 5 * i + 1) dL_law_954 (nI_add (5 * i) 1) (by omega) (by omega) ?_
  refine ev_sload dL_law_955 rfl ?_
  refine ev_iload_n dL_law_956 rfl ?_
  refine ev_iconst (v := 2) dL_law_957 rfl ?_
  refine ev_iadd dL_law_958 ?_
  refine ev_sld (j := 5 * i + 2) dL_law_959 (nI_add (5 * i) 2) (by omega) (by omega) ?_
  refine ev_sload dL_law_960 rfl ?_
  refine ev_iload_n dL_law_961 rfl ?_
  refine ev_iconst (v := 3) dL_law_962 rfl ?_
  refine ev_iadd dL_law_963 ?_
  refine ev_sld (j := 5 * i + 3) dL_law_964 (nI_add (5 * i) 3) (by omega) (by omega) ?_
  refine ev_callv (k := 29) (av := [pv_i (xs (5 * i + 1)), pv_i (xs (5 * i + 2)), pv_i (xs (5 * i + 3))]) (d1 := 20) (mc1 := 0) (ms1 := 0) (mc2 := 6 * (512 - (i + 1))) (ms2 := 150 * (512 - (i + 1))) dL_law_965 cv_L_117 (hB2.1 29 _ rfl) rfl rfl (Nat.le_of_ble_eq_true rfl) (by decide) (Or.inr ⟨ok_sc trivial ok_sn, lw_l (ba_67 hB2)⟩) (Nat.zero_add _) (Nat.zero_add _) h6 ?_
  rintro v_ sh3 mi3 mr3 ⟨e_, hI3⟩
  subst e_
  refine ev_icmp_eq_t (tgt := 1148) dL_law_968 rfl rfl ?_
  exact lw_nx hn hI3
set_option maxRecDepth 100000 in
set_option maxHeartbeats 4000000 in
theorem lw_days {sh : SH} {mi : MI} {mr : MR} (hB : ba_c sh mr) (hI : Inv i sh mi mr) (hi : i < 512) (hN : 5 * i + 5 ≤ N) (hN2 : N ≤ 2560) (hn : LN N xs (i + 1)) : EV (some (N, xs)) 2000 (6 * (512 - i)) (150 * (512 - i)) mL_law 973 [some pv_s, some (pv_r 0), some (pv_r 29), some (pv_i (nI (5 * i)))] [] sh mi mr (fun v _ _ _ => v = some (pv_i 1)) := by
  refine ev_aload_n dL_law_973 rfl ?_
  refine ev_sload dL_law_974 rfl ?_
  refine ev_iload_n dL_law_975 rfl ?_
  refine ev_iconst (v := 1) dL_law_976 rfl ?_
  refine ev_iadd dL_law_977 ?_
  refine ev_sld (j := 5 * i + 1) dL_law_978 (nI_add (5 * i) 1) (by omega) (by omega) ?_
  refine ev_callv (k := 0) (av := [pv_i (xs (5 * i + 1))]) (d1 := 20) (mc1 := 6) (ms1 := 150) (mc2 := 6 * (512 - (i + 1))) (ms2 := 150 * (512 - (i + 1))) dL_law_979 cv_L_118 (hB.1 0 _ rfl) rfl rfl (Nat.le_of_ble_eq_true rfl) (by decide) (Or.inr ⟨ok_sn, lw_l (ba_67 hB)⟩) (by omega) (by omega) (op_days hI (xs (5 * i + 1))) ?_
  rintro v_ sh2 mi2 mr2 ⟨r, e_, hB2, h6⟩
  subst e_
  refine ev_aload_n dL_law_982 rfl ?_
  refine ev_sload dL_law_983 rfl ?_
  refine ev_iload_n dL_law_984 rfl ?_
  refine ev_iconst (v := 1) dL_law_985 rfl ?_
  refine ev_iadd dL_law_986 ?_
  refine ev_sld (j := 5 * i + 1) dL_law_987 (nI_add (5 * i) 1) (by omega) (by omega) ?_
  refine ev_callv (k := 29) (av := [pv_i (xs (5 * i + 1))]) (d1 := 20) (mc1 := 0) (ms1 := 0) (mc2 := 6 * (512 - (i + 1))) (ms2 := 150 * (512 - (i + 1))) dL_law_988 cv_L_121 (hB2.1 29 _ rfl) rfl rfl (Nat.le_of_ble_eq_true rfl) (by decide) (Or.inr ⟨ok_sc trivial ok_sn, lw_l (ba_67 hB2)⟩) (Nat.zero_add _) (Nat.zero_add _) h6 ?_
  rintro v_ sh3 mi3 mr3 ⟨e_, hI3⟩
  subst e_
  refine ev_icmp_eq_t (tgt := 1148) dL_law_991 rfl rfl ?_
  exact lw_nx hn hI3
set_option maxRecDepth 100000 in
set_option maxHeartbeats 4000000 in
theorem lw_rate {sh : SH} {mi : MI} {mr : MR} (hB : ba_c sh mr) (hI : Inv i sh mi mr) (hi : i < 512) (hN : 5 * i + 5 ≤ N) (hN2 : N ≤ 2560) (hn : LN N xs (i + 1)) : EV (some (N, xs)) 2000 (6 * (512 - i)) (150 * (512 - i)) mL_law 996 [some pv_s, some (pv_r 0), some (pv_r 29), some (pv_i (nI (5 * i)))] [] sh mi mr (fun v _ _ _ => v = some (pv_i 1)) := by
  refine ev_aload_n dL_law_996 rfl ?_
  refine ev_sload dL_law_997 rfl ?_
  refine ev_iload_n dL_law_998 rfl ?_
  refine ev_iconst (v := 1) dL_law_999 rfl ?_
  refine ev_iadd dL_law_1000 ?_
  refine ev_sld (j := 5 * i + 1) dL_law_1001 (nI_add (5 * i) 1) (by omega) (by omega) ?_
  refine ev_sload dL_law_1002 rfl ?_
  refine ev_iload_n dL_law_1003 rfl ?_
  refine ev_iconst (v := 2) dL_law_1004 rfl ?_
  refine ev_iadd dL_law_1005 ?_
  refine ev_sld (j := 5 * i + 2) dL_law_1006 (nI_add (5 * i) 2) (by omega) (by omega) ?_
  refine ev_sload dL_law_1007 rfl ?_
  refine ev_iload_n dL_law_1008 rfl ?_
  refine ev_iconst (v := 3) dL_law_1009 rfl ?_
  refine ev_iadd dL_law_1010 ?_
  refine ev_sld (j := 5 * i + 3) dL_law_1011 (nI_add (5 * i) 3) (by omega) (by omega) ?_
  refine ev_callv (k := 0) (av := [pv_i (xs (5 * i + 1)), pv_i (xs (5 * i + 2)), pv_i (xs (5 * i + 3))]) (d1 := 20) (mc1 := 6) (ms1 := 150) (mc2 := 6 * (512 - (i + 1))) (ms2 := 150 * (512 - (i + 1))) dL_law_1012 cv_L_122 (hB.1 0 _ rfl) rfl rfl (Nat.le_of_ble_eq_true rfl) (by decide) (Or.inr ⟨ok_sn, lw_l (ba_67 hB)⟩) (by omega) (by omega) (op_rate hI (xs (5 * i + 1)) (xs (5 * i + 2)) (xs (5 * i + 3))) ?_
  rintro v_ sh2 mi2 mr2 ⟨r, e_, hB2, h6⟩
  subst e_
  refine ev_aload_n dL_law_1015 rfl ?_
  refine ev_sload dL_law_1016 rfl ?_
  refine ev_iload_n dL_law_1017 rfl ?_
  refine ev_iconst (v := 1) dL_law_1018 rfl ?_
  refine ev_iadd dL_law_1019 ?_
  refine ev_sld (j := 5 * i + 1) dL_law_1020 (nI_add (5 * i) 1) (by omega) (by omega) ?_
  refine ev_sload dL_law_1021 rfl ?_
  refine ev_iload_n dL_law_1022 rfl ?_
  refine ev_iconst (v := 2) dL_law_1023 rfl ?_
  refine ev_iadd dL_law_1024 ?_
  refine ev_sld (j := 5 * i + 2) dL_law_1025 (nI_add (5 * i) 2) (by omega) (by omega) ?_
  refine ev_sload dL_law_1026 rfl ?_
  refine ev_iload_n dL_law_1027 rfl ?_
  refine ev_iconst (v := 3) dL_law_1028 rfl ?_
  refine ev_iadd dL_law_1029 ?_
  refine ev_sld (j := 5 * i + 3) dL_law_1030 (nI_add (5 * i) 3) (by omega) (by omega) ?_
  refine ev_callv (k := 29) (av := [pv_i (xs (5 * i + 1)), pv_i (xs (5 * i + 2)), pv_i (xs (5 * i + 3))]) (d1 := 20) (mc1 := 0) (ms1 := 0) (mc2 := 6 * (512 - (i + 1))) (ms2 := 150 * (512 - (i + 1))) dL_law_1031 cv_L_125 (hB2.1 29 _ rfl) rfl rfl (Nat.le_of_ble_eq_true rfl) (by decide) (Or.inr ⟨ok_sc trivial ok_sn, lw_l (ba_67 hB2)⟩) (Nat.zero_add _) (Nat.zero_add _) h6 ?_
  rintro v_ sh3 mi3 mr3 ⟨e_, hI3⟩
  subst e_
  refine ev_icmp_eq_t (tgt := 1148) dL_law_1034 rfl rfl ?_
  exact lw_nx hn hI3
set_option maxRecDepth 100000 in
set_option maxHeartbeats 4000000 in
theorem lw_rateAt {sh : SH} {mi : MI} {mr : MR} (hB : ba_c sh mr) (hI : Inv i sh mi mr) (hi : i < 512) (hN : 5 * i + 5 ≤ N) (hN2 : N ≤ 2560) (hn : LN N xs (i + 1)) : EV (some (N, xs)) 2000 (6 * (512 - i)) (150 * (512 - i)) mL_law 1039 [some pv_s, some (pv_r 0), some (pv_r 29), some (pv_i (nI (5 * i)))] [] sh mi mr (fun v _ _ _ => v = some (pv_i 1)) := by
  refine ev_aload_n dL_law_1039 rfl ?_
  refine ev_sload dL_law_1040 rfl ?_
  refine ev_iload_n dL_law_1041 rfl ?_
  refine ev_iconst (v := 1) dL_law_1042 rfl ?_
  refine ev_iadd dL_law_1043 ?_
  refine ev_sld (j := 5 * i + 1) dL_law_1044 (nI_add (5 * i) 1) (by omega) (by omega) ?_
  refine ev_sload dL_law_1045 rfl ?_
  refine ev_iload_n dL_law_1046 rfl ?_
  refine ev_iconst (v := 2) dL_law_1047 rfl ?_
  refine ev_iadd dL_law_1048 ?_
  refine ev_sld (j := 5 * i + 2) dL_law_1049 (nI_add (5 * i) 2) (by omega) (by omega) ?_
  refine ev_sload dL_law_1050 rfl ?_
  refine ev_iload_n dL_law_1051 rfl ?_
  refine ev_iconst (v := 3) dL_law_1052 rfl ?_
  refine ev_iadd dL_law_1053 ?_
  refine ev_sld (j := 5 * i + 3) dL_law_1054 (nI_add (5 * i) 3) (by omega) (by omega) ?_
  refine ev_callv (k := 0) (av := [pv_i (xs (5 * i + 1)), pv_i (xs (5 * i + 2)), pv_i (xs (5 * i + 3))]) (d1 := 20) (mc1 := 6) (ms1 := 150) (mc2 := 6 * (512 - (i + 1))) (ms2 := 150 * (512 - (i + 1))) dL_law_1055 cv_L_126 (hB.1 0 _ rfl) rfl rfl (Nat.le_of_ble_eq_true rfl) (by decide) (Or.inr ⟨ok_sn, lw_l (ba_67 hB)⟩) (by omega) (by omega) (op_rateAt hI (xs (5 * i + 1)) (xs (5 * i + 2)) (xs (5 * i + 3))) ?_
  rintro v_ sh2 mi2 mr2 ⟨r, e_, hB2, h6⟩
  subst e_
  refine ev_aload_n dL_law_1058 rfl ?_
  refine ev_sload dL_law_1059 rfl ?_
  refine ev_iload_n dL_law_1060 rfl ?_
  refine ev_iconst (v := 1) dL_law_1061 rfl ?_
  refine ev_iadd dL_law_1062 ?_
  refine ev_sld (j := 5 * i + 1) dL_law_1063 (nI_add (5 * i) 1) (by omega) (by omega) ?_
  refine ev_sload dL_law_1064 rfl ?_
  refine ev_iload_n dL_law_1065 rfl ?_
  refine ev_iconst (v := 2) dL_law_1066 rfl ?_
  refine ev_iadd dL_law_1067 ?_
  refine ev_sld (j := 5 * i + 2) dL_law_1068 (nI_add (5 * i) 2) (by omega) (by omega) ?_
  refine ev_sload dL_law_1069 rfl ?_
  refine ev_iload_n dL_law_1070 rfl ?_
  refine ev_iconst (v := 3) dL_law_1071 rfl ?_
  refine ev_iadd dL_law_1072 ?_
  refine ev_sld (j := 5 * i + 3) dL_law_1073 (nI_add (5 * i) 3) (by omega) (by omega) ?_
  refine ev_callv (k := 29) (av := [pv_i (xs (5 * i + 1)), pv_i (xs (5 * i + 2)), pv_i (xs (5 * i + 3))]) (d1 := 20) (mc1 := 0) (ms1 := 0) (mc2 := 6 * (512 - (i + 1))) (ms2 := 150 * (512 - (i + 1))) dL_law_1074 cv_L_129 (hB2.1 29 _ rfl) rfl rfl (Nat.le_of_ble_eq_true rfl) (by decide) (Or.inr ⟨ok_sc trivial ok_sn, lw_l (ba_67 hB2)⟩) (Nat.zero_add _) (Nat.zero_add _) h6 ?_
  rintro v_ sh3 mi3 mr3 ⟨e_, hI3⟩
  subst e_
  refine ev_icmp_eq_t (tgt := 1148) dL_law_1077 rfl rfl ?_
  exact lw_nx hn hI3
set_option maxRecDepth 100000 in
set_option maxHeartbeats 4000000 in
theorem lw_wages {sh : SH} {mi : MI} {mr : MR} (hB : ba_c sh mr) (hI : Inv i sh mi mr) (hi : i < 512) (hN : 5 * i + 5 ≤ N) (hN2 : N ≤ 2560) (hn : LN N xs (i + 1)) : EV (some (N, xs)) 2000 (6 * (512 - i)) (150 * (512 - i)) mL_law 1082 [some pv_s, some (pv_r 0), some (pv_r 29), some (pv_i (nI (5 * i)))] [] sh mi mr (fun v _ _ _ => v = some (pv_i 1)) := by
  refine ev_aload_n dL_law_1082 rfl ?_
  refine ev_sload dL_law_1083 rfl ?_
  refine ev_iload_n dL_law_1084 rfl ?_
  refine ev_iconst (v := 1) dL_law_1085 rfl ?_
  refine ev_iadd dL_law_1086 ?_
  refine ev_sld (j := 5 * i + 1) dL_law_1087 (nI_add (5 * i) 1) (by omega) (by omega) ?_
  refine ev_sload dL_law_1088 rfl ?_
  refine ev_iload_n dL_law_1089 rfl ?_
  refine ev_iconst (v := 2) dL_law_1090 rfl ?_
  refine ev_iadd dL_law_1091 ?_
  refine ev_sld (j := 5 * i + 2) dL_law_1092 (nI_add (5 * i) 2) (by omega) (by omega) ?_
  refine ev_sload dL_law_1093 rfl ?_
  refine ev_iload_n dL_law_1094 rfl ?_
  refine ev_iconst (v := 3) dL_law_1095 rfl ?_
  refine ev_iadd dL_law_1096 ?_
  refine ev_sld (j := 5 * i + 3) dL_law_1097 (nI_add (5 * i) 3) (by omega) (by omega) ?_
  refine ev_callv (k := 0) (av := [pv_i (xs (5 * i + 1)), pv_i (xs (5 * i + 2)), pv_i (xs (5 * i + 3))]) (d1 := 20) (mc1 := 6) (ms1 := 150) (mc2 := 6 * (512 - (i + 1))) (ms2 := 150 * (512 - (i + 1))) dL_law_1098 cv_L_130 (hB.1 0 _ rfl) rfl rfl (Nat.le_of_ble_eq_true rfl) (by decide) (Or.inr ⟨ok_sn, lw_l (ba_67 hB)⟩) (by omega) (by omega) (op_wages hI (xs (5 * i + 1)) (xs (5 * i + 2)) (xs (5 * i + 3))) ?_
  rintro v_ sh2 mi2 mr2 ⟨r, e_, hB2, h6⟩
  subst e_
  refine ev_aload_n dL_law_1101 rfl ?_
  refine ev_sload dL_law_1102 rfl ?_
  refine ev_iload_n dL_law_1103 rfl ?_
  refine ev_iconst (v := 1) dL_law_1104 rfl ?_
  refine ev_iadd dL_law_1105 ?_
  refine ev_sld (j := 5 * i + 1) dL_law_1106 (nI_add (5 * i) 1) (by omega) (by omega) ?_
  refine ev_sload dL_law_1107 rfl ?_
  refine ev_iload_n dL_law_1108 rfl ?_
  refine ev_iconst (v := 2) dL_law_1109 rfl ?_
  refine ev_iadd dL_law_1110 ?_
  refine ev_sld (j := 5 * i + 2) dL_law_1111 (nI_add (5 * i) 2) (by omega) (by omega) ?_
  refine ev_sload dL_law_1112 rfl ?_
  refine ev_iload_n dL_law_1113 rfl ?_
  refine ev_iconst (v := 3) dL_law_1114 rfl ?_
  refine ev_iadd dL_law_1115 ?_
  refine ev_sld (j := 5 * i + 3) dL_law_1116 (nI_add (5 * i) 3) (by omega) (by omega) ?_
  refine ev_callv (k := 29) (av := [pv_i (xs (5 * i + 1)), pv_i (xs (5 * i + 2)), pv_i (xs (5 * i + 3))]) (d1 := 20) (mc1 := 0) (ms1 := 0) (mc2 := 6 * (512 - (i + 1))) (ms2 := 150 * (512 - (i + 1))) dL_law_1117 cv_L_133 (hB2.1 29 _ rfl) rfl rfl (Nat.le_of_ble_eq_true rfl) (by decide) (Or.inr ⟨ok_sc trivial ok_sn, lw_l (ba_67 hB2)⟩) (Nat.zero_add _) (Nat.zero_add _) h6 ?_
  rintro v_ sh3 mi3 mr3 ⟨e_, hI3⟩
  subst e_
  refine ev_icmp_eq_t (tgt := 1148) dL_law_1120 rfl rfl ?_
  exact lw_nx hn hI3
set_option maxRecDepth 100000 in
set_option maxHeartbeats 4000000 in
theorem lw_count {sh : SH} {mi : MI} {mr : MR} (hB : ba_c sh mr) (hI : Inv i sh mi mr) (hi : i < 512) (hN : 5 * i + 5 ≤ N) (hN2 : N ≤ 2560) (hn : LN N xs (i + 1)) : EV (some (N, xs)) 2000 (6 * (512 - i)) (150 * (512 - i)) mL_law 1125 [some pv_s, some (pv_r 0), some (pv_r 29), some (pv_i (nI (5 * i)))] [] sh mi mr (fun v _ _ _ => v = some (pv_i 1)) := by
  refine ev_aload_n dL_law_1125 rfl ?_
  refine ev_sload dL_law_1126 rfl ?_
  refine ev_iload_n dL_law_1127 rfl ?_
  refine ev_iconst (v := 1) dL_law_1128 rfl ?_
  refine ev_iadd dL_law_1129 ?_
  refine ev_sld (j := 5 * i + 1) dL_law_1130 (nI_add (5 * i) 1) (by omega) (by omega) ?_
  refine ev_callv (k := 0) (av := [pv_i (xs (5 * i + 1))]) (d1 := 20) (mc1 := 6) (ms1 := 150) (mc2 := 6 * (512 - (i + 1))) (ms2 := 150 * (512 - (i + 1))) dL_law_1131 cv_L_134 (hB.1 0 _ rfl) rfl rfl (Nat.le_of_ble_eq_true rfl) (by decide) (Or.inr ⟨ok_sn, lw_l (ba_67 hB)⟩) (by omega) (by omega) (op_count hI (xs (5 * i + 1))) ?_
  rintro v_ sh2 mi2 mr2 ⟨r, e_, hB2, h6⟩
  subst e_
  refine ev_aload_n dL_law_1134 rfl ?_
  refine ev_sload dL_law_1135 rfl ?_
  refine ev_iload_n dL_law_1136 rfl ?_
  refine ev_iconst (v := 1) dL_law_1137 rfl ?_
  refine ev_iadd dL_law_1138 ?_
  refine ev_sld (j := 5 * i + 1) dL_law_1139 (nI_add (5 * i) 1) (by omega) (by omega) ?_
  refine ev_callv (k := 29) (av := [pv_i (xs (5 * i + 1))]) (d1 := 20) (mc1 := 0) (ms1 := 0) (mc2 := 6 * (512 - (i + 1))) (ms2 := 150 * (512 - (i + 1))) dL_law_1140 cv_L_137 (hB2.1 29 _ rfl) rfl rfl (Nat.le_of_ble_eq_true rfl) (by decide) (Or.inr ⟨ok_sc trivial ok_sn, lw_l (ba_67 hB2)⟩) (Nat.zero_add _) (Nat.zero_add _) h6 ?_
  rintro v_ sh3 mi3 mr3 ⟨e_, hI3⟩
  subst e_
  refine ev_icmp_eq_t (tgt := 1148) dL_law_1143 rfl rfl ?_
  exact lw_nx hn hI3
end LAW
