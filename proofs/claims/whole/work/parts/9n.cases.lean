/-! The law's sixteen calls. -/
theorem bInv.cells {cA : Nat → ClassId} {x t out sc N : Nat} {fx : Nat → Int32} {h : hp_T} (hI : bInv cA x t out sc N fx h) : (∃ fs : List Value, h x = some (.inr (0, fs))) ∧ ∃ fs : List Value, h t = some (.inr (7, fs)) := by
  obtain ⟨tg, sheet, shp, pil, bl, st, sh, ac, dn, fr, sp, dt, W, H, bf, mf, ink, clip, ib, c, kd, val, sz, fb, fs, as, D, bol, B, FI, PI, F, ds, ga, gd, gr, gs, go, cnt, rows, k9, fo, hB, hP, hS, hM, hL, hN, hF, hD⟩ := hI
  exact ⟨⟨_, hB.1.1⟩, ⟨_, hM.1.1⟩⟩
theorem law_in {i L : Nat} {k : Int32} (hi : i + 7 ≤ L) (hL : L ≤ 3587) (hk : 0 ≤ k.toInt ∧ k.toInt ≤ 6) : vp_in (nI i + k) L := by
  have e : (nI i + k).toInt = i + k.toInt := by rw [z_add (by rw [z_nI (by omega)]; omega) (by rw [z_nI (by omega)]; omega), z_nI (by omega)]
  rintro (q | q)
  · rw [z_lt, e, z_0] at q
    omega
  · have : (nI i + k).toNatClampNeg = (nI i + k).toInt.toNat := rfl
    rw [this, e] at q
    omega
theorem l_La_35 : Cond.methodLink "BandPainterLaw" 35 y_La_shape ∈ BIG ∧ Cond.static y_La_shape ∈ BIG ∧ Cond.initialized y_La_shape.cls ∈ BIG ∧ Cond.codeWith y_La_shape method_3_code 5 (some .int) [(0, 10, 13, 13), (0, 10, 17, 15)] ∈ BIG ∧ hp_nd y_La_shape 4 := ⟨by decide +kernel, by decide +kernel, by decide +kernel, by decide +kernel, ⟨by decide +kernel, by decide +kernel, by decide +kernel⟩⟩
theorem l_La_92 : Cond.methodLink "BandPainterLaw" 92 y_La_black ∈ BIG ∧ Cond.static y_La_black ∈ BIG ∧ Cond.initialized y_La_black.cls ∈ BIG ∧ Cond.codeWith y_La_black method_4_code 5 (some .int) [(0, 17, 20, 21)] ∈ BIG ∧ hp_nd y_La_black 4 := ⟨by decide +kernel, by decide +kernel, by decide +kernel, by decide +kernel, ⟨by decide +kernel, by decide +kernel, by decide +kernel⟩⟩
section LAW
variable {p : Program} {l : Launch} {e : Env} {s : State} {m : MethodId} {below : List Frame} {meth : Method} {c : Code} {b L i : Nat} {xs : Nat → Int32} {dC : Nat → ClassId} {dI : Nat → Nat → Nat} {cA : Nat → ClassId} {x t out : Nat} {h : hp_T} {H : Heap} {locs : List Loc} {cells slots : Nat} {ls : Array Slot} {Q : State → Prop}

set_option maxRecDepth 100000 in
theorem lc_1 (S : CallFix p m c code 7 s #[Value.ref b] BIG "BandPainterLaw") (hX : va_X b L xs s s.heap) (hbl : b < s.heap.size) (hst : l.stackTraces = false) (hEX : ex_X s) (hi : i + 7 ≤ L) (hL : L ≤ 3587) (hJ : hp_J (gg dC dI cA) (fun q => s.heap.size ≤ q) h s H locs) (hI : bInv cA x t out 0 0 (fun _ => 0) h) (hl : lv_has ls 7 [(4, .int (nI i)), (3, .ref out), (2, .ref t), (1, .ref x), (0, .ref b)]) (hc : cells + 20 ≤ 601024 ∧ slots + 1000 ≤ 7292999) (kk : ∀ (h' : hp_T) (H' : Heap) (locs' : List Loc) (ls' : Array Slot), bInv cA x t out 0 0 (fun _ => 0) h' → hp_J (gg dC dI cA) (fun q => s.heap.size ≤ q) h' s H' locs' → lv_has ls' 7 [(4, .int (nI i)), (3, .ref out), (2, .ref t), (1, .ref x), (0, .ref b)] → W p l e room_1 s m #[Value.ref b] below meth c H' locs' (cells + 20) (slots + 1000) Q (F0 m 998 ls' [])) : W p l e room_1 s m #[Value.ref b] below meth c H locs cells slots Q (F0 m 216 ls []) := by
  have hbA : ¬ (fun q : Nat => s.heap.size ≤ q) b := Nat.not_le.mpr hbl
  obtain ⟨⟨fx, h_x⟩, ⟨ft, h_t0⟩⟩ := hI.cells
  refine lv_aload_n S.1 S.2.1 d_La_law_216 rfl (lv_at hl 3 rfl) ?_
  refine lv_aload_n S.1 S.2.1 d_La_law_217 rfl (lv_at hl 4 rfl) ?_
  refine lv_iload S.1 S.2.1 d_La_law_218 (lv_at hl 0 rfl) ?_
  refine lv_iconst (v := 1) S.1 S.2.1 d_La_law_220 (by decide) ?_
  refine lv_iadd S.1 S.2.1 d_La_law_221 ?_
  refine va_sld S.1 S.2.1 hX hbl hbA hJ.2.2.2.1 (law_in hi hL (by decide)) d_La_law_222 ?_
  refine lv_aload_n S.1 S.2.1 d_La_law_223 rfl (lv_at hl 4 rfl) ?_
  refine lv_iload S.1 S.2.1 d_La_law_224 (lv_at hl 0 rfl) ?_
  refine lv_iconst (v := 2) S.1 S.2.1 d_La_law_226 (by decide) ?_
  refine lv_iadd S.1 S.2.1 d_La_law_227 ?_
  refine va_sld S.1 S.2.1 hX hbl hbA hJ.2.2.2.1 (law_in hi hL (by decide)) d_La_law_228 ?_
  refine lv_aload_n S.1 S.2.1 d_La_law_229 rfl (lv_at hl 4 rfl) ?_
  refine lv_iload S.1 S.2.1 d_La_law_230 (lv_at hl 0 rfl) ?_
  refine lv_iconst (v := 3) S.1 S.2.1 d_La_law_232 (by decide) ?_
  refine lv_iadd S.1 S.2.1 d_La_law_233 ?_
  refine va_sld S.1 S.2.1 hX hbl hbA hJ.2.2.2.1 (law_in hi hL (by decide)) d_La_law_234 ?_
  refine lv_i2l S.1 S.2.1 d_La_law_235 rfl ?_
  refine lv_bipush (v := 32) S.1 S.2.1 d_La_law_236 (by decide) ?_
  refine lv_lshl S.1 S.2.1 d_La_law_238 rfl ?_
  refine lv_aload_n S.1 S.2.1 d_La_law_239 rfl (lv_at hl 4 rfl) ?_
  refine lv_iload S.1 S.2.1 d_La_law_240 (lv_at hl 0 rfl) ?_
  refine lv_iconst (v := 4) S.1 S.2.1 d_La_law_242 (by decide) ?_
  refine lv_iadd S.1 S.2.1 d_La_law_243 ?_
  refine va_sld S.1 S.2.1 hX hbl hbA hJ.2.2.2.1 (law_in hi hL (by decide)) d_La_law_244 ?_
  refine lv_i2l S.1 S.2.1 d_La_law_245 rfl ?_
  refine lv_ldc2 (v := 4294967295) S.1 S.2.1 S.2.2.2.1 (S.2.2.2.2 _ t_789) d_La_law_246 ?_
  refine lv_land S.1 S.2.1 d_La_law_249 ?_
  refine lv_lor S.1 S.2.1 d_La_law_250 ?_
  refine lv_aload_n S.1 S.2.1 d_La_law_251 rfl (lv_at hl 4 rfl) ?_
  refine lv_iload S.1 S.2.1 d_La_law_252 (lv_at hl 0 rfl) ?_
  refine lv_iconst (v := 5) S.1 S.2.1 d_La_law_254 (by decide) ?_
  refine lv_iadd S.1 S.2.1 d_La_law_255 ?_
  refine va_sld S.1 S.2.1 hX hbl hbA hJ.2.2.2.1 (law_in hi hL (by decide)) d_La_law_256 ?_
  refine lv_i2l S.1 S.2.1 d_La_law_257 rfl ?_
  refine lv_bipush (v := 32) S.1 S.2.1 d_La_law_258 (by decide) ?_
  refine lv_lshl S.1 S.2.1 d_La_law_260 rfl ?_
  refine lv_aload_n S.1 S.2.1 d_La_law_261 rfl (lv_at hl 4 rfl) ?_
  refine lv_iload S.1 S.2.1 d_La_law_262 (lv_at hl 0 rfl) ?_
  refine lv_bipush (v := 6) S.1 S.2.1 d_La_law_264 (by decide) ?_
  refine lv_iadd S.1 S.2.1 d_La_law_266 ?_
  refine va_sld S.1 S.2.1 hX hbl hbA hJ.2.2.2.1 (law_in hi hL (by decide)) d_La_law_267 ?_
  refine lv_i2l S.1 S.2.1 d_La_law_268 rfl ?_
  refine lv_ldc2 (v := 4294967295) S.1 S.2.1 S.2.2.2.1 (S.2.2.2.2 _ t_789) d_La_law_269 ?_
  refine lv_land S.1 S.2.1 d_La_law_272 ?_
  refine lv_lor S.1 S.2.1 d_La_law_273 ?_
  refine hp_doneWi hJ (hp_runV S zz0 (u_draw hI (xs (nI i + 1).toNatClampNeg) (xs (nI i + 2).toNatClampNeg) ((xs (nI i + 3).toNatClampNeg).toInt64 <<< ((32 : Int32).toInt64 &&& 63) ||| (xs (nI i + 4).toNatClampNeg).toInt64 &&& 4294967295) ((xs (nI i + 5).toNatClampNeg).toInt64 <<< ((32 : Int32).toInt64 &&& 63) ||| (xs (nI i + 6).toNatClampNeg).toInt64 &&& 4294967295)) l_La_45 (hJ.preV _ h_x rfl) (by decide) rfl hl.1 rfl (nl rfl) d_La_law_274 ⟨by show _ ≤ 601024; omega, by show _ ≤ 7292999; omega⟩) (fun r h1 H1 locs1 hm1 hJ1 => ?_)
  obtain ⟨⟨f1, h_t⟩, hm⟩ := hm1
  refine lv_aload_n S.1 S.2.1 d_La_law_277 rfl (lv_at hl 2 rfl) ?_
  refine lv_aload_n S.1 S.2.1 d_La_law_278 rfl (lv_at hl 4 rfl) ?_
  refine lv_iload S.1 S.2.1 d_La_law_279 (lv_at hl 0 rfl) ?_
  refine lv_iconst (v := 1) S.1 S.2.1 d_La_law_281 (by decide) ?_
  refine lv_iadd S.1 S.2.1 d_La_law_282 ?_
  refine va_sld S.1 S.2.1 hX hbl hbA hJ1.2.2.2.1 (law_in hi hL (by decide)) d_La_law_283 ?_
  refine lv_aload_n S.1 S.2.1 d_La_law_284 rfl (lv_at hl 4 rfl) ?_
  refine lv_iload S.1 S.2.1 d_La_law_285 (lv_at hl 0 rfl) ?_
  refine lv_iconst (v := 2) S.1 S.2.1 d_La_law_287 (by decide) ?_
  refine lv_iadd S.1 S.2.1 d_La_law_288 ?_
  refine va_sld S.1 S.2.1 hX hbl hbA hJ1.2.2.2.1 (law_in hi hL (by decide)) d_La_law_289 ?_
  refine lv_aload_n S.1 S.2.1 d_La_law_290 rfl (lv_at hl 4 rfl) ?_
  refine lv_iload S.1 S.2.1 d_La_law_291 (lv_at hl 0 rfl) ?_
  refine lv_iconst (v := 3) S.1 S.2.1 d_La_law_293 (by decide) ?_
  refine lv_iadd S.1 S.2.1 d_La_law_294 ?_
  refine va_sld S.1 S.2.1 hX hbl hbA hJ1.2.2.2.1 (law_in hi hL (by decide)) d_La_law_295 ?_
  refine lv_i2l S.1 S.2.1 d_La_law_296 rfl ?_
  refine lv_bipush (v := 32) S.1 S.2.1 d_La_law_297 (by decide) ?_
  refine lv_lshl S.1 S.2.1 d_La_law_299 rfl ?_
  refine lv_aload_n S.1 S.2.1 d_La_law_300 rfl (lv_at hl 4 rfl) ?_
  refine lv_iload S.1 S.2.1 d_La_law_301 (lv_at hl 0 rfl) ?_
  refine lv_iconst (v := 4) S.1 S.2.1 d_La_law_303 (by decide) ?_
  refine lv_iadd S.1 S.2.1 d_La_law_304 ?_
  refine va_sld S.1 S.2.1 hX hbl hbA hJ1.2.2.2.1 (law_in hi hL (by decide)) d_La_law_305 ?_
  refine lv_i2l S.1 S.2.1 d_La_law_306 rfl ?_
  refine lv_ldc2 (v := 4294967295) S.1 S.2.1 S.2.2.2.1 (S.2.2.2.2 _ t_789) d_La_law_307 ?_
  refine lv_land S.1 S.2.1 d_La_law_310 ?_
  refine lv_lor S.1 S.2.1 d_La_law_311 ?_
  refine lv_aload_n S.1 S.2.1 d_La_law_312 rfl (lv_at hl 4 rfl) ?_
  refine lv_iload S.1 S.2.1 d_La_law_313 (lv_at hl 0 rfl) ?_
  refine lv_iconst (v := 5) S.1 S.2.1 d_La_law_315 (by decide) ?_
  refine lv_iadd S.1 S.2.1 d_La_law_316 ?_
  refine va_sld S.1 S.2.1 hX hbl hbA hJ1.2.2.2.1 (law_in hi hL (by decide)) d_La_law_317 ?_
  refine lv_i2l S.1 S.2.1 d_La_law_318 rfl ?_
  refine lv_bipush (v := 32) S.1 S.2.1 d_La_law_319 (by decide) ?_
  refine lv_lshl S.1 S.2.1 d_La_law_321 rfl ?_
  refine lv_aload_n S.1 S.2.1 d_La_law_322 rfl (lv_at hl 4 rfl) ?_
  refine lv_iload S.1 S.2.1 d_La_law_323 (lv_at hl 0 rfl) ?_
  refine lv_bipush (v := 6) S.1 S.2.1 d_La_law_325 (by decide) ?_
  refine lv_iadd S.1 S.2.1 d_La_law_327 ?_
  refine va_sld S.1 S.2.1 hX hbl hbA hJ1.2.2.2.1 (law_in hi hL (by decide)) d_La_law_328 ?_
  refine lv_i2l S.1 S.2.1 d_La_law_329 rfl ?_
  refine lv_ldc2 (v := 4294967295) S.1 S.2.1 S.2.2.2.1 (S.2.2.2.2 _ t_789) d_La_law_330 ?_
  refine lv_land S.1 S.2.1 d_La_law_333 ?_
  refine lv_lor S.1 S.2.1 d_La_law_334 ?_
  refine hp_doneWi hJ1 (hp_runV S zz0 hm l_La_49 (hJ1.preV _ h_t rfl) (by decide) rfl hl.1 rfl (nl rfl) d_La_law_335 ⟨by show _ ≤ 601024; omega, by show _ ≤ 7292999; omega⟩) (fun r2 h2 H2 locs2 hp2 hJ2 => ?_)
  obtain ⟨hr2, hI2⟩ := hp2
  refine lv_icmp_eq (tgt := 998) S.1 S.2.1 d_La_law_338 (by decide) (fun _ => ?_) (fun q => absurd hr2.symm q)
  exact W.widen (by omega) (by omega) (kk h2 H2 locs2 ls hI2 hJ2 hl)

set_option maxRecDepth 100000 in
theorem lc_2 (S : CallFix p m c code 7 s #[Value.ref b] BIG "BandPainterLaw") (hX : va_X b L xs s s.heap) (hbl : b < s.heap.size) (hst : l.stackTraces = false) (hEX : ex_X s) (hi : i + 7 ≤ L) (hL : L ≤ 3587) (hJ : hp_J (gg dC dI cA) (fun q => s.heap.size ≤ q) h s H locs) (hI : bInv cA x t out 0 0 (fun _ => 0) h) (hl : lv_has ls 7 [(4, .int (nI i)), (3, .ref out), (2, .ref t), (1, .ref x), (0, .ref b)]) (hc : cells + 20 ≤ 601024 ∧ slots + 1000 ≤ 7292999) (kk : ∀ (h' : hp_T) (H' : Heap) (locs' : List Loc) (ls' : Array Slot), bInv cA x t out 0 0 (fun _ => 0) h' → hp_J (gg dC dI cA) (fun q => s.heap.size ≤ q) h' s H' locs' → lv_has ls' 7 [(4, .int (nI i)), (3, .ref out), (2, .ref t), (1, .ref x), (0, .ref b)] → W p l e room_1 s m #[Value.ref b] below meth c H' locs' (cells + 20) (slots + 1000) Q (F0 m 998 ls' [])) : W p l e room_1 s m #[Value.ref b] below meth c H locs cells slots Q (F0 m 343 ls []) := by
  have hbA : ¬ (fun q : Nat => s.heap.size ≤ q) b := Nat.not_le.mpr hbl
  obtain ⟨⟨fx, h_x⟩, ⟨ft, h_t0⟩⟩ := hI.cells
  refine lv_aload_n S.1 S.2.1 d_La_law_343 rfl (lv_at hl 3 rfl) ?_
  refine lv_aload_n S.1 S.2.1 d_La_law_344 rfl (lv_at hl 4 rfl) ?_
  refine lv_iload S.1 S.2.1 d_La_law_345 (lv_at hl 0 rfl) ?_
  refine lv_iconst (v := 1) S.1 S.2.1 d_La_law_347 (by decide) ?_
  refine lv_iadd S.1 S.2.1 d_La_law_348 ?_
  refine va_sld S.1 S.2.1 hX hbl hbA hJ.2.2.2.1 (law_in hi hL (by decide)) d_La_law_349 ?_
  refine lv_aload_n S.1 S.2.1 d_La_law_350 rfl (lv_at hl 4 rfl) ?_
  refine lv_iload S.1 S.2.1 d_La_law_351 (lv_at hl 0 rfl) ?_
  refine lv_iconst (v := 2) S.1 S.2.1 d_La_law_353 (by decide) ?_
  refine lv_iadd S.1 S.2.1 d_La_law_354 ?_
  refine va_sld S.1 S.2.1 hX hbl hbA hJ.2.2.2.1 (law_in hi hL (by decide)) d_La_law_355 ?_
  refine hp_doneWi hJ (hp_runV S zz0 (u_ink hI (xs (nI i + 1).toNatClampNeg) (xs (nI i + 2).toNatClampNeg)) l_La_50 (hJ.preV _ h_x rfl) (by decide) rfl hl.1 rfl (nl rfl) d_La_law_356 ⟨by show _ ≤ 601024; omega, by show _ ≤ 7292999; omega⟩) (fun r h1 H1 locs1 hm1 hJ1 => ?_)
  obtain ⟨⟨f1, h_t⟩, hm⟩ := hm1
  refine lv_aload_n S.1 S.2.1 d_La_law_359 rfl (lv_at hl 2 rfl) ?_
  refine lv_aload_n S.1 S.2.1 d_La_law_360 rfl (lv_at hl 4 rfl) ?_
  refine lv_iload S.1 S.2.1 d_La_law_361 (lv_at hl 0 rfl) ?_
  refine lv_iconst (v := 1) S.1 S.2.1 d_La_law_363 (by decide) ?_
  refine lv_iadd S.1 S.2.1 d_La_law_364 ?_
  refine va_sld S.1 S.2.1 hX hbl hbA hJ1.2.2.2.1 (law_in hi hL (by decide)) d_La_law_365 ?_
  refine lv_aload_n S.1 S.2.1 d_La_law_366 rfl (lv_at hl 4 rfl) ?_
  refine lv_iload S.1 S.2.1 d_La_law_367 (lv_at hl 0 rfl) ?_
  refine lv_iconst (v := 2) S.1 S.2.1 d_La_law_369 (by decide) ?_
  refine lv_iadd S.1 S.2.1 d_La_law_370 ?_
  refine va_sld S.1 S.2.1 hX hbl hbA hJ1.2.2.2.1 (law_in hi hL (by decide)) d_La_law_371 ?_
  refine hp_doneWi hJ1 (hp_runV S zz0 hm l_La_53 (hJ1.preV _ h_t rfl) (by decide) rfl hl.1 rfl (nl rfl) d_La_law_372 ⟨by show _ ≤ 601024; omega, by show _ ≤ 7292999; omega⟩) (fun r2 h2 H2 locs2 hp2 hJ2 => ?_)
  obtain ⟨hr2, hI2⟩ := hp2
  refine lv_icmp_eq (tgt := 998) S.1 S.2.1 d_La_law_375 (by decide) (fun _ => ?_) (fun q => absurd hr2.symm q)
  exact W.widen (by omega) (by omega) (kk h2 H2 locs2 ls hI2 hJ2 hl)

set_option maxRecDepth 100000 in
theorem lc_4 (S : CallFix p m c code 7 s #[Value.ref b] BIG "BandPainterLaw") (hX : va_X b L xs s s.heap) (hbl : b < s.heap.size) (hst : l.stackTraces = false) (hEX : ex_X s) (hi : i + 7 ≤ L) (hL : L ≤ 3587) (hJ : hp_J (gg dC dI cA) (fun q => s.heap.size ≤ q) h s H locs) (hI : bInv cA x t out 0 0 (fun _ => 0) h) (hl : lv_has ls 7 [(4, .int (nI i)), (3, .ref out), (2, .ref t), (1, .ref x), (0, .ref b)]) (hc : cells + 20 ≤ 601024 ∧ slots + 1000 ≤ 7292999) (kk : ∀ (h' : hp_T) (H' : Heap) (locs' : List Loc) (ls' : Array Slot), bInv cA x t out 0 0 (fun _ => 0) h' → hp_J (gg dC dI cA) (fun q => s.heap.size ≤ q) h' s H' locs' → lv_has ls' 7 [(4, .int (nI i)), (3, .ref out), (2, .ref t), (1, .ref x), (0, .ref b)] → W p l e room_1 s m #[Value.ref b] below meth c H' locs' (cells + 20) (slots + 1000) Q (F0 m 998 ls' [])) : W p l e room_1 s m #[Value.ref b] below meth c H locs cells slots Q (F0 m 447 ls []) := by
  have hbA : ¬ (fun q : Nat => s.heap.size ≤ q) b := Nat.not_le.mpr hbl
  obtain ⟨⟨fx, h_x⟩, ⟨ft, h_t0⟩⟩ := hI.cells
  refine lv_aload_n S.1 S.2.1 d_La_law_447 rfl (lv_at hl 3 rfl) ?_
  refine lv_aload_n S.1 S.2.1 d_La_law_448 rfl (lv_at hl 4 rfl) ?_
  refine lv_iload S.1 S.2.1 d_La_law_449 (lv_at hl 0 rfl) ?_
  refine lv_iconst (v := 1) S.1 S.2.1 d_La_law_451 (by decide) ?_
  refine lv_iadd S.1 S.2.1 d_La_law_452 ?_
  refine va_sld S.1 S.2.1 hX hbl hbA hJ.2.2.2.1 (law_in hi hL (by decide)) d_La_law_453 ?_
  refine hp_doneWi hJ (hp_runV S zz0 (u_turn hI (xs (nI i + 1).toNatClampNeg)) l_La_59 (hJ.preV _ h_x rfl) (by decide) rfl hl.1 rfl (nl rfl) d_La_law_454 ⟨by show _ ≤ 601024; omega, by show _ ≤ 7292999; omega⟩) (fun r h1 H1 locs1 hm1 hJ1 => ?_)
  obtain ⟨⟨f1, h_t⟩, hm⟩ := hm1
  refine lv_aload_n S.1 S.2.1 d_La_law_457 rfl (lv_at hl 2 rfl) ?_
  refine lv_aload_n S.1 S.2.1 d_La_law_458 rfl (lv_at hl 4 rfl) ?_
  refine lv_iload S.1 S.2.1 d_La_law_459 (lv_at hl 0 rfl) ?_
  refine lv_iconst (v := 1) S.1 S.2.1 d_La_law_461 (by decide) ?_
  refine lv_iadd S.1 S.2.1 d_La_law_462 ?_
  refine va_sld S.1 S.2.1 hX hbl hbA hJ1.2.2.2.1 (law_in hi hL (by decide)) d_La_law_463 ?_
  refine hp_doneWi hJ1 (hp_runV S zz0 hm l_La_63 (hJ1.preV _ h_t rfl) (by decide) rfl hl.1 rfl (nl rfl) d_La_law_464 ⟨by show _ ≤ 601024; omega, by show _ ≤ 7292999; omega⟩) (fun r2 h2 H2 locs2 hp2 hJ2 => ?_)
  obtain ⟨hr2, hI2⟩ := hp2
  refine lv_icmp_eq (tgt := 998) S.1 S.2.1 d_La_law_467 (by decide) (fun _ => ?_) (fun q => absurd hr2.symm q)
  exact W.widen (by omega) (by omega) (kk h2 H2 locs2 ls hI2 hJ2 hl)

set_option maxRecDepth 100000 in
theorem lc_5 (S : CallFix p m c code 7 s #[Value.ref b] BIG "BandPainterLaw") (hX : va_X b L xs s s.heap) (hbl : b < s.heap.size) (hst : l.stackTraces = false) (hEX : ex_X s) (hi : i + 7 ≤ L) (hL : L ≤ 3587) (hJ : hp_J (gg dC dI cA) (fun q => s.heap.size ≤ q) h s H locs) (hI : bInv cA x t out 0 0 (fun _ => 0) h) (hl : lv_has ls 7 [(4, .int (nI i)), (3, .ref out), (2, .ref t), (1, .ref x), (0, .ref b)]) (hc : cells + 20 ≤ 601024 ∧ slots + 1000 ≤ 7292999) (kk : ∀ (h' : hp_T) (H' : Heap) (locs' : List Loc) (ls' : Array Slot), bInv cA x t out 0 0 (fun _ => 0) h' → hp_J (gg dC dI cA) (fun q => s.heap.size ≤ q) h' s H' locs' → lv_has ls' 7 [(4, .int (nI i)), (3, .ref out), (2, .ref t), (1, .ref x), (0, .ref b)] → W p l e room_1 s m #[Value.ref b] below meth c H' locs' (cells + 20) (slots + 1000) Q (F0 m 998 ls' [])) : W p l e room_1 s m #[Value.ref b] below meth c H locs cells slots Q (F0 m 472 ls []) := by
  have hbA : ¬ (fun q : Nat => s.heap.size ≤ q) b := Nat.not_le.mpr hbl
  obtain ⟨⟨fx, h_x⟩, ⟨ft, h_t0⟩⟩ := hI.cells
  refine lv_aload_n S.1 S.2.1 d_La_law_472 rfl (lv_at hl 3 rfl) ?_
  refine lv_aload_n S.1 S.2.1 d_La_law_473 rfl (lv_at hl 4 rfl) ?_
  refine lv_iload S.1 S.2.1 d_La_law_474 (lv_at hl 0 rfl) ?_
  refine lv_iconst (v := 1) S.1 S.2.1 d_La_law_476 (by decide) ?_
  refine lv_iadd S.1 S.2.1 d_La_law_477 ?_
  refine va_sld S.1 S.2.1 hX hbl hbA hJ.2.2.2.1 (law_in hi hL (by decide)) d_La_law_478 ?_
  refine lv_aload_n S.1 S.2.1 d_La_law_479 rfl (lv_at hl 4 rfl) ?_
  refine lv_iload S.1 S.2.1 d_La_law_480 (lv_at hl 0 rfl) ?_
  refine lv_iconst (v := 2) S.1 S.2.1 d_La_law_482 (by decide) ?_
  refine lv_iadd S.1 S.2.1 d_La_law_483 ?_
  refine va_sld S.1 S.2.1 hX hbl hbA hJ.2.2.2.1 (law_in hi hL (by decide)) d_La_law_484 ?_
  refine lv_aload_n S.1 S.2.1 d_La_law_485 rfl (lv_at hl 4 rfl) ?_
  refine lv_iload S.1 S.2.1 d_La_law_486 (lv_at hl 0 rfl) ?_
  refine lv_iconst (v := 3) S.1 S.2.1 d_La_law_488 (by decide) ?_
  refine lv_iadd S.1 S.2.1 d_La_law_489 ?_
  refine va_sld S.1 S.2.1 hX hbl hbA hJ.2.2.2.1 (law_in hi hL (by decide)) d_La_law_490 ?_
  refine lv_aload_n S.1 S.2.1 d_La_law_491 rfl (lv_at hl 4 rfl) ?_
  refine lv_iload S.1 S.2.1 d_La_law_492 (lv_at hl 0 rfl) ?_
  refine lv_iconst (v := 4) S.1 S.2.1 d_La_law_494 (by decide) ?_
  refine lv_iadd S.1 S.2.1 d_La_law_495 ?_
  refine va_sld S.1 S.2.1 hX hbl hbA hJ.2.2.2.1 (law_in hi hL (by decide)) d_La_law_496 ?_
  refine hp_doneWi hJ (hp_runV S zz0 (u_clip hI (xs (nI i + 1).toNatClampNeg) (xs (nI i + 2).toNatClampNeg) (xs (nI i + 3).toNatClampNeg) (xs (nI i + 4).toNatClampNeg)) l_La_64 (hJ.preV _ h_x rfl) (by decide) rfl hl.1 rfl (nl rfl) d_La_law_497 ⟨by show _ ≤ 601024; omega, by show _ ≤ 7292999; omega⟩) (fun r h1 H1 locs1 hm1 hJ1 => ?_)
  obtain ⟨⟨f1, h_t⟩, hm⟩ := hm1
  refine lv_aload_n S.1 S.2.1 d_La_law_500 rfl (lv_at hl 2 rfl) ?_
  refine lv_aload_n S.1 S.2.1 d_La_law_501 rfl (lv_at hl 4 rfl) ?_
  refine lv_iload S.1 S.2.1 d_La_law_502 (lv_at hl 0 rfl) ?_
  refine lv_iconst (v := 1) S.1 S.2.1 d_La_law_504 (by decide) ?_
  refine lv_iadd S.1 S.2.1 d_La_law_505 ?_
  refine va_sld S.1 S.2.1 hX hbl hbA hJ1.2.2.2.1 (law_in hi hL (by decide)) d_La_law_506 ?_
  refine lv_aload_n S.1 S.2.1 d_La_law_507 rfl (lv_at hl 4 rfl) ?_
  refine lv_iload S.1 S.2.1 d_La_law_508 (lv_at hl 0 rfl) ?_
  refine lv_iconst (v := 2) S.1 S.2.1 d_La_law_510 (by decide) ?_
  refine lv_iadd S.1 S.2.1 d_La_law_511 ?_
  refine va_sld S.1 S.2.1 hX hbl hbA hJ1.2.2.2.1 (law_in hi hL (by decide)) d_La_law_512 ?_
  refine lv_aload_n S.1 S.2.1 d_La_law_513 rfl (lv_at hl 4 rfl) ?_
  refine lv_iload S.1 S.2.1 d_La_law_514 (lv_at hl 0 rfl) ?_
  refine lv_iconst (v := 3) S.1 S.2.1 d_La_law_516 (by decide) ?_
  refine lv_iadd S.1 S.2.1 d_La_law_517 ?_
  refine va_sld S.1 S.2.1 hX hbl hbA hJ1.2.2.2.1 (law_in hi hL (by decide)) d_La_law_518 ?_
  refine lv_aload_n S.1 S.2.1 d_La_law_519 rfl (lv_at hl 4 rfl) ?_
  refine lv_iload S.1 S.2.1 d_La_law_520 (lv_at hl 0 rfl) ?_
  refine lv_iconst (v := 4) S.1 S.2.1 d_La_law_522 (by decide) ?_
  refine lv_iadd S.1 S.2.1 d_La_law_523 ?_
  refine va_sld S.1 S.2.1 hX hbl hbA hJ1.2.2.2.1 (law_in hi hL (by decide)) d_La_law_524 ?_
  refine hp_doneWi hJ1 (hp_runV S zz0 hm l_La_68 (hJ1.preV _ h_t rfl) (by decide) rfl hl.1 rfl (nl rfl) d_La_law_525 ⟨by show _ ≤ 601024; omega, by show _ ≤ 7292999; omega⟩) (fun r2 h2 H2 locs2 hp2 hJ2 => ?_)
  obtain ⟨hr2, hI2⟩ := hp2
  refine lv_icmp_eq (tgt := 998) S.1 S.2.1 d_La_law_528 (by decide) (fun _ => ?_) (fun q => absurd hr2.symm q)
  exact W.widen (by omega) (by omega) (kk h2 H2 locs2 ls hI2 hJ2 hl)

set_option maxRecDepth 100000 in
theorem lc_6 (S : CallFix p m c code 7 s #[Value.ref b] BIG "BandPainterLaw") (hX : va_X b L xs s s.heap) (hbl : b < s.heap.size) (hst : l.stackTraces = false) (hEX : ex_X s) (hi : i + 7 ≤ L) (hL : L ≤ 3587) (hJ : hp_J (gg dC dI cA) (fun q => s.heap.size ≤ q) h s H locs) (hI : bInv cA x t out 0 0 (fun _ => 0) h) (hl : lv_has ls 7 [(4, .int (nI i)), (3, .ref out), (2, .ref t), (1, .ref x), (0, .ref b)]) (hc : cells + 20 ≤ 601024 ∧ slots + 1000 ≤ 7292999) (kk : ∀ (h' : hp_T) (H' : Heap) (locs' : List Loc) (ls' : Array Slot), bInv cA x t out 0 0 (fun _ => 0) h' → hp_J (gg dC dI cA) (fun q => s.heap.size ≤ q) h' s H' locs' → lv_has ls' 7 [(4, .int (nI i)), (3, .ref out), (2, .ref t), (1, .ref x), (0, .ref b)] → W p l e room_1 s m #[Value.ref b] below meth c H' locs' (cells + 20) (slots + 1000) Q (F0 m 998 ls' [])) : W p l e room_1 s m #[Value.ref b] below meth c H locs cells slots Q (F0 m 533 ls []) := by
  have hbA : ¬ (fun q : Nat => s.heap.size ≤ q) b := Nat.not_le.mpr hbl
  obtain ⟨⟨fx, h_x⟩, ⟨ft, h_t0⟩⟩ := hI.cells
  refine lv_aload_n S.1 S.2.1 d_La_law_533 rfl (lv_at hl 3 rfl) ?_
  refine lv_aload_n S.1 S.2.1 d_La_law_534 rfl (lv_at hl 4 rfl) ?_
  refine lv_iload S.1 S.2.1 d_La_law_535 (lv_at hl 0 rfl) ?_
  refine lv_iconst (v := 1) S.1 S.2.1 d_La_law_537 (by decide) ?_
  refine lv_iadd S.1 S.2.1 d_La_law_538 ?_
  refine va_sld S.1 S.2.1 hX hbl hbA hJ.2.2.2.1 (law_in hi hL (by decide)) d_La_law_539 ?_
  refine lv_aload_n S.1 S.2.1 d_La_law_540 rfl (lv_at hl 4 rfl) ?_
  refine lv_iload S.1 S.2.1 d_La_law_541 (lv_at hl 0 rfl) ?_
  refine lv_iconst (v := 2) S.1 S.2.1 d_La_law_543 (by decide) ?_
  refine lv_iadd S.1 S.2.1 d_La_law_544 ?_
  refine va_sld S.1 S.2.1 hX hbl hbA hJ.2.2.2.1 (law_in hi hL (by decide)) d_La_law_545 ?_
  refine lv_aload_n S.1 S.2.1 d_La_law_546 rfl (lv_at hl 4 rfl) ?_
  refine lv_iload S.1 S.2.1 d_La_law_547 (lv_at hl 0 rfl) ?_
  refine lv_iconst (v := 3) S.1 S.2.1 d_La_law_549 (by decide) ?_
  refine lv_iadd S.1 S.2.1 d_La_law_550 ?_
  refine va_sld S.1 S.2.1 hX hbl hbA hJ.2.2.2.1 (law_in hi hL (by decide)) d_La_law_551 ?_
  refine hp_doneWi hJ (hp_runV S zz0 (u_stamp hI (xs (nI i + 1).toNatClampNeg) (xs (nI i + 2).toNatClampNeg) (xs (nI i + 3).toNatClampNeg)) l_La_69 (hJ.preV _ h_x rfl) (by decide) rfl hl.1 rfl (nl rfl) d_La_law_552 ⟨by show _ ≤ 601024; omega, by show _ ≤ 7292999; omega⟩) (fun r h1 H1 locs1 hm1 hJ1 => ?_)
  obtain ⟨⟨f1, h_t⟩, hm⟩ := hm1
  refine lv_aload_n S.1 S.2.1 d_La_law_555 rfl (lv_at hl 2 rfl) ?_
  refine lv_aload_n S.1 S.2.1 d_La_law_556 rfl (lv_at hl 4 rfl) ?_
  refine lv_iload S.1 S.2.1 d_La_law_557 (lv_at hl 0 rfl) ?_
  refine lv_iconst (v := 1) S.1 S.2.1 d_La_law_559 (by decide) ?_
  refine lv_iadd S.1 S.2.1 d_La_law_560 ?_
  refine va_sld S.1 S.2.1 hX hbl hbA hJ1.2.2.2.1 (law_in hi hL (by decide)) d_La_law_561 ?_
  refine lv_aload_n S.1 S.2.1 d_La_law_562 rfl (lv_at hl 4 rfl) ?_
  refine lv_iload S.1 S.2.1 d_La_law_563 (lv_at hl 0 rfl) ?_
  refine lv_iconst (v := 2) S.1 S.2.1 d_La_law_565 (by decide) ?_
  refine lv_iadd S.1 S.2.1 d_La_law_566 ?_
  refine va_sld S.1 S.2.1 hX hbl hbA hJ1.2.2.2.1 (law_in hi hL (by decide)) d_La_law_567 ?_
  refine lv_aload_n S.1 S.2.1 d_La_law_568 rfl (lv_at hl 4 rfl) ?_
  refine lv_iload S.1 S.2.1 d_La_law_569 (lv_at hl 0 rfl) ?_
  refine lv_iconst (v := 3) S.1 S.2.1 d_La_law_571 (by decide) ?_
  refine lv_iadd S.1 S.2.1 d_La_law_572 ?_
  refine va_sld S.1 S.2.1 hX hbl hbA hJ1.2.2.2.1 (law_in hi hL (by decide)) d_La_law_573 ?_
  refine hp_doneWi hJ1 (hp_runV S zz0 hm l_La_73 (hJ1.preV _ h_t rfl) (by decide) rfl hl.1 rfl (nl rfl) d_La_law_574 ⟨by show _ ≤ 601024; omega, by show _ ≤ 7292999; omega⟩) (fun r2 h2 H2 locs2 hp2 hJ2 => ?_)
  obtain ⟨hr2, hI2⟩ := hp2
  refine lv_icmp_eq (tgt := 998) S.1 S.2.1 d_La_law_577 (by decide) (fun _ => ?_) (fun q => absurd hr2.symm q)
  exact W.widen (by omega) (by omega) (kk h2 H2 locs2 ls hI2 hJ2 hl)

set_option maxRecDepth 100000 in
theorem lc_7 (S : CallFix p m c code 7 s #[Value.ref b] BIG "BandPainterLaw") (hX : va_X b L xs s s.heap) (hbl : b < s.heap.size) (hst : l.stackTraces = false) (hEX : ex_X s) (hi : i + 7 ≤ L) (hL : L ≤ 3587) (hJ : hp_J (gg dC dI cA) (fun q => s.heap.size ≤ q) h s H locs) (hI : bInv cA x t out 0 0 (fun _ => 0) h) (hl : lv_has ls 7 [(4, .int (nI i)), (3, .ref out), (2, .ref t), (1, .ref x), (0, .ref b)]) (hc : cells + 20 ≤ 601024 ∧ slots + 1000 ≤ 7292999) (kk : ∀ (h' : hp_T) (H' : Heap) (locs' : List Loc) (ls' : Array Slot), bInv cA x t out 0 0 (fun _ => 0) h' → hp_J (gg dC dI cA) (fun q => s.heap.size ≤ q) h' s H' locs' → lv_has ls' 7 [(4, .int (nI i)), (3, .ref out), (2, .ref t), (1, .ref x), (0, .ref b)] → W p l e room_1 s m #[Value.ref b] below meth c H' locs' (cells + 20) (slots + 1000) Q (F0 m 998 ls' [])) : W p l e room_1 s m #[Value.ref b] below meth c H locs cells slots Q (F0 m 582 ls []) := by
  have hbA : ¬ (fun q : Nat => s.heap.size ≤ q) b := Nat.not_le.mpr hbl
  obtain ⟨⟨fx, h_x⟩, ⟨ft, h_t0⟩⟩ := hI.cells
  refine lv_aload_n S.1 S.2.1 d_La_law_582 rfl (lv_at hl 3 rfl) ?_
  refine lv_aload_n S.1 S.2.1 d_La_law_583 rfl (lv_at hl 4 rfl) ?_
  refine lv_iload S.1 S.2.1 d_La_law_584 (lv_at hl 0 rfl) ?_
  refine lv_iconst (v := 1) S.1 S.2.1 d_La_law_586 (by decide) ?_
  refine lv_iadd S.1 S.2.1 d_La_law_587 ?_
  refine va_sld S.1 S.2.1 hX hbl hbA hJ.2.2.2.1 (law_in hi hL (by decide)) d_La_law_588 ?_
  refine lv_aload_n S.1 S.2.1 d_La_law_589 rfl (lv_at hl 4 rfl) ?_
  refine lv_iload S.1 S.2.1 d_La_law_590 (lv_at hl 0 rfl) ?_
  refine lv_iconst (v := 2) S.1 S.2.1 d_La_law_592 (by decide) ?_
  refine lv_iadd S.1 S.2.1 d_La_law_593 ?_
  refine va_sld S.1 S.2.1 hX hbl hbA hJ.2.2.2.1 (law_in hi hL (by decide)) d_La_law_594 ?_
  refine lv_aload_n S.1 S.2.1 d_La_law_595 rfl (lv_at hl 4 rfl) ?_
  refine lv_iload S.1 S.2.1 d_La_law_596 (lv_at hl 0 rfl) ?_
  refine lv_iconst (v := 3) S.1 S.2.1 d_La_law_598 (by decide) ?_
  refine lv_iadd S.1 S.2.1 d_La_law_599 ?_
  refine va_sld S.1 S.2.1 hX hbl hbA hJ.2.2.2.1 (law_in hi hL (by decide)) d_La_law_600 ?_
  refine lv_aload_n S.1 S.2.1 d_La_law_601 rfl (lv_at hl 4 rfl) ?_
  refine lv_iload S.1 S.2.1 d_La_law_602 (lv_at hl 0 rfl) ?_
  refine lv_iconst (v := 4) S.1 S.2.1 d_La_law_604 (by decide) ?_
  refine lv_iadd S.1 S.2.1 d_La_law_605 ?_
  refine va_sld S.1 S.2.1 hX hbl hbA hJ.2.2.2.1 (law_in hi hL (by decide)) d_La_law_606 ?_
  refine hp_doneWi hJ (hp_runV S zz0 (u_rule hI (xs (nI i + 1).toNatClampNeg) (xs (nI i + 2).toNatClampNeg) (xs (nI i + 3).toNatClampNeg) (xs (nI i + 4).toNatClampNeg)) l_La_74 (hJ.preV _ h_x rfl) (by decide) rfl hl.1 rfl (nl rfl) d_La_law_607 ⟨by show _ ≤ 601024; omega, by show _ ≤ 7292999; omega⟩) (fun r h1 H1 locs1 hm1 hJ1 => ?_)
  obtain ⟨⟨f1, h_t⟩, hm⟩ := hm1
  refine lv_aload_n S.1 S.2.1 d_La_law_610 rfl (lv_at hl 2 rfl) ?_
  refine lv_aload_n S.1 S.2.1 d_La_law_611 rfl (lv_at hl 4 rfl) ?_
  refine lv_iload S.1 S.2.1 d_La_law_612 (lv_at hl 0 rfl) ?_
  refine lv_iconst (v := 1) S.1 S.2.1 d_La_law_614 (by decide) ?_
  refine lv_iadd S.1 S.2.1 d_La_law_615 ?_
  refine va_sld S.1 S.2.1 hX hbl hbA hJ1.2.2.2.1 (law_in hi hL (by decide)) d_La_law_616 ?_
  refine lv_aload_n S.1 S.2.1 d_La_law_617 rfl (lv_at hl 4 rfl) ?_
  refine lv_iload S.1 S.2.1 d_La_law_618 (lv_at hl 0 rfl) ?_
  refine lv_iconst (v := 2) S.1 S.2.1 d_La_law_620 (by decide) ?_
  refine lv_iadd S.1 S.2.1 d_La_law_621 ?_
  refine va_sld S.1 S.2.1 hX hbl hbA hJ1.2.2.2.1 (law_in hi hL (by decide)) d_La_law_622 ?_
  refine lv_aload_n S.1 S.2.1 d_La_law_623 rfl (lv_at hl 4 rfl) ?_
  refine lv_iload S.1 S.2.1 d_La_law_624 (lv_at hl 0 rfl) ?_
  refine lv_iconst (v := 3) S.1 S.2.1 d_La_law_626 (by decide) ?_
  refine lv_iadd S.1 S.2.1 d_La_law_627 ?_
  refine va_sld S.1 S.2.1 hX hbl hbA hJ1.2.2.2.1 (law_in hi hL (by decide)) d_La_law_628 ?_
  refine lv_aload_n S.1 S.2.1 d_La_law_629 rfl (lv_at hl 4 rfl) ?_
  refine lv_iload S.1 S.2.1 d_La_law_630 (lv_at hl 0 rfl) ?_
  refine lv_iconst (v := 4) S.1 S.2.1 d_La_law_632 (by decide) ?_
  refine lv_iadd S.1 S.2.1 d_La_law_633 ?_
  refine va_sld S.1 S.2.1 hX hbl hbA hJ1.2.2.2.1 (law_in hi hL (by decide)) d_La_law_634 ?_
  refine hp_doneWi hJ1 (hp_runV S zz0 hm l_La_77 (hJ1.preV _ h_t rfl) (by decide) rfl hl.1 rfl (nl rfl) d_La_law_635 ⟨by show _ ≤ 601024; omega, by show _ ≤ 7292999; omega⟩) (fun r2 h2 H2 locs2 hp2 hJ2 => ?_)
  obtain ⟨hr2, hI2⟩ := hp2
  refine lv_icmp_eq (tgt := 998) S.1 S.2.1 d_La_law_638 (by decide) (fun _ => ?_) (fun q => absurd hr2.symm q)
  exact W.widen (by omega) (by omega) (kk h2 H2 locs2 ls hI2 hJ2 hl)

set_option maxRecDepth 100000 in
theorem lc_8 (S : CallFix p m c code 7 s #[Value.ref b] BIG "BandPainterLaw") (hX : va_X b L xs s s.heap) (hbl : b < s.heap.size) (hst : l.stackTraces = false) (hEX : ex_X s) (hi : i + 7 ≤ L) (hL : L ≤ 3587) (hJ : hp_J (gg dC dI cA) (fun q => s.heap.size ≤ q) h s H locs) (hI : bInv cA x t out 0 0 (fun _ => 0) h) (hl : lv_has ls 7 [(4, .int (nI i)), (3, .ref out), (2, .ref t), (1, .ref x), (0, .ref b)]) (hc : cells + 20 ≤ 601024 ∧ slots + 1000 ≤ 7292999) (kk : ∀ (h' : hp_T) (H' : Heap) (locs' : List Loc) (ls' : Array Slot), bInv cA x t out 0 0 (fun _ => 0) h' → hp_J (gg dC dI cA) (fun q => s.heap.size ≤ q) h' s H' locs' → lv_has ls' 7 [(4, .int (nI i)), (3, .ref out), (2, .ref t), (1, .ref x), (0, .ref b)] → W p l e room_1 s m #[Value.ref b] below meth c H' locs' (cells + 20) (slots + 1000) Q (F0 m 998 ls' [])) : W p l e room_1 s m #[Value.ref b] below meth c H locs cells slots Q (F0 m 643 ls []) := by
  have hbA : ¬ (fun q : Nat => s.heap.size ≤ q) b := Nat.not_le.mpr hbl
  obtain ⟨⟨fx, h_x⟩, ⟨ft, h_t0⟩⟩ := hI.cells
  refine lv_aload_n S.1 S.2.1 d_La_law_643 rfl (lv_at hl 3 rfl) ?_
  refine lv_aload_n S.1 S.2.1 d_La_law_644 rfl (lv_at hl 4 rfl) ?_
  refine lv_iload S.1 S.2.1 d_La_law_645 (lv_at hl 0 rfl) ?_
  refine lv_iconst (v := 1) S.1 S.2.1 d_La_law_647 (by decide) ?_
  refine lv_iadd S.1 S.2.1 d_La_law_648 ?_
  refine va_sld S.1 S.2.1 hX hbl hbA hJ.2.2.2.1 (law_in hi hL (by decide)) d_La_law_649 ?_
  refine lv_aload_n S.1 S.2.1 d_La_law_650 rfl (lv_at hl 4 rfl) ?_
  refine lv_iload S.1 S.2.1 d_La_law_651 (lv_at hl 0 rfl) ?_
  refine lv_iconst (v := 2) S.1 S.2.1 d_La_law_653 (by decide) ?_
  refine lv_iadd S.1 S.2.1 d_La_law_654 ?_
  refine va_sld S.1 S.2.1 hX hbl hbA hJ.2.2.2.1 (law_in hi hL (by decide)) d_La_law_655 ?_
  refine lv_aload_n S.1 S.2.1 d_La_law_656 rfl (lv_at hl 4 rfl) ?_
  refine lv_iload S.1 S.2.1 d_La_law_657 (lv_at hl 0 rfl) ?_
  refine lv_iconst (v := 3) S.1 S.2.1 d_La_law_659 (by decide) ?_
  refine lv_iadd S.1 S.2.1 d_La_law_660 ?_
  refine va_sld S.1 S.2.1 hX hbl hbA hJ.2.2.2.1 (law_in hi hL (by decide)) d_La_law_661 ?_
  refine lv_aload_n S.1 S.2.1 d_La_law_662 rfl (lv_at hl 4 rfl) ?_
  refine lv_iload S.1 S.2.1 d_La_law_663 (lv_at hl 0 rfl) ?_
  refine lv_iconst (v := 4) S.1 S.2.1 d_La_law_665 (by decide) ?_
  refine lv_iadd S.1 S.2.1 d_La_law_666 ?_
  refine va_sld S.1 S.2.1 hX hbl hbA hJ.2.2.2.1 (law_in hi hL (by decide)) d_La_law_667 ?_
  refine lv_aload_n S.1 S.2.1 d_La_law_668 rfl (lv_at hl 4 rfl) ?_
  refine lv_iload S.1 S.2.1 d_La_law_669 (lv_at hl 0 rfl) ?_
  refine lv_iconst (v := 5) S.1 S.2.1 d_La_law_671 (by decide) ?_
  refine lv_iadd S.1 S.2.1 d_La_law_672 ?_
  refine va_sld S.1 S.2.1 hX hbl hbA hJ.2.2.2.1 (law_in hi hL (by decide)) d_La_law_673 ?_
  refine lv_i2l S.1 S.2.1 d_La_law_674 rfl ?_
  refine lv_bipush (v := 32) S.1 S.2.1 d_La_law_675 (by decide) ?_
  refine lv_lshl S.1 S.2.1 d_La_law_677 rfl ?_
  refine lv_aload_n S.1 S.2.1 d_La_law_678 rfl (lv_at hl 4 rfl) ?_
  refine lv_iload S.1 S.2.1 d_La_law_679 (lv_at hl 0 rfl) ?_
  refine lv_bipush (v := 6) S.1 S.2.1 d_La_law_681 (by decide) ?_
  refine lv_iadd S.1 S.2.1 d_La_law_683 ?_
  refine va_sld S.1 S.2.1 hX hbl hbA hJ.2.2.2.1 (law_in hi hL (by decide)) d_La_law_684 ?_
  refine lv_i2l S.1 S.2.1 d_La_law_685 rfl ?_
  refine lv_ldc2 (v := 4294967295) S.1 S.2.1 S.2.2.2.1 (S.2.2.2.2 _ t_789) d_La_law_686 ?_
  refine lv_land S.1 S.2.1 d_La_law_689 ?_
  refine lv_lor S.1 S.2.1 d_La_law_690 ?_
  refine hp_doneWi hJ (hp_runV S zz0 (u_row hI (xs (nI i + 1).toNatClampNeg) (xs (nI i + 2).toNatClampNeg) (xs (nI i + 3).toNatClampNeg) (xs (nI i + 4).toNatClampNeg) ((xs (nI i + 5).toNatClampNeg).toInt64 <<< ((32 : Int32).toInt64 &&& 63) ||| (xs (nI i + 6).toNatClampNeg).toInt64 &&& 4294967295)) l_La_78 (hJ.preV _ h_x rfl) (by decide) rfl hl.1 rfl (nl rfl) d_La_law_691 ⟨by show _ ≤ 601024; omega, by show _ ≤ 7292999; omega⟩) (fun r h1 H1 locs1 hm1 hJ1 => ?_)
  obtain ⟨⟨f1, h_t⟩, hm⟩ := hm1
  refine lv_aload_n S.1 S.2.1 d_La_law_694 rfl (lv_at hl 2 rfl) ?_
  refine lv_aload_n S.1 S.2.1 d_La_law_695 rfl (lv_at hl 4 rfl) ?_
  refine lv_iload S.1 S.2.1 d_La_law_696 (lv_at hl 0 rfl) ?_
  refine lv_iconst (v := 1) S.1 S.2.1 d_La_law_698 (by decide) ?_
  refine lv_iadd S.1 S.2.1 d_La_law_699 ?_
  refine va_sld S.1 S.2.1 hX hbl hbA hJ1.2.2.2.1 (law_in hi hL (by decide)) d_La_law_700 ?_
  refine lv_aload_n S.1 S.2.1 d_La_law_701 rfl (lv_at hl 4 rfl) ?_
  refine lv_iload S.1 S.2.1 d_La_law_702 (lv_at hl 0 rfl) ?_
  refine lv_iconst (v := 2) S.1 S.2.1 d_La_law_704 (by decide) ?_
  refine lv_iadd S.1 S.2.1 d_La_law_705 ?_
  refine va_sld S.1 S.2.1 hX hbl hbA hJ1.2.2.2.1 (law_in hi hL (by decide)) d_La_law_706 ?_
  refine lv_aload_n S.1 S.2.1 d_La_law_707 rfl (lv_at hl 4 rfl) ?_
  refine lv_iload S.1 S.2.1 d_La_law_708 (lv_at hl 0 rfl) ?_
  refine lv_iconst (v := 3) S.1 S.2.1 d_La_law_710 (by decide) ?_
  refine lv_iadd S.1 S.2.1 d_La_law_711 ?_
  refine va_sld S.1 S.2.1 hX hbl hbA hJ1.2.2.2.1 (law_in hi hL (by decide)) d_La_law_712 ?_
  refine lv_aload_n S.1 S.2.1 d_La_law_713 rfl (lv_at hl 4 rfl) ?_
  refine lv_iload S.1 S.2.1 d_La_law_714 (lv_at hl 0 rfl) ?_
  refine lv_iconst (v := 4) S.1 S.2.1 d_La_law_716 (by decide) ?_
  refine lv_iadd S.1 S.2.1 d_La_law_717 ?_
  refine va_sld S.1 S.2.1 hX hbl hbA hJ1.2.2.2.1 (law_in hi hL (by decide)) d_La_law_718 ?_
  refine lv_aload_n S.1 S.2.1 d_La_law_719 rfl (lv_at hl 4 rfl) ?_
  refine lv_iload S.1 S.2.1 d_La_law_720 (lv_at hl 0 rfl) ?_
  refine lv_iconst (v := 5) S.1 S.2.1 d_La_law_722 (by decide) ?_
  refine lv_iadd S.1 S.2.1 d_La_law_723 ?_
  refine va_sld S.1 S.2.1 hX hbl hbA hJ1.2.2.2.1 (law_in hi hL (by decide)) d_La_law_724 ?_
  refine lv_i2l S.1 S.2.1 d_La_law_725 rfl ?_
  refine lv_bipush (v := 32) S.1 S.2.1 d_La_law_726 (by decide) ?_
  refine lv_lshl S.1 S.2.1 d_La_law_728 rfl ?_
  refine lv_aload_n S.1 S.2.1 d_La_law_729 rfl (lv_at hl 4 rfl) ?_
  refine lv_iload S.1 S.2.1 d_La_law_730 (lv_at hl 0 rfl) ?_
  refine lv_bipush (v := 6) S.1 S.2.1 d_La_law_732 (by decide) ?_
  refine lv_iadd S.1 S.2.1 d_La_law_734 ?_
  refine va_sld S.1 S.2.1 hX hbl hbA hJ1.2.2.2.1 (law_in hi hL (by decide)) d_La_law_735 ?_
  refine lv_i2l S.1 S.2.1 d_La_law_736 rfl ?_
  refine lv_ldc2 (v := 4294967295) S.1 S.2.1 S.2.2.2.1 (S.2.2.2.2 _ t_789) d_La_law_737 ?_
  refine lv_land S.1 S.2.1 d_La_law_740 ?_
  refine lv_lor S.1 S.2.1 d_La_law_741 ?_
  refine hp_doneWi hJ1 (hp_runV S zz0 hm l_La_82 (hJ1.preV _ h_t rfl) (by decide) rfl hl.1 rfl (nl rfl) d_La_law_742 ⟨by show _ ≤ 601024; omega, by show _ ≤ 7292999; omega⟩) (fun r2 h2 H2 locs2 hp2 hJ2 => ?_)
  obtain ⟨hr2, hI2⟩ := hp2
  refine lv_icmp_eq (tgt := 998) S.1 S.2.1 d_La_law_745 (by decide) (fun _ => ?_) (fun q => absurd hr2.symm q)
  exact W.widen (by omega) (by omega) (kk h2 H2 locs2 ls hI2 hJ2 hl)

set_option maxRecDepth 100000 in
theorem lc_9 (S : CallFix p m c code 7 s #[Value.ref b] BIG "BandPainterLaw") (hX : va_X b L xs s s.heap) (hbl : b < s.heap.size) (hst : l.stackTraces = false) (hEX : ex_X s) (hi : i + 7 ≤ L) (hL : L ≤ 3587) (hJ : hp_J (gg dC dI cA) (fun q => s.heap.size ≤ q) h s H locs) (hI : bInv cA x t out 0 0 (fun _ => 0) h) (hl : lv_has ls 7 [(4, .int (nI i)), (3, .ref out), (2, .ref t), (1, .ref x), (0, .ref b)]) (hc : cells + 20 ≤ 601024 ∧ slots + 1000 ≤ 7292999) (kk : ∀ (h' : hp_T) (H' : Heap) (locs' : List Loc) (ls' : Array Slot), bInv cA x t out 0 0 (fun _ => 0) h' → hp_J (gg dC dI cA) (fun q => s.heap.size ≤ q) h' s H' locs' → lv_has ls' 7 [(4, .int (nI i)), (3, .ref out), (2, .ref t), (1, .ref x), (0, .ref b)] → W p l e room_1 s m #[Value.ref b] below meth c H' locs' (cells + 20) (slots + 1000) Q (F0 m 998 ls' [])) : W p l e room_1 s m #[Value.ref b] below meth c H locs cells slots Q (F0 m 750 ls []) := by
  have hbA : ¬ (fun q : Nat => s.heap.size ≤ q) b := Nat.not_le.mpr hbl
  obtain ⟨⟨fx, h_x⟩, ⟨ft, h_t0⟩⟩ := hI.cells
  refine lv_aload_n S.1 S.2.1 d_La_law_750 rfl (lv_at hl 3 rfl) ?_
  refine hp_doneWv hJ (hp_runV S zz0 (u_eject hI ) l_La_83 (hJ.preV _ h_x rfl) (by decide) rfl hl.1 rfl (nl rfl) d_La_law_751 ⟨by show _ ≤ 601024; omega, by show _ ≤ 7292999; omega⟩) (fun h1 H1 locs1 hm1 hJ1 => ?_)
  obtain ⟨⟨f1, h_t⟩, hm⟩ := hm1
  refine lv_aload_n S.1 S.2.1 d_La_law_754 rfl (lv_at hl 2 rfl) ?_
  refine hp_doneWv hJ1 (hp_runV S zz0 hm l_La_86 (hJ1.preV _ h_t rfl) (by decide) rfl hl.1 rfl (nl rfl) d_La_law_755 ⟨by show _ ≤ 601024; omega, by show _ ≤ 7292999; omega⟩) (fun h2 H2 locs2 hp2 hJ2 => ?_)
  refine lv_goto (tgt := 998) S.1 S.2.1 d_La_law_758 (by decide) ?_
  exact W.widen (by omega) (by omega) (kk h2 H2 locs2 ls hp2 hJ2 hl)

set_option maxRecDepth 100000 in
theorem lc_10 (S : CallFix p m c code 7 s #[Value.ref b] BIG "BandPainterLaw") (hX : va_X b L xs s s.heap) (hbl : b < s.heap.size) (hst : l.stackTraces = false) (hEX : ex_X s) (hi : i + 7 ≤ L) (hL : L ≤ 3587) (hJ : hp_J (gg dC dI cA) (fun q => s.heap.size ≤ q) h s H locs) (hI : bInv cA x t out 0 0 (fun _ => 0) h) (hl : lv_has ls 7 [(4, .int (nI i)), (3, .ref out), (2, .ref t), (1, .ref x), (0, .ref b)]) (hc : cells + 20 ≤ 601024 ∧ slots + 1000 ≤ 7292999) (kk : ∀ (h' : hp_T) (H' : Heap) (locs' : List Loc) (ls' : Array Slot), bInv cA x t out 0 0 (fun _ => 0) h' → hp_J (gg dC dI cA) (fun q => s.heap.size ≤ q) h' s H' locs' → lv_has ls' 7 [(4, .int (nI i)), (3, .ref out), (2, .ref t), (1, .ref x), (0, .ref b)] → W p l e room_1 s m #[Value.ref b] below meth c H' locs' (cells + 20) (slots + 1000) Q (F0 m 998 ls' [])) : W p l e room_1 s m #[Value.ref b] below meth c H locs cells slots Q (F0 m 761 ls []) := by
  have hbA : ¬ (fun q : Nat => s.heap.size ≤ q) b := Nat.not_le.mpr hbl
  obtain ⟨⟨fx, h_x⟩, ⟨ft, h_t0⟩⟩ := hI.cells
  refine lv_aload_n S.1 S.2.1 d_La_law_761 rfl (lv_at hl 3 rfl) ?_
  refine lv_aload_n S.1 S.2.1 d_La_law_762 rfl (lv_at hl 4 rfl) ?_
  refine lv_iload S.1 S.2.1 d_La_law_763 (lv_at hl 0 rfl) ?_
  refine lv_iconst (v := 1) S.1 S.2.1 d_La_law_765 (by decide) ?_
  refine lv_iadd S.1 S.2.1 d_La_law_766 ?_
  refine va_sld S.1 S.2.1 hX hbl hbA hJ.2.2.2.1 (law_in hi hL (by decide)) d_La_law_767 ?_
  refine lv_aload_n S.1 S.2.1 d_La_law_768 rfl (lv_at hl 4 rfl) ?_
  refine lv_iload S.1 S.2.1 d_La_law_769 (lv_at hl 0 rfl) ?_
  refine lv_iconst (v := 2) S.1 S.2.1 d_La_law_771 (by decide) ?_
  refine lv_iadd S.1 S.2.1 d_La_law_772 ?_
  refine va_sld S.1 S.2.1 hX hbl hbA hJ.2.2.2.1 (law_in hi hL (by decide)) d_La_law_773 ?_
  refine hp_doneWl hJ (hp_runV S zz0 (u_line hI (xs (nI i + 1).toNatClampNeg) (xs (nI i + 2).toNatClampNeg)) l_La_87 (hJ.preV _ h_x rfl) (by decide) rfl hl.1 rfl (nl rfl) d_La_law_774 ⟨by show _ ≤ 601024; omega, by show _ ≤ 7292999; omega⟩) (fun r h1 H1 locs1 hm1 hJ1 => ?_)
  obtain ⟨⟨f1, h_t⟩, hm⟩ := hm1
  refine lv_aload_n S.1 S.2.1 d_La_law_777 rfl (lv_at hl 2 rfl) ?_
  refine lv_aload_n S.1 S.2.1 d_La_law_778 rfl (lv_at hl 4 rfl) ?_
  refine lv_iload S.1 S.2.1 d_La_law_779 (lv_at hl 0 rfl) ?_
  refine lv_iconst (v := 1) S.1 S.2.1 d_La_law_781 (by decide) ?_
  refine lv_iadd S.1 S.2.1 d_La_law_782 ?_
  refine va_sld S.1 S.2.1 hX hbl hbA hJ1.2.2.2.1 (law_in hi hL (by decide)) d_La_law_783 ?_
  refine lv_aload_n S.1 S.2.1 d_La_law_784 rfl (lv_at hl 4 rfl) ?_
  refine lv_iload S.1 S.2.1 d_La_law_785 (lv_at hl 0 rfl) ?_
  refine lv_iconst (v := 2) S.1 S.2.1 d_La_law_787 (by decide) ?_
  refine lv_iadd S.1 S.2.1 d_La_law_788 ?_
  refine va_sld S.1 S.2.1 hX hbl hbA hJ1.2.2.2.1 (law_in hi hL (by decide)) d_La_law_789 ?_
  refine hp_doneWl hJ1 (hp_runV S zz0 hm l_La_91 (hJ1.preV _ h_t rfl) (by decide) rfl hl.1 rfl (nl rfl) d_La_law_790 ⟨by show _ ≤ 601024; omega, by show _ ≤ 7292999; omega⟩) (fun r2 h2 H2 locs2 hp2 hJ2 => ?_)
  obtain ⟨hr2, hI2⟩ := hp2
  refine W.lcmp S.1 S.2.1 d_La_law_793 ?_
  refine lv_if_eq (tgt := 998) S.1 S.2.1 d_La_law_794 (by decide) (fun _ => ?_) (fun q => absurd ((lg_cmp_e _ _).mpr hr2.symm) q)
  exact W.widen (by omega) (by omega) (kk h2 H2 locs2 ls hI2 hJ2 hl)

set_option maxRecDepth 100000 in
theorem lc_12 (S : CallFix p m c code 7 s #[Value.ref b] BIG "BandPainterLaw") (hX : va_X b L xs s s.heap) (hbl : b < s.heap.size) (hst : l.stackTraces = false) (hEX : ex_X s) (hi : i + 7 ≤ L) (hL : L ≤ 3587) (hJ : hp_J (gg dC dI cA) (fun q => s.heap.size ≤ q) h s H locs) (hI : bInv cA x t out 0 0 (fun _ => 0) h) (hl : lv_has ls 7 [(4, .int (nI i)), (3, .ref out), (2, .ref t), (1, .ref x), (0, .ref b)]) (hc : cells + 20 ≤ 601024 ∧ slots + 1000 ≤ 7292999) (kk : ∀ (h' : hp_T) (H' : Heap) (locs' : List Loc) (ls' : Array Slot), bInv cA x t out 0 0 (fun _ => 0) h' → hp_J (gg dC dI cA) (fun q => s.heap.size ≤ q) h' s H' locs' → lv_has ls' 7 [(4, .int (nI i)), (3, .ref out), (2, .ref t), (1, .ref x), (0, .ref b)] → W p l e room_1 s m #[Value.ref b] below meth c H' locs' (cells + 20) (slots + 1000) Q (F0 m 998 ls' [])) : W p l e room_1 s m #[Value.ref b] below meth c H locs cells slots Q (F0 m 874 ls []) := by
  have hbA : ¬ (fun q : Nat => s.heap.size ≤ q) b := Nat.not_le.mpr hbl
  obtain ⟨⟨fx, h_x⟩, ⟨ft, h_t0⟩⟩ := hI.cells
  refine lv_aload_n S.1 S.2.1 d_La_law_874 rfl (lv_at hl 3 rfl) ?_
  refine lv_aload_n S.1 S.2.1 d_La_law_875 rfl (lv_at hl 4 rfl) ?_
  refine lv_iload S.1 S.2.1 d_La_law_876 (lv_at hl 0 rfl) ?_
  refine lv_iconst (v := 1) S.1 S.2.1 d_La_law_878 (by decide) ?_
  refine lv_iadd S.1 S.2.1 d_La_law_879 ?_
  refine va_sld S.1 S.2.1 hX hbl hbA hJ.2.2.2.1 (law_in hi hL (by decide)) d_La_law_880 ?_
  refine lv_aload_n S.1 S.2.1 d_La_law_881 rfl (lv_at hl 4 rfl) ?_
  refine lv_iload S.1 S.2.1 d_La_law_882 (lv_at hl 0 rfl) ?_
  refine lv_iconst (v := 2) S.1 S.2.1 d_La_law_884 (by decide) ?_
  refine lv_iadd S.1 S.2.1 d_La_law_885 ?_
  refine va_sld S.1 S.2.1 hX hbl hbA hJ.2.2.2.1 (law_in hi hL (by decide)) d_La_law_886 ?_
  refine hp_doneWi hJ (hp_runV S zz0 (u_count hI (xs (nI i + 1).toNatClampNeg) (xs (nI i + 2).toNatClampNeg)) l_La_95 (hJ.preV _ h_x rfl) (by decide) rfl hl.1 rfl (nl rfl) d_La_law_887 ⟨by show _ ≤ 601024; omega, by show _ ≤ 7292999; omega⟩) (fun r h1 H1 locs1 hm1 hJ1 => ?_)
  obtain ⟨⟨f1, h_t⟩, hm⟩ := hm1
  refine lv_aload_n S.1 S.2.1 d_La_law_890 rfl (lv_at hl 2 rfl) ?_
  refine lv_aload_n S.1 S.2.1 d_La_law_891 rfl (lv_at hl 4 rfl) ?_
  refine lv_iload S.1 S.2.1 d_La_law_892 (lv_at hl 0 rfl) ?_
  refine lv_iconst (v := 1) S.1 S.2.1 d_La_law_894 (by decide) ?_
  refine lv_iadd S.1 S.2.1 d_La_law_895 ?_
  refine va_sld S.1 S.2.1 hX hbl hbA hJ1.2.2.2.1 (law_in hi hL (by decide)) d_La_law_896 ?_
  refine lv_aload_n S.1 S.2.1 d_La_law_897 rfl (lv_at hl 4 rfl) ?_
  refine lv_iload S.1 S.2.1 d_La_law_898 (lv_at hl 0 rfl) ?_
  refine lv_iconst (v := 2) S.1 S.2.1 d_La_law_900 (by decide) ?_
  refine lv_iadd S.1 S.2.1 d_La_law_901 ?_
  refine va_sld S.1 S.2.1 hX hbl hbA hJ1.2.2.2.1 (law_in hi hL (by decide)) d_La_law_902 ?_
  refine hp_doneWi hJ1 (hp_runV S zz0 hm l_La_98 (hJ1.preV _ h_t rfl) (by decide) rfl hl.1 rfl (nl rfl) d_La_law_903 ⟨by show _ ≤ 601024; omega, by show _ ≤ 7292999; omega⟩) (fun r2 h2 H2 locs2 hp2 hJ2 => ?_)
  obtain ⟨hr2, hI2⟩ := hp2
  refine lv_icmp_eq (tgt := 998) S.1 S.2.1 d_La_law_906 (by decide) (fun _ => ?_) (fun q => absurd hr2.symm q)
  exact W.widen (by omega) (by omega) (kk h2 H2 locs2 ls hI2 hJ2 hl)

set_option maxRecDepth 100000 in
theorem lc_13 (S : CallFix p m c code 7 s #[Value.ref b] BIG "BandPainterLaw") (hX : va_X b L xs s s.heap) (hbl : b < s.heap.size) (hst : l.stackTraces = false) (hEX : ex_X s) (hi : i + 7 ≤ L) (hL : L ≤ 3587) (hJ : hp_J (gg dC dI cA) (fun q => s.heap.size ≤ q) h s H locs) (hI : bInv cA x t out 0 0 (fun _ => 0) h) (hl : lv_has ls 7 [(4, .int (nI i)), (3, .ref out), (2, .ref t), (1, .ref x), (0, .ref b)]) (hc : cells + 20 ≤ 601024 ∧ slots + 1000 ≤ 7292999) (kk : ∀ (h' : hp_T) (H' : Heap) (locs' : List Loc) (ls' : Array Slot), bInv cA x t out 0 0 (fun _ => 0) h' → hp_J (gg dC dI cA) (fun q => s.heap.size ≤ q) h' s H' locs' → lv_has ls' 7 [(4, .int (nI i)), (3, .ref out), (2, .ref t), (1, .ref x), (0, .ref b)] → W p l e room_1 s m #[Value.ref b] below meth c H' locs' (cells + 20) (slots + 1000) Q (F0 m 998 ls' [])) : W p l e room_1 s m #[Value.ref b] below meth c H locs cells slots Q (F0 m 911 ls []) := by
  have hbA : ¬ (fun q : Nat => s.heap.size ≤ q) b := Nat.not_le.mpr hbl
  obtain ⟨⟨fx, h_x⟩, ⟨ft, h_t0⟩⟩ := hI.cells
  refine lv_aload_n S.1 S.2.1 d_La_law_911 rfl (lv_at hl 3 rfl) ?_
  refine lv_aload_n S.1 S.2.1 d_La_law_912 rfl (lv_at hl 4 rfl) ?_
  refine lv_iload S.1 S.2.1 d_La_law_913 (lv_at hl 0 rfl) ?_
  refine lv_iconst (v := 1) S.1 S.2.1 d_La_law_915 (by decide) ?_
  refine lv_iadd S.1 S.2.1 d_La_law_916 ?_
  refine va_sld S.1 S.2.1 hX hbl hbA hJ.2.2.2.1 (law_in hi hL (by decide)) d_La_law_917 ?_
  refine hp_doneWi hJ (hp_runV S zz0 (u_top hI (xs (nI i + 1).toNatClampNeg)) l_La_99 (hJ.preV _ h_x rfl) (by decide) rfl hl.1 rfl (nl rfl) d_La_law_918 ⟨by show _ ≤ 601024; omega, by show _ ≤ 7292999; omega⟩) (fun r h1 H1 locs1 hm1 hJ1 => ?_)
  obtain ⟨⟨f1, h_t⟩, hm⟩ := hm1
  refine lv_aload_n S.1 S.2.1 d_La_law_921 rfl (lv_at hl 2 rfl) ?_
  refine lv_aload_n S.1 S.2.1 d_La_law_922 rfl (lv_at hl 4 rfl) ?_
  refine lv_iload S.1 S.2.1 d_La_law_923 (lv_at hl 0 rfl) ?_
  refine lv_iconst (v := 1) S.1 S.2.1 d_La_law_925 (by decide) ?_
  refine lv_iadd S.1 S.2.1 d_La_law_926 ?_
  refine va_sld S.1 S.2.1 hX hbl hbA hJ1.2.2.2.1 (law_in hi hL (by decide)) d_La_law_927 ?_
  refine hp_doneWi hJ1 (hp_runV S zz0 hm l_La_103 (hJ1.preV _ h_t rfl) (by decide) rfl hl.1 rfl (nl rfl) d_La_law_928 ⟨by show _ ≤ 601024; omega, by show _ ≤ 7292999; omega⟩) (fun r2 h2 H2 locs2 hp2 hJ2 => ?_)
  obtain ⟨hr2, hI2⟩ := hp2
  refine lv_icmp_eq (tgt := 998) S.1 S.2.1 d_La_law_931 (by decide) (fun _ => ?_) (fun q => absurd hr2.symm q)
  exact W.widen (by omega) (by omega) (kk h2 H2 locs2 ls hI2 hJ2 hl)

set_option maxRecDepth 100000 in
theorem lc_14 (S : CallFix p m c code 7 s #[Value.ref b] BIG "BandPainterLaw") (hX : va_X b L xs s s.heap) (hbl : b < s.heap.size) (hst : l.stackTraces = false) (hEX : ex_X s) (hi : i + 7 ≤ L) (hL : L ≤ 3587) (hJ : hp_J (gg dC dI cA) (fun q => s.heap.size ≤ q) h s H locs) (hI : bInv cA x t out 0 0 (fun _ => 0) h) (hl : lv_has ls 7 [(4, .int (nI i)), (3, .ref out), (2, .ref t), (1, .ref x), (0, .ref b)]) (hc : cells + 20 ≤ 601024 ∧ slots + 1000 ≤ 7292999) (kk : ∀ (h' : hp_T) (H' : Heap) (locs' : List Loc) (ls' : Array Slot), bInv cA x t out 0 0 (fun _ => 0) h' → hp_J (gg dC dI cA) (fun q => s.heap.size ≤ q) h' s H' locs' → lv_has ls' 7 [(4, .int (nI i)), (3, .ref out), (2, .ref t), (1, .ref x), (0, .ref b)] → W p l e room_1 s m #[Value.ref b] below meth c H' locs' (cells + 20) (slots + 1000) Q (F0 m 998 ls' [])) : W p l e room_1 s m #[Value.ref b] below meth c H locs cells slots Q (F0 m 936 ls []) := by
  have hbA : ¬ (fun q : Nat => s.heap.size ≤ q) b := Nat.not_le.mpr hbl
  obtain ⟨⟨fx, h_x⟩, ⟨ft, h_t0⟩⟩ := hI.cells
  obtain ⟨r, hx1, hm⟩ := u_of (l := l) (dC := dC) (dI := dI) (A := fun q => s.heap.size ≤ q) hI (xs (nI i + 1).toNatClampNeg) (xs (nI i + 2).toNatClampNeg)
  refine lv_aload_n S.1 S.2.1 d_La_law_936 rfl (lv_at hl 3 rfl) ?_
  refine lv_aload_n S.1 S.2.1 d_La_law_937 rfl (lv_at hl 4 rfl) ?_
  refine lv_iload S.1 S.2.1 d_La_law_938 (lv_at hl 0 rfl) ?_
  refine lv_iconst (v := 1) S.1 S.2.1 d_La_law_940 (by decide) ?_
  refine lv_iadd S.1 S.2.1 d_La_law_941 ?_
  refine va_sld S.1 S.2.1 hX hbl hbA hJ.2.2.2.1 (law_in hi hL (by decide)) d_La_law_942 ?_
  refine lv_aload_n S.1 S.2.1 d_La_law_943 rfl (lv_at hl 4 rfl) ?_
  refine lv_iload S.1 S.2.1 d_La_law_944 (lv_at hl 0 rfl) ?_
  refine lv_iconst (v := 2) S.1 S.2.1 d_La_law_946 (by decide) ?_
  refine lv_iadd S.1 S.2.1 d_La_law_947 ?_
  refine va_sld S.1 S.2.1 hX hbl hbA hJ.2.2.2.1 (law_in hi hL (by decide)) d_La_law_948 ?_
  refine hp_doneR (hp_runV S zz0 hx1 l_La_104 (hJ.preV _ h_x rfl) (by decide) rfl hl.1 rfl (nl rfl) d_La_law_949 ⟨by show _ ≤ 601024; omega, by show _ ≤ 7292999; omega⟩) ?_
  refine lv_aload_n S.1 S.2.1 d_La_law_952 rfl (lv_at hl 2 rfl) ?_
  refine lv_aload_n S.1 S.2.1 d_La_law_953 rfl (lv_at hl 4 rfl) ?_
  refine lv_iload S.1 S.2.1 d_La_law_954 (lv_at hl 0 rfl) ?_
  refine lv_iconst (v := 1) S.1 S.2.1 d_La_law_956 (by decide) ?_
  refine lv_iadd S.1 S.2.1 d_La_law_957 ?_
  refine va_sld S.1 S.2.1 hX hbl hbA hJ.2.2.2.1 (law_in hi hL (by decide)) d_La_law_958 ?_
  refine lv_aload_n S.1 S.2.1 d_La_law_959 rfl (lv_at hl 4 rfl) ?_
  refine lv_iload S.1 S.2.1 d_La_law_960 (lv_at hl 0 rfl) ?_
  refine lv_iconst (v := 2) S.1 S.2.1 d_La_law_962 (by decide) ?_
  refine lv_iadd S.1 S.2.1 d_La_law_963 ?_
  refine va_sld S.1 S.2.1 hX hbl hbA hJ.2.2.2.1 (law_in hi hL (by decide)) d_La_law_964 ?_
  refine hp_doneWi hJ (hp_runV S zz0 hm l_La_107 (hJ.preV _ h_t0 rfl) (by decide) rfl hl.1 rfl (nl rfl) d_La_law_965 ⟨by show _ ≤ 601024; omega, by show _ ≤ 7292999; omega⟩) (fun r2 h2 H2 locs2 hp2 hJ2 => ?_)
  obtain ⟨hr2, hI2⟩ := hp2
  refine lv_icmp_eq (tgt := 998) S.1 S.2.1 d_La_law_968 (by decide) (fun _ => ?_) (fun q => absurd hr2.symm q)
  exact W.widen (by omega) (by omega) (kk h2 H2 locs2 ls hI2 hJ2 hl)

set_option maxRecDepth 100000 in
theorem lc_15 (S : CallFix p m c code 7 s #[Value.ref b] BIG "BandPainterLaw") (hX : va_X b L xs s s.heap) (hbl : b < s.heap.size) (hst : l.stackTraces = false) (hEX : ex_X s) (hi : i + 7 ≤ L) (hL : L ≤ 3587) (hJ : hp_J (gg dC dI cA) (fun q => s.heap.size ≤ q) h s H locs) (hI : bInv cA x t out 0 0 (fun _ => 0) h) (hl : lv_has ls 7 [(4, .int (nI i)), (3, .ref out), (2, .ref t), (1, .ref x), (0, .ref b)]) (hc : cells + 20 ≤ 601024 ∧ slots + 1000 ≤ 7292999) (kk : ∀ (h' : hp_T) (H' : Heap) (locs' : List Loc) (ls' : Array Slot), bInv cA x t out 0 0 (fun _ => 0) h' → hp_J (gg dC dI cA) (fun q => s.heap.size ≤ q) h' s H' locs' → lv_has ls' 7 [(4, .int (nI i)), (3, .ref out), (2, .ref t), (1, .ref x), (0, .ref b)] → W p l e room_1 s m #[Value.ref b] below meth c H' locs' (cells + 20) (slots + 1000) Q (F0 m 998 ls' [])) : W p l e room_1 s m #[Value.ref b] below meth c H locs cells slots Q (F0 m 973 ls []) := by
  have hbA : ¬ (fun q : Nat => s.heap.size ≤ q) b := Nat.not_le.mpr hbl
  obtain ⟨⟨fx, h_x⟩, ⟨ft, h_t0⟩⟩ := hI.cells
  obtain ⟨r, hx1, hm⟩ := u_look (l := l) (dC := dC) (dI := dI) (A := fun q => s.heap.size ≤ q) hI (xs (nI i + 1).toNatClampNeg)
  refine lv_aload_n S.1 S.2.1 d_La_law_973 rfl (lv_at hl 3 rfl) ?_
  refine lv_aload_n S.1 S.2.1 d_La_law_974 rfl (lv_at hl 4 rfl) ?_
  refine lv_iload S.1 S.2.1 d_La_law_975 (lv_at hl 0 rfl) ?_
  refine lv_iconst (v := 1) S.1 S.2.1 d_La_law_977 (by decide) ?_
  refine lv_iadd S.1 S.2.1 d_La_law_978 ?_
  refine va_sld S.1 S.2.1 hX hbl hbA hJ.2.2.2.1 (law_in hi hL (by decide)) d_La_law_979 ?_
  refine hp_doneR (hp_runV S zz0 hx1 l_La_108 (hJ.preV _ h_x rfl) (by decide) rfl hl.1 rfl (nl rfl) d_La_law_980 ⟨by show _ ≤ 601024; omega, by show _ ≤ 7292999; omega⟩) ?_
  refine lv_aload_n S.1 S.2.1 d_La_law_983 rfl (lv_at hl 2 rfl) ?_
  refine lv_aload_n S.1 S.2.1 d_La_law_984 rfl (lv_at hl 4 rfl) ?_
  refine lv_iload S.1 S.2.1 d_La_law_985 (lv_at hl 0 rfl) ?_
  refine lv_iconst (v := 1) S.1 S.2.1 d_La_law_987 (by decide) ?_
  refine lv_iadd S.1 S.2.1 d_La_law_988 ?_
  refine va_sld S.1 S.2.1 hX hbl hbA hJ.2.2.2.1 (law_in hi hL (by decide)) d_La_law_989 ?_
  refine hp_doneWi hJ (hp_runV S zz0 hm l_La_111 (hJ.preV _ h_t0 rfl) (by decide) rfl hl.1 rfl (nl rfl) d_La_law_990 ⟨by show _ ≤ 601024; omega, by show _ ≤ 7292999; omega⟩) (fun r2 h2 H2 locs2 hp2 hJ2 => ?_)
  obtain ⟨hr2, hI2⟩ := hp2
  refine lv_icmp_eq (tgt := 998) S.1 S.2.1 d_La_law_993 (by decide) (fun _ => ?_) (fun q => absurd hr2.symm q)
  exact W.widen (by omega) (by omega) (kk h2 H2 locs2 ls hI2 hJ2 hl)

set_option maxRecDepth 100000 in
theorem lc_3 (S : CallFix p m c code 7 s #[Value.ref b] BIG "BandPainterLaw") (hX : va_X b L xs s s.heap) (hbl : b < s.heap.size) (hst : l.stackTraces = false) (hEX : ex_X s) (hi : i + 7 ≤ L) (hL : L ≤ 3587) (hJ : hp_J (gg dC dI cA) (fun q => s.heap.size ≤ q) h s H locs) (hI : bInv cA x t out 0 0 (fun _ => 0) h) (hl : lv_has ls 7 [(4, .int (nI i)), (3, .ref out), (2, .ref t), (1, .ref x), (0, .ref b)]) (hc : cells + 20 ≤ 601024 ∧ slots + 1000 ≤ 7292999) (kk : ∀ (h' : hp_T) (H' : Heap) (locs' : List Loc) (ls' : Array Slot), bInv cA x t out 0 0 (fun _ => 0) h' → hp_J (gg dC dI cA) (fun q => s.heap.size ≤ q) h' s H' locs' → lv_has ls' 7 [(4, .int (nI i)), (3, .ref out), (2, .ref t), (1, .ref x), (0, .ref b)] → W p l e room_1 s m #[Value.ref b] below meth c H' locs' (cells + 20) (slots + 1000) Q (F0 m 998 ls' [])) : W p l e room_1 s m #[Value.ref b] below meth c H locs cells slots Q (F0 m 380 ls []) := by
  have hbA : ¬ (fun q : Nat => s.heap.size ≤ q) b := Nat.not_le.mpr hbl
  obtain ⟨⟨fx, h_x⟩, ⟨ft, h_t0⟩⟩ := hI.cells
  by_cases z1 : (xs (nI i + 1).toNatClampNeg) = 0
  · by_cases z2 : (xs (nI i + 2).toNatClampNeg) = 0
    · refine lv_aload_n S.1 S.2.1 d_La_law_380 rfl (lv_at hl 3 rfl) ?_
      refine lv_aload_n S.1 S.2.1 d_La_law_381 rfl (lv_at hl 4 rfl) ?_
      refine lv_iload S.1 S.2.1 d_La_law_382 (lv_at hl 0 rfl) ?_
      refine lv_iconst (v := 1) S.1 S.2.1 d_La_law_384 (by decide) ?_
      refine lv_iadd S.1 S.2.1 d_La_law_385 ?_
      refine va_sld S.1 S.2.1 hX hbl hbA hJ.2.2.2.1 (law_in hi hL (by decide)) d_La_law_386 ?_
      refine lv_if_eq (tgt := 394) S.1 S.2.1 d_La_law_387 (by decide) (fun _ => ?_) (fun q => absurd z1 q)
      refine lv_iconst (v := 0) S.1 S.2.1 d_La_law_394 (by decide) ?_
      refine lv_aload_n S.1 S.2.1 d_La_law_395 rfl (lv_at hl 4 rfl) ?_
      refine lv_iload S.1 S.2.1 d_La_law_396 (lv_at hl 0 rfl) ?_
      refine lv_iconst (v := 2) S.1 S.2.1 d_La_law_398 (by decide) ?_
      refine lv_iadd S.1 S.2.1 d_La_law_399 ?_
      refine va_sld S.1 S.2.1 hX hbl hbA hJ.2.2.2.1 (law_in hi hL (by decide)) d_La_law_400 ?_
      refine lv_if_eq (tgt := 408) S.1 S.2.1 d_La_law_401 (by decide) (fun _ => ?_) (fun q => absurd z2 q)
      refine lv_iconst (v := 0) S.1 S.2.1 d_La_law_408 (by decide) ?_
      refine hp_doneWv hJ (hp_runV S zz0 (u_mode hI 0 0 (by decide) (by decide)) l_La_54 (hJ.preV _ h_x rfl) (by decide) rfl hl.1 rfl (nl rfl) d_La_law_409 ⟨by show _ ≤ 601024; omega, by show _ ≤ 7292999; omega⟩) (fun h1 H1 locs1 hm1 hJ1 => ?_)
      obtain ⟨⟨f1, h_t⟩, hm⟩ := hm1
      refine lv_aload_n S.1 S.2.1 d_La_law_412 rfl (lv_at hl 2 rfl) ?_
      refine lv_aload_n S.1 S.2.1 d_La_law_413 rfl (lv_at hl 4 rfl) ?_
      refine lv_iload S.1 S.2.1 d_La_law_414 (lv_at hl 0 rfl) ?_
      refine lv_iconst (v := 1) S.1 S.2.1 d_La_law_416 (by decide) ?_
      refine lv_iadd S.1 S.2.1 d_La_law_417 ?_
      refine va_sld S.1 S.2.1 hX hbl hbA hJ1.2.2.2.1 (law_in hi hL (by decide)) d_La_law_418 ?_
      refine lv_if_eq (tgt := 426) S.1 S.2.1 d_La_law_419 (by decide) (fun _ => ?_) (fun q => absurd z1 q)
      refine lv_iconst (v := 0) S.1 S.2.1 d_La_law_426 (by decide) ?_
      refine lv_aload_n S.1 S.2.1 d_La_law_427 rfl (lv_at hl 4 rfl) ?_
      refine lv_iload S.1 S.2.1 d_La_law_428 (lv_at hl 0 rfl) ?_
      refine lv_iconst (v := 2) S.1 S.2.1 d_La_law_430 (by decide) ?_
      refine lv_iadd S.1 S.2.1 d_La_law_431 ?_
      refine va_sld S.1 S.2.1 hX hbl hbA hJ1.2.2.2.1 (law_in hi hL (by decide)) d_La_law_432 ?_
      refine lv_if_eq (tgt := 440) S.1 S.2.1 d_La_law_433 (by decide) (fun _ => ?_) (fun q => absurd z2 q)
      refine lv_iconst (v := 0) S.1 S.2.1 d_La_law_440 (by decide) ?_
      refine hp_doneWv hJ1 (hp_runV S zz0 hm l_La_58 (hJ1.preV _ h_t rfl) (by decide) rfl hl.1 rfl (nl rfl) d_La_law_441 ⟨by show _ ≤ 601024; omega, by show _ ≤ 7292999; omega⟩) (fun h2 H2 locs2 hp2 hJ2 => ?_)
      refine lv_goto (tgt := 998) S.1 S.2.1 d_La_law_444 (by decide) ?_
      exact W.widen (by omega) (by omega) (kk h2 H2 locs2 ls hp2 hJ2 hl)
    · refine lv_aload_n S.1 S.2.1 d_La_law_380 rfl (lv_at hl 3 rfl) ?_
      refine lv_aload_n S.1 S.2.1 d_La_law_381 rfl (lv_at hl 4 rfl) ?_
      refine lv_iload S.1 S.2.1 d_La_law_382 (lv_at hl 0 rfl) ?_
      refine lv_iconst (v := 1) S.1 S.2.1 d_La_law_384 (by decide) ?_
      refine lv_iadd S.1 S.2.1 d_La_law_385 ?_
      refine va_sld S.1 S.2.1 hX hbl hbA hJ.2.2.2.1 (law_in hi hL (by decide)) d_La_law_386 ?_
      refine lv_if_eq (tgt := 394) S.1 S.2.1 d_La_law_387 (by decide) (fun _ => ?_) (fun q => absurd z1 q)
      refine lv_iconst (v := 0) S.1 S.2.1 d_La_law_394 (by decide) ?_
      refine lv_aload_n S.1 S.2.1 d_La_law_395 rfl (lv_at hl 4 rfl) ?_
      refine lv_iload S.1 S.2.1 d_La_law_396 (lv_at hl 0 rfl) ?_
      refine lv_iconst (v := 2) S.1 S.2.1 d_La_law_398 (by decide) ?_
      refine lv_iadd S.1 S.2.1 d_La_law_399 ?_
      refine va_sld S.1 S.2.1 hX hbl hbA hJ.2.2.2.1 (law_in hi hL (by decide)) d_La_law_400 ?_
      refine lv_if_eq (tgt := 408) S.1 S.2.1 d_La_law_401 (by decide) (fun q => absurd q z2) (fun _ => ?_)
      refine lv_iconst (v := 1) S.1 S.2.1 d_La_law_404 (by decide) ?_
      refine lv_goto (tgt := 409) S.1 S.2.1 d_La_law_405 (by decide) ?_
      refine hp_doneWv hJ (hp_runV S zz0 (u_mode hI 0 1 (by decide) (by decide)) l_La_54 (hJ.preV _ h_x rfl) (by decide) rfl hl.1 rfl (nl rfl) d_La_law_409 ⟨by show _ ≤ 601024; omega, by show _ ≤ 7292999; omega⟩) (fun h1 H1 locs1 hm1 hJ1 => ?_)
      obtain ⟨⟨f1, h_t⟩, hm⟩ := hm1
      refine lv_aload_n S.1 S.2.1 d_La_law_412 rfl (lv_at hl 2 rfl) ?_
      refine lv_aload_n S.1 S.2.1 d_La_law_413 rfl (lv_at hl 4 rfl) ?_
      refine lv_iload S.1 S.2.1 d_La_law_414 (lv_at hl 0 rfl) ?_
      refine lv_iconst (v := 1) S.1 S.2.1 d_La_law_416 (by decide) ?_
      refine lv_iadd S.1 S.2.1 d_La_law_417 ?_
      refine va_sld S.1 S.2.1 hX hbl hbA hJ1.2.2.2.1 (law_in hi hL (by decide)) d_La_law_418 ?_
      refine lv_if_eq (tgt := 426) S.1 S.2.1 d_La_law_419 (by decide) (fun _ => ?_) (fun q => absurd z1 q)
      refine lv_iconst (v := 0) S.1 S.2.1 d_La_law_426 (by decide) ?_
      refine lv_aload_n S.1 S.2.1 d_La_law_427 rfl (lv_at hl 4 rfl) ?_
      refine lv_iload S.1 S.2.1 d_La_law_428 (lv_at hl 0 rfl) ?_
      refine lv_iconst (v := 2) S.1 S.2.1 d_La_law_430 (by decide) ?_
      refine lv_iadd S.1 S.2.1 d_La_law_431 ?_
      refine va_sld S.1 S.2.1 hX hbl hbA hJ1.2.2.2.1 (law_in hi hL (by decide)) d_La_law_432 ?_
      refine lv_if_eq (tgt := 440) S.1 S.2.1 d_La_law_433 (by decide) (fun q => absurd q z2) (fun _ => ?_)
      refine lv_iconst (v := 1) S.1 S.2.1 d_La_law_436 (by decide) ?_
      refine lv_goto (tgt := 441) S.1 S.2.1 d_La_law_437 (by decide) ?_
      refine hp_doneWv hJ1 (hp_runV S zz0 hm l_La_58 (hJ1.preV _ h_t rfl) (by decide) rfl hl.1 rfl (nl rfl) d_La_law_441 ⟨by show _ ≤ 601024; omega, by show _ ≤ 7292999; omega⟩) (fun h2 H2 locs2 hp2 hJ2 => ?_)
      refine lv_goto (tgt := 998) S.1 S.2.1 d_La_law_444 (by decide) ?_
      exact W.widen (by omega) (by omega) (kk h2 H2 locs2 ls hp2 hJ2 hl)
  · by_cases z2 : (xs (nI i + 2).toNatClampNeg) = 0
    · refine lv_aload_n S.1 S.2.1 d_La_law_380 rfl (lv_at hl 3 rfl) ?_
      refine lv_aload_n S.1 S.2.1 d_La_law_381 rfl (lv_at hl 4 rfl) ?_
      refine lv_iload S.1 S.2.1 d_La_law_382 (lv_at hl 0 rfl) ?_
      refine lv_iconst (v := 1) S.1 S.2.1 d_La_law_384 (by decide) ?_
      refine lv_iadd S.1 S.2.1 d_La_law_385 ?_
      refine va_sld S.1 S.2.1 hX hbl hbA hJ.2.2.2.1 (law_in hi hL (by decide)) d_La_law_386 ?_
      refine lv_if_eq (tgt := 394) S.1 S.2.1 d_La_law_387 (by decide) (fun q => absurd q z1) (fun _ => ?_)
      refine lv_iconst (v := 1) S.1 S.2.1 d_La_law_390 (by decide) ?_
      refine lv_goto (tgt := 395) S.1 S.2.1 d_La_law_391 (by decide) ?_
      refine lv_aload_n S.1 S.2.1 d_La_law_395 rfl (lv_at hl 4 rfl) ?_
      refine lv_iload S.1 S.2.1 d_La_law_396 (lv_at hl 0 rfl) ?_
      refine lv_iconst (v := 2) S.1 S.2.1 d_La_law_398 (by decide) ?_
      refine lv_iadd S.1 S.2.1 d_La_law_399 ?_
      refine va_sld S.1 S.2.1 hX hbl hbA hJ.2.2.2.1 (law_in hi hL (by decide)) d_La_law_400 ?_
      refine lv_if_eq (tgt := 408) S.1 S.2.1 d_La_law_401 (by decide) (fun _ => ?_) (fun q => absurd z2 q)
      refine lv_iconst (v := 0) S.1 S.2.1 d_La_law_408 (by decide) ?_
      refine hp_doneWv hJ (hp_runV S zz0 (u_mode hI 1 0 (by decide) (by decide)) l_La_54 (hJ.preV _ h_x rfl) (by decide) rfl hl.1 rfl (nl rfl) d_La_law_409 ⟨by show _ ≤ 601024; omega, by show _ ≤ 7292999; omega⟩) (fun h1 H1 locs1 hm1 hJ1 => ?_)
      obtain ⟨⟨f1, h_t⟩, hm⟩ := hm1
      refine lv_aload_n S.1 S.2.1 d_La_law_412 rfl (lv_at hl 2 rfl) ?_
      refine lv_aload_n S.1 S.2.1 d_La_law_413 rfl (lv_at hl 4 rfl) ?_
      refine lv_iload S.1 S.2.1 d_La_law_414 (lv_at hl 0 rfl) ?_
      refine lv_iconst (v := 1) S.1 S.2.1 d_La_law_416 (by decide) ?_
      refine lv_iadd S.1 S.2.1 d_La_law_417 ?_
      refine va_sld S.1 S.2.1 hX hbl hbA hJ1.2.2.2.1 (law_in hi hL (by decide)) d_La_law_418 ?_
      refine lv_if_eq (tgt := 426) S.1 S.2.1 d_La_law_419 (by decide) (fun q => absurd q z1) (fun _ => ?_)
      refine lv_iconst (v := 1) S.1 S.2.1 d_La_law_422 (by decide) ?_
      refine lv_goto (tgt := 427) S.1 S.2.1 d_La_law_423 (by decide) ?_
      refine lv_aload_n S.1 S.2.1 d_La_law_427 rfl (lv_at hl 4 rfl) ?_
      refine lv_iload S.1 S.2.1 d_La_law_428 (lv_at hl 0 rfl) ?_
      refine lv_iconst (v := 2) S.1 S.2.1 d_La_law_430 (by decide) ?_
      refine lv_iadd S.1 S.2.1 d_La_law_431 ?_
      refine va_sld S.1 S.2.1 hX hbl hbA hJ1.2.2.2.1 (law_in hi hL (by decide)) d_La_law_432 ?_
      refine lv_if_eq (tgt := 440) S.1 S.2.1 d_La_law_433 (by decide) (fun _ => ?_) (fun q => absurd z2 q)
      refine lv_iconst (v := 0) S.1 S.2.1 d_La_law_440 (by decide) ?_
      refine hp_doneWv hJ1 (hp_runV S zz0 hm l_La_58 (hJ1.preV _ h_t rfl) (by decide) rfl hl.1 rfl (nl rfl) d_La_law_441 ⟨by show _ ≤ 601024; omega, by show _ ≤ 7292999; omega⟩) (fun h2 H2 locs2 hp2 hJ2 => ?_)
      refine lv_goto (tgt := 998) S.1 S.2.1 d_La_law_444 (by decide) ?_
      exact W.widen (by omega) (by omega) (kk h2 H2 locs2 ls hp2 hJ2 hl)
    · refine lv_aload_n S.1 S.2.1 d_La_law_380 rfl (lv_at hl 3 rfl) ?_
      refine lv_aload_n S.1 S.2.1 d_La_law_381 rfl (lv_at hl 4 rfl) ?_
      refine lv_iload S.1 S.2.1 d_La_law_382 (lv_at hl 0 rfl) ?_
      refine lv_iconst (v := 1) S.1 S.2.1 d_La_law_384 (by decide) ?_
      refine lv_iadd S.1 S.2.1 d_La_law_385 ?_
      refine va_sld S.1 S.2.1 hX hbl hbA hJ.2.2.2.1 (law_in hi hL (by decide)) d_La_law_386 ?_
      refine lv_if_eq (tgt := 394) S.1 S.2.1 d_La_law_387 (by decide) (fun q => absurd q z1) (fun _ => ?_)
      refine lv_iconst (v := 1) S.1 S.2.1 d_La_law_390 (by decide) ?_
      refine lv_goto (tgt := 395) S.1 S.2.1 d_La_law_391 (by decide) ?_
      refine lv_aload_n S.1 S.2.1 d_La_law_395 rfl (lv_at hl 4 rfl) ?_
      refine lv_iload S.1 S.2.1 d_La_law_396 (lv_at hl 0 rfl) ?_
      refine lv_iconst (v := 2) S.1 S.2.1 d_La_law_398 (by decide) ?_
      refine lv_iadd S.1 S.2.1 d_La_law_399 ?_
      refine va_sld S.1 S.2.1 hX hbl hbA hJ.2.2.2.1 (law_in hi hL (by decide)) d_La_law_400 ?_
      refine lv_if_eq (tgt := 408) S.1 S.2.1 d_La_law_401 (by decide) (fun q => absurd q z2) (fun _ => ?_)
      refine lv_iconst (v := 1) S.1 S.2.1 d_La_law_404 (by decide) ?_
      refine lv_goto (tgt := 409) S.1 S.2.1 d_La_law_405 (by decide) ?_
      refine hp_doneWv hJ (hp_runV S zz0 (u_mode hI 1 1 (by decide) (by decide)) l_La_54 (hJ.preV _ h_x rfl) (by decide) rfl hl.1 rfl (nl rfl) d_La_law_409 ⟨by show _ ≤ 601024; omega, by show _ ≤ 7292999; omega⟩) (fun h1 H1 locs1 hm1 hJ1 => ?_)
      obtain ⟨⟨f1, h_t⟩, hm⟩ := hm1
      refine lv_aload_n S.1 S.2.1 d_La_law_412 rfl (lv_at hl 2 rfl) ?_
      refine lv_aload_n S.1 S.2.1 d_La_law_413 rfl (lv_at hl 4 rfl) ?_
      refine lv_iload S.1 S.2.1 d_La_law_414 (lv_at hl 0 rfl) ?_
      refine lv_iconst (v := 1) S.1 S.2.1 d_La_law_416 (by decide) ?_
      refine lv_iadd S.1 S.2.1 d_La_law_417 ?_
      refine va_sld S.1 S.2.1 hX hbl hbA hJ1.2.2.2.1 (law_in hi hL (by decide)) d_La_law_418 ?_
      refine lv_if_eq (tgt := 426) S.1 S.2.1 d_La_law_419 (by decide) (fun q => absurd q z1) (fun _ => ?_)
      refine lv_iconst (v := 1) S.1 S.2.1 d_La_law_422 (by decide) ?_
      refine lv_goto (tgt := 427) S.1 S.2.1 d_La_law_423 (by decide) ?_
      refine lv_aload_n S.1 S.2.1 d_La_law_427 rfl (lv_at hl 4 rfl) ?_
      refine lv_iload S.1 S.2.1 d_La_law_428 (lv_at hl 0 rfl) ?_
      refine lv_iconst (v := 2) S.1 S.2.1 d_La_law_430 (by decide) ?_
      refine lv_iadd S.1 S.2.1 d_La_law_431 ?_
      refine va_sld S.1 S.2.1 hX hbl hbA hJ1.2.2.2.1 (law_in hi hL (by decide)) d_La_law_432 ?_
      refine lv_if_eq (tgt := 440) S.1 S.2.1 d_La_law_433 (by decide) (fun q => absurd q z2) (fun _ => ?_)
      refine lv_iconst (v := 1) S.1 S.2.1 d_La_law_436 (by decide) ?_
      refine lv_goto (tgt := 441) S.1 S.2.1 d_La_law_437 (by decide) ?_
      refine hp_doneWv hJ1 (hp_runV S zz0 hm l_La_58 (hJ1.preV _ h_t rfl) (by decide) rfl hl.1 rfl (nl rfl) d_La_law_441 ⟨by show _ ≤ 601024; omega, by show _ ≤ 7292999; omega⟩) (fun h2 H2 locs2 hp2 hJ2 => ?_)
      refine lv_goto (tgt := 998) S.1 S.2.1 d_La_law_444 (by decide) ?_
      exact W.widen (by omega) (by omega) (kk h2 H2 locs2 ls hp2 hJ2 hl)

set_option maxRecDepth 100000 in
theorem lc_0 (S : CallFix p m c code 7 s #[Value.ref b] BIG "BandPainterLaw") (hX : va_X b L xs s s.heap) (hbl : b < s.heap.size) (hst : l.stackTraces = false) (hEX : ex_X s) (hi : i + 7 ≤ L) (hL : L ≤ 3587) (hJ : hp_J (gg dC dI cA) (fun q => s.heap.size ≤ q) h s H locs) (hI : bInv cA x t out 0 0 (fun _ => 0) h) (hl : lv_has ls 7 [(4, .int (nI i)), (3, .ref out), (2, .ref t), (1, .ref x), (0, .ref b)]) (hc : cells + 20 ≤ 601024 ∧ slots + 1000 ≤ 7292999) (kk : ∀ (h' : hp_T) (H' : Heap) (locs' : List Loc) (ls' : Array Slot), bInv cA x t out 0 0 (fun _ => 0) h' → hp_J (gg dC dI cA) (fun q => s.heap.size ≤ q) h' s H' locs' → lv_has ls' 7 [(4, .int (nI i)), (3, .ref out), (2, .ref t), (1, .ref x), (0, .ref b)] → W p l e room_1 s m #[Value.ref b] below meth c H' locs' (cells + 20) (slots + 1000) Q (F0 m 998 ls' [])) : W p l e room_1 s m #[Value.ref b] below meth c H locs cells slots Q (F0 m 148 ls []) := by
  have hbA : ¬ (fun q : Nat => s.heap.size ≤ q) b := Nat.not_le.mpr hbl
  obtain ⟨⟨fx, h_x⟩, ⟨ft, h_t0⟩⟩ := hI.cells
  have hXm : ∀ U : State, U.heap = H → s.WarmedH U.vm → ex_X U := fun U hU hW => hEX.mv hW (fun a cell q => by rw [hU, hJ.2.2.2.1.2.1 a (Array.getElem?_eq_some_iff.mp q).1 (Nat.not_le.mpr (Array.getElem?_eq_some_iff.mp q).1)]; exact q)
  refine lv_aload_n S.1 S.2.1 d_La_law_148 rfl (lv_at hl 3 rfl) ?_
  refine lv_aload_n S.1 S.2.1 d_La_law_149 rfl (lv_at hl 4 rfl) ?_
  refine lv_iload S.1 S.2.1 d_La_law_150 (lv_at hl 0 rfl) ?_
  refine lv_iconst (v := 1) S.1 S.2.1 d_La_law_152 (by decide) ?_
  refine lv_iadd S.1 S.2.1 d_La_law_153 ?_
  refine va_sld S.1 S.2.1 hX hbl hbA hJ.2.2.2.1 (law_in hi hL (by decide)) d_La_law_154 ?_
  refine lv_aload_n S.1 S.2.1 d_La_law_155 rfl (lv_at hl 4 rfl) ?_
  refine lv_iload S.1 S.2.1 d_La_law_156 (lv_at hl 0 rfl) ?_
  refine lv_iconst (v := 2) S.1 S.2.1 d_La_law_158 (by decide) ?_
  refine lv_iadd S.1 S.2.1 d_La_law_159 ?_
  refine va_sld S.1 S.2.1 hX hbl hbA hJ.2.2.2.1 (law_in hi hL (by decide)) d_La_law_160 ?_
  refine lv_aload_n S.1 S.2.1 d_La_law_161 rfl (lv_at hl 1 rfl) ?_
  refine hp_doneWi hJ (tx_rS S zz0 (u_shape hst hI (xs (nI i + 1).toNatClampNeg) (xs (nI i + 2).toNatClampNeg)) l_La_35 (hJ.preSX hXm _) (by decide) rfl hl.1 rfl (nl rfl) d_La_law_162 ⟨by show _ ≤ 601024; omega, by show _ ≤ 7292999; omega⟩) (fun k h1 H1 locs1 hm1 hJ1 => ?_)
  obtain ⟨⟨f1, h_t⟩, hm⟩ := hm1
  refine lv_istore (lv' := (5, .int k) :: [(4, .int (nI i)), (3, .ref out), (2, .ref t), (1, .ref x), (0, .ref b)]) S.1 S.2.1 d_La_law_165 hl (by decide) rfl (fun ls hl => ?_)
  refine lv_aload_n S.1 S.2.1 d_La_law_167 rfl (lv_at hl 3 rfl) ?_
  refine lv_aload_n S.1 S.2.1 d_La_law_168 rfl (lv_at hl 5 rfl) ?_
  refine lv_iload S.1 S.2.1 d_La_law_169 (lv_at hl 1 rfl) ?_
  refine lv_iconst (v := 1) S.1 S.2.1 d_La_law_171 (by decide) ?_
  refine lv_iadd S.1 S.2.1 d_La_law_172 ?_
  refine va_sld S.1 S.2.1 hX hbl hbA hJ1.2.2.2.1 (law_in hi hL (by decide)) d_La_law_173 ?_
  refine lv_aload_n S.1 S.2.1 d_La_law_174 rfl (lv_at hl 5 rfl) ?_
  refine lv_iload S.1 S.2.1 d_La_law_175 (lv_at hl 1 rfl) ?_
  refine lv_iconst (v := 2) S.1 S.2.1 d_La_law_177 (by decide) ?_
  refine lv_iadd S.1 S.2.1 d_La_law_178 ?_
  refine va_sld S.1 S.2.1 hX hbl hbA hJ1.2.2.2.1 (law_in hi hL (by decide)) d_La_law_179 ?_
  refine hp_doneWi hJ1 (hp_runV S zz0 hm l_La_38 (hJ1.preV _ h_t rfl) (by decide) rfl hl.1 rfl (nl rfl) d_La_law_180 ⟨by show _ ≤ 601024; omega, by show _ ≤ 7292999; omega⟩) (fun r2 h2 H2 locs2 hp2 hJ2 => ?_)
  obtain ⟨hI2, ⟨mf, sh, ac, dn, fr, sp, dt, h_t2, hk⟩, fo, h_o, hko⟩ := hp2
  refine lv_istore (lv' := (6, .int r2) :: (5, .int k) :: [(4, .int (nI i)), (3, .ref out), (2, .ref t), (1, .ref x), (0, .ref b)]) S.1 S.2.1 d_La_law_183 hl (by decide) rfl (fun ls hl => ?_)
  refine lv_aload_n S.1 S.2.1 d_La_law_185 rfl (lv_at hl 4 rfl) ?_
  refine hp_doneR (hp_runV S zz0 (c_Mo_thrown l dC dI cA _ h2 t sh ac dn fr sp dt mf h_t2) l_La_39 (hJ2.preV _ h_t2 rfl) (by decide) rfl hl.1 rfl (nl rfl) d_La_law_186 ⟨by show _ ≤ 601024; omega, by show _ ≤ 7292999; omega⟩) ?_
  refine lv_iload S.1 S.2.1 d_La_law_189 (lv_at hl 1 rfl) ?_
  refine lv_icmp_eq (tgt := 196) S.1 S.2.1 d_La_law_191 (by decide) (fun _ => ?_) (fun q => absurd hk q)
  refine lv_iload S.1 S.2.1 d_La_law_196 (lv_at hl 1 rfl) ?_
  have hlf := lv_sub hl [2, 3, 4, 5, 6] rfl
  have kend : W p l e room_1 s m #[Value.ref b] below meth c H2 locs2 _ _ Q (F0 m 213 ls []) := lv_goto (tgt := 998) S.1 S.2.1 d_La_law_213 (by decide) (W.widen (cells := cells + 4 + 0) (slots := slots + 268 + 0) (by omega) (by omega) (kk h2 H2 locs2 ls hI2 hJ2 hlf))
  refine lv_if_ne (tgt := 213) S.1 S.2.1 d_La_law_198 (by decide) (fun _ => kend) (fun q => ?_)
  have hk0 : k = 0 := q
  have hv := hko hk0
  refine lv_aload_n S.1 S.2.1 d_La_law_201 rfl (lv_at hl 3 rfl) ?_
  refine lv_iconst (v := 0) S.1 S.2.1 d_La_law_202 (by decide) ?_
  refine hp_lald S hJ2 1 h_o rfl (vp_in_nI (n := 0) (by decide) (by decide)) d_La_law_203 ?_
  refine lv_iload S.1 S.2.1 d_La_law_204 (lv_at hl 0 rfl) ?_
  refine lv_i2l S.1 S.2.1 d_La_law_206 rfl ?_
  refine W.lcmp S.1 S.2.1 d_La_law_207 ?_
  exact lv_if_eq (tgt := 213) S.1 S.2.1 d_La_law_208 (by decide) (fun _ => kend) (fun q => absurd ((lg_cmp_e _ _).mpr hv) q)

set_option maxRecDepth 100000 in
theorem lc_11 (S : CallFix p m c code 7 s #[Value.ref b] BIG "BandPainterLaw") (hX : va_X b L xs s s.heap) (hbl : b < s.heap.size) (hst : l.stackTraces = false) (hEX : ex_X s) (hi : i + 7 ≤ L) (hL : L ≤ 3587) (hJ : hp_J (gg dC dI cA) (fun q => s.heap.size ≤ q) h s H locs) (hI : bInv cA x t out 0 0 (fun _ => 0) h) (hl : lv_has ls 7 [(4, .int (nI i)), (3, .ref out), (2, .ref t), (1, .ref x), (0, .ref b)]) (hc : cells + 20 ≤ 601024 ∧ slots + 1000 ≤ 7292999) (kk : ∀ (h' : hp_T) (H' : Heap) (locs' : List Loc) (ls' : Array Slot), bInv cA x t out 0 0 (fun _ => 0) h' → hp_J (gg dC dI cA) (fun q => s.heap.size ≤ q) h' s H' locs' → lv_has ls' 7 [(4, .int (nI i)), (3, .ref out), (2, .ref t), (1, .ref x), (0, .ref b)] → W p l e room_1 s m #[Value.ref b] below meth c H' locs' (cells + 20) (slots + 1000) Q (F0 m 998 ls' [])) : W p l e room_1 s m #[Value.ref b] below meth c H locs cells slots Q (F0 m 799 ls []) := by
  have hbA : ¬ (fun q : Nat => s.heap.size ≤ q) b := Nat.not_le.mpr hbl
  obtain ⟨⟨fx, h_x⟩, ⟨ft, h_t0⟩⟩ := hI.cells
  have hXm : ∀ U : State, U.heap = H → s.WarmedH U.vm → ex_X U := fun U hU hW => hEX.mv hW (fun a cell q => by rw [hU, hJ.2.2.2.1.2.1 a (Array.getElem?_eq_some_iff.mp q).1 (Nat.not_le.mpr (Array.getElem?_eq_some_iff.mp q).1)]; exact q)
  refine lv_aload_n S.1 S.2.1 d_La_law_799 rfl (lv_at hl 3 rfl) ?_
  refine lv_aload_n S.1 S.2.1 d_La_law_800 rfl (lv_at hl 4 rfl) ?_
  refine lv_iload S.1 S.2.1 d_La_law_801 (lv_at hl 0 rfl) ?_
  refine lv_iconst (v := 1) S.1 S.2.1 d_La_law_803 (by decide) ?_
  refine lv_iadd S.1 S.2.1 d_La_law_804 ?_
  refine va_sld S.1 S.2.1 hX hbl hbA hJ.2.2.2.1 (law_in hi hL (by decide)) d_La_law_805 ?_
  refine lv_aload_n S.1 S.2.1 d_La_law_806 rfl (lv_at hl 4 rfl) ?_
  refine lv_iload S.1 S.2.1 d_La_law_807 (lv_at hl 0 rfl) ?_
  refine lv_iconst (v := 2) S.1 S.2.1 d_La_law_809 (by decide) ?_
  refine lv_iadd S.1 S.2.1 d_La_law_810 ?_
  refine va_sld S.1 S.2.1 hX hbl hbA hJ.2.2.2.1 (law_in hi hL (by decide)) d_La_law_811 ?_
  refine lv_aload_n S.1 S.2.1 d_La_law_812 rfl (lv_at hl 1 rfl) ?_
  refine hp_doneWi hJ (tx_rS S zz0 (u_black hst hI (xs (nI i + 1).toNatClampNeg) (xs (nI i + 2).toNatClampNeg)) l_La_92 (hJ.preSX hXm _) (by decide) rfl hl.1 rfl (nl rfl) d_La_law_813 ⟨by show _ ≤ 601024; omega, by show _ ≤ 7292999; omega⟩) (fun k h1 H1 locs1 hm1 hJ1 => ?_)
  obtain ⟨⟨f1, h_t⟩, hm⟩ := hm1
  refine lv_istore (lv' := (5, .int k) :: [(4, .int (nI i)), (3, .ref out), (2, .ref t), (1, .ref x), (0, .ref b)]) S.1 S.2.1 d_La_law_816 hl (by decide) rfl (fun ls hl => ?_)
  refine lv_aload_n S.1 S.2.1 d_La_law_818 rfl (lv_at hl 3 rfl) ?_
  refine lv_aload_n S.1 S.2.1 d_La_law_819 rfl (lv_at hl 5 rfl) ?_
  refine lv_iload S.1 S.2.1 d_La_law_820 (lv_at hl 1 rfl) ?_
  refine lv_iconst (v := 1) S.1 S.2.1 d_La_law_822 (by decide) ?_
  refine lv_iadd S.1 S.2.1 d_La_law_823 ?_
  refine va_sld S.1 S.2.1 hX hbl hbA hJ1.2.2.2.1 (law_in hi hL (by decide)) d_La_law_824 ?_
  refine lv_aload_n S.1 S.2.1 d_La_law_825 rfl (lv_at hl 5 rfl) ?_
  refine lv_iload S.1 S.2.1 d_La_law_826 (lv_at hl 1 rfl) ?_
  refine lv_iconst (v := 2) S.1 S.2.1 d_La_law_828 (by decide) ?_
  refine lv_iadd S.1 S.2.1 d_La_law_829 ?_
  refine va_sld S.1 S.2.1 hX hbl hbA hJ1.2.2.2.1 (law_in hi hL (by decide)) d_La_law_830 ?_
  refine hp_doneWi hJ1 (hp_runV S zz0 hm l_La_94 (hJ1.preV _ h_t rfl) (by decide) rfl hl.1 rfl (nl rfl) d_La_law_831 ⟨by show _ ≤ 601024; omega, by show _ ≤ 7292999; omega⟩) (fun r2 h2 H2 locs2 hp2 hJ2 => ?_)
  obtain ⟨hI2, ⟨mf, sh, ac, dn, fr, sp, dt, h_t2, hk⟩, fo, h_o, hko⟩ := hp2
  refine lv_istore (lv' := (6, .int r2) :: (5, .int k) :: [(4, .int (nI i)), (3, .ref out), (2, .ref t), (1, .ref x), (0, .ref b)]) S.1 S.2.1 d_La_law_834 hl (by decide) rfl (fun ls hl => ?_)
  refine lv_aload_n S.1 S.2.1 d_La_law_836 rfl (lv_at hl 4 rfl) ?_
  refine hp_doneR (hp_runV S zz0 (c_Mo_thrown l dC dI cA _ h2 t sh ac dn fr sp dt mf h_t2) l_La_39 (hJ2.preV _ h_t2 rfl) (by decide) rfl hl.1 rfl (nl rfl) d_La_law_837 ⟨by show _ ≤ 601024; omega, by show _ ≤ 7292999; omega⟩) ?_
  refine lv_iload S.1 S.2.1 d_La_law_840 (lv_at hl 1 rfl) ?_
  refine lv_icmp_eq (tgt := 847) S.1 S.2.1 d_La_law_842 (by decide) (fun _ => ?_) (fun q => absurd hk q)
  refine lv_iload S.1 S.2.1 d_La_law_847 (lv_at hl 1 rfl) ?_
  have hlf := lv_sub hl [2, 3, 4, 5, 6] rfl
  have kend : W p l e room_1 s m #[Value.ref b] below meth c H2 locs2 _ _ Q (F0 m 871 ls []) := lv_goto (tgt := 998) S.1 S.2.1 d_La_law_871 (by decide) (W.widen (cells := cells + 2 + 0) (slots := slots + 40 + 0) (by omega) (by omega) (kk h2 H2 locs2 ls hI2 hJ2 hlf))
  refine lv_if_ne (tgt := 871) S.1 S.2.1 d_La_law_849 (by decide) (fun _ => kend) (fun q => ?_)
  have hk0 : k = 0 := q
  have hv := hko hk0
  refine lv_aload_n S.1 S.2.1 d_La_law_852 rfl (lv_at hl 3 rfl) ?_
  refine lv_iconst (v := 0) S.1 S.2.1 d_La_law_853 (by decide) ?_
  refine hp_lald S hJ2 1 h_o rfl (vp_in_nI (n := 0) (by decide) (by decide)) d_La_law_854 ?_
  refine lv_iload S.1 S.2.1 d_La_law_855 (lv_at hl 0 rfl) ?_
  refine lv_if_eq (tgt := 864) S.1 S.2.1 d_La_law_857 (by decide) (fun z => ?_) (fun z => ?_)
  · rw [if_pos z] at hv
    refine lv_lconst (v := 0) S.1 S.2.1 d_La_law_864 (by decide) ?_
    refine W.lcmp S.1 S.2.1 d_La_law_865 ?_
    exact lv_if_eq (tgt := 871) S.1 S.2.1 d_La_law_866 (by decide) (fun _ => kend) (fun q => absurd ((lg_cmp_e _ _).mpr hv) q)
  · rw [if_neg z] at hv
    refine lv_lconst (v := 1) S.1 S.2.1 d_La_law_860 (by decide) ?_
    refine lv_goto (tgt := 865) S.1 S.2.1 d_La_law_861 (by decide) ?_
    refine W.lcmp S.1 S.2.1 d_La_law_865 ?_
    exact lv_if_eq (tgt := 871) S.1 S.2.1 d_La_law_866 (by decide) (fun _ => kend) (fun q => absurd ((lg_cmp_e _ _).mpr hv) q)

end LAW
