set_option maxRecDepth 100000 in
set_option maxHeartbeats 4000000 in
theorem k_case0 {p : Program} {l : Launch} {e : Env} {s : State} {m : MethodId} {args : Array Value} {below : List Frame} {meth : Method} {c : Code} {H : Heap} {locs : List Loc} {cells slots : Nat} {Q : State → Prop} {ls : Array Slot} {K : KG} {b N i n : Nat} {xs : Nat → Int32} {mc mm : Mem} {adC adM : Nat → Nat → Nat} (C : Cx p s m args meth c cL_law 4 "GlassPalaceLaw" ret) (g : LG K s) (hX : va_X b N xs s s.heap) (hbl : b < s.heap.size) (hN : N ≤ 3072) (hi : i + 6 ≤ N) (hn : n < 100000) (hc : cells + 1 ≤ 600000) (hsl : slots + 11 ≤ 7302250) (J : JJ K n mc mm adC adM H) (hS : va_S (lA s) s.heap H locs) (hl : lv_has ls 4 [(0, .ref b), (1, .ref (kB K)), (2, .ref (adM 0 0)), (3, .int (nI i))]) (kk : ∀ (mc2 mm2 : Mem) (adC2 : Nat → Nat → Nat) (H2 : Heap) (locs2 : List Loc), JJ K (n + 1) mc2 mm2 adC2 adM H2 → va_S (lA s) s.heap H2 locs2 → W p l e room_1 s m args below meth c H2 locs2 (cells + 1) (slots + 11) Q (F0 m 1880 ls [])) : W p l e room_1 s m args below meth c H locs cells slots Q (F0 m 232 ls []) := by
  obtain ⟨T1, T2, T3⟩ := turnC J.1 J.2.2.1
  have T4 := J.apart
  have T5 := J.home
  obtain ⟨r, mc1, mm1, e1, e2, e3⟩ := pairS (mc := mcT K mc (adT K mc adC H.size)) (mm := mm) (fC := f_X11_pass FL (xs (i + 1))) (fM := f_X12_pass FL (xs (i + 1))) (fun v => sim_pass (fl := FL) FL_ge T2.w98 (xs (i + 1)))
  refine lv_aload_n C.x C.b dL_law_232 rfl (lv_at hl 1 rfl) ?_
  refine l_arg (k := 1) C hX hbl hS hl hN (by omega) (by decide) dL_law_233 dL_law_234 dL_law_235 dL_law_236 dL_law_237 ?_
  refine l_calV (As := [.int (xs (i + 1))]) (rest := []) C g T1 hS mw_X11_pass mv_X11_pass kl_408 (by decide) ⟨Nat.le_of_ble_eq_true rfl, Nat.le_of_ble_eq_true rfl⟩ (lvC0 Nat.zero_lt_one) kC0 zc11 (c_X11_pass (l := l) (K := K) (ad := adT K mc adC H.size) e1) rfl hl.1 (by rw [T5]; rfl) (Nat.le_of_ble_eq_true rfl) dL_law_238 ⟨by show (_ : Nat) ≤ 600000; omega, by show (_ : Nat) ≤ 7302250; omega⟩ (fun H1 locs1 Z1 S1 F1 => ?_)
  have M1 := J.mid T4 Z1 F1
  refine lv_aload_n C.x C.b dL_law_241 rfl (lv_at hl 2 rfl) ?_
  refine l_arg (k := 1) C hX hbl S1 hl hN (by omega) (by decide) dL_law_242 dL_law_243 dL_law_244 dL_law_245 dL_law_246 ?_
  refine l_calV (As := [.int (xs (i + 1))]) (rest := [.int r]) C g M1 S1 mw_X12_pass mv_X12_pass kl_1394 (by decide) ⟨Nat.le_of_ble_eq_true rfl, Nat.le_of_ble_eq_true rfl⟩ (lvM0 Nat.zero_lt_one) kM0 zc12 (c_X12_pass (l := l) (K := K) (ad := adM) e2) rfl hl.1 rfl (Nat.le_of_ble_eq_true rfl) dL_law_247 ⟨by show (_ : Nat) ≤ 600000; omega, by show (_ : Nat) ≤ 7302250; omega⟩ (fun H2 locs2 Z2 S2 F2 => ?_)
  refine lv_icmp_eq (tgt := 1880) C.x C.b dL_law_250 (by decide) (fun _ => ?_) (fun w => absurd rfl w)
  exact W.widen (by omega) (by omega) (kk _ _ _ _ _ (J.fin T4 T5 Z1 Z2 F2 e3) S2)
set_option maxRecDepth 100000 in
set_option maxHeartbeats 4000000 in
theorem k_case1 {p : Program} {l : Launch} {e : Env} {s : State} {m : MethodId} {args : Array Value} {below : List Frame} {meth : Method} {c : Code} {H : Heap} {locs : List Loc} {cells slots : Nat} {Q : State → Prop} {ls : Array Slot} {K : KG} {b N i n : Nat} {xs : Nat → Int32} {mc mm : Mem} {adC adM : Nat → Nat → Nat} (C : Cx p s m args meth c cL_law 4 "GlassPalaceLaw" ret) (g : LG K s) (hX : va_X b N xs s s.heap) (hbl : b < s.heap.size) (hN : N ≤ 3072) (hi : i + 6 ≤ N) (hn : n < 100000) (hc : cells + 1 ≤ 600000) (hsl : slots + 11 ≤ 7302250) (J : JJ K n mc mm adC adM H) (hS : va_S (lA s) s.heap H locs) (hl : lv_has ls 4 [(0, .ref b), (1, .ref (kB K)), (2, .ref (adM 0 0)), (3, .int (nI i))]) (kk : ∀ (mc2 mm2 : Mem) (adC2 : Nat → Nat → Nat) (H2 : Heap) (locs2 : List Loc), JJ K (n + 1) mc2 mm2 adC2 adM H2 → va_S (lA s) s.heap H2 locs2 → W p l e room_1 s m args below meth c H2 locs2 (cells + 1) (slots + 11) Q (F0 m 1880 ls [])) : W p l e room_1 s m args below meth c H locs cells slots Q (F0 m 255 ls []) := by
  obtain ⟨T1, T2, T3⟩ := turnC J.1 J.2.2.1
  have T4 := J.apart
  have T5 := J.home
  obtain ⟨r, mc1, mm1, e1, e2, e3⟩ := pairS (mc := mcT K mc (adT K mc adC H.size)) (mm := mm) (fC := f_X11_bay FL (xs (i + 1)) (xs (i + 2)) (xs (i + 3))) (fM := f_X12_bay FL (xs (i + 1)) (xs (i + 2)) (xs (i + 3))) (fun v => sim_bay (fl := FL) FL_ge T2.w98 (xs (i + 1)) (xs (i + 2)) (xs (i + 3)))
  refine lv_aload_n C.x C.b dL_law_255 rfl (lv_at hl 1 rfl) ?_
  refine l_arg (k := 1) C hX hbl hS hl hN (by omega) (by decide) dL_law_256 dL_law_257 dL_law_258 dL_law_259 dL_law_260 ?_
  refine l_arg (k := 2) C hX hbl hS hl hN (by omega) (by decide) dL_law_261 dL_law_262 dL_law_263 dL_law_264 dL_law_265 ?_
  refine l_arg (k := 3) C hX hbl hS hl hN (by omega) (by decide) dL_law_266 dL_law_267 dL_law_268 dL_law_269 dL_law_270 ?_
  refine l_calV (As := [.int (xs (i + 1)), .int (xs (i + 2)), .int (xs (i + 3))]) (rest := []) C g T1 hS mw_X11_bay mv_X11_bay kl_412 (by decide) ⟨Nat.le_of_ble_eq_true rfl, Nat.le_of_ble_eq_true rfl⟩ (lvC0 Nat.zero_lt_one) kC0 zc11 (c_X11_bay (l := l) (K := K) (ad := adT K mc adC H.size) e1) rfl hl.1 (by rw [T5]; rfl) (Nat.le_of_ble_eq_true rfl) dL_law_271 ⟨by show (_ : Nat) ≤ 600000; omega, by show (_ : Nat) ≤ 7302250; omega⟩ (fun H1 locs1 Z1 S1 F1 => ?_)
  have M1 := J.mid T4 Z1 F1
  refine lv_aload_n C.x C.b dL_law_274 rfl (lv_at hl 2 rfl) ?_
  refine l_arg (k := 1) C hX hbl S1 hl hN (by omega) (by decide) dL_law_275 dL_law_276 dL_law_277 dL_law_278 dL_law_279 ?_
  refine l_arg (k := 2) C hX hbl S1 hl hN (by omega) (by decide) dL_law_280 dL_law_281 dL_law_282 dL_law_283 dL_law_284 ?_
  refine l_arg (k := 3) C hX hbl S1 hl hN (by omega) (by decide) dL_law_285 dL_law_286 dL_law_287 dL_law_288 dL_law_289 ?_
  refine l_calV (As := [.int (xs (i + 1)), .int (xs (i + 2)), .int (xs (i + 3))]) (rest := [.int r]) C g M1 S1 mw_X12_bay mv_X12_bay kl_1402 (by decide) ⟨Nat.le_of_ble_eq_true rfl, Nat.le_of_ble_eq_true rfl⟩ (lvM0 Nat.zero_lt_one) kM0 zc12 (c_X12_bay (l := l) (K := K) (ad := adM) e2) rfl hl.1 rfl (Nat.le_of_ble_eq_true rfl) dL_law_290 ⟨by show (_ : Nat) ≤ 600000; omega, by show (_ : Nat) ≤ 7302250; omega⟩ (fun H2 locs2 Z2 S2 F2 => ?_)
  refine lv_icmp_eq (tgt := 1880) C.x C.b dL_law_293 (by decide) (fun _ => ?_) (fun w => absurd rfl w)
  exact W.widen (by omega) (by omega) (kk _ _ _ _ _ (J.fin T4 T5 Z1 Z2 F2 e3) S2)
set_option maxRecDepth 100000 in
set_option maxHeartbeats 4000000 in
theorem k_case2 {p : Program} {l : Launch} {e : Env} {s : State} {m : MethodId} {args : Array Value} {below : List Frame} {meth : Method} {c : Code} {H : Heap} {locs : List Loc} {cells slots : Nat} {Q : State → Prop} {ls : Array Slot} {K : KG} {b N i n : Nat} {xs : Nat → Int32} {mc mm : Mem} {adC adM : Nat → Nat → Nat} (C : Cx p s m args meth c cL_law 4 "GlassPalaceLaw" ret) (g : LG K s) (hX : va_X b N xs s s.heap) (hbl : b < s.heap.size) (hN : N ≤ 3072) (hi : i + 6 ≤ N) (hn : n < 100000) (hc : cells + 1 ≤ 600000) (hsl : slots + 11 ≤ 7302250) (J : JJ K n mc mm adC adM H) (hS : va_S (lA s) s.heap H locs) (hl : lv_has ls 4 [(0, .ref b), (1, .ref (kB K)), (2, .ref (adM 0 0)), (3, .int (nI i))]) (kk : ∀ (mc2 mm2 : Mem) (adC2 : Nat → Nat → Nat) (H2 : Heap) (locs2 : List Loc), JJ K (n + 1) mc2 mm2 adC2 adM H2 → va_S (lA s) s.heap H2 locs2 → W p l e room_1 s m args below meth c H2 locs2 (cells + 1) (slots + 11) Q (F0 m 1880 ls [])) : W p l e room_1 s m args below meth c H locs cells slots Q (F0 m 298 ls []) := by
  obtain ⟨T1, T2, T3⟩ := turnC J.1 J.2.2.1
  have T4 := J.apart
  have T5 := J.home
  obtain ⟨r, mc1, mm1, e1, e2, e3⟩ := pairS (mc := mcT K mc (adT K mc adC H.size)) (mm := mm) (fC := f_X11_foundry FL (xs (i + 1)) (xs (i + 2)) (xs (i + 3))) (fM := f_X12_foundry FL (xs (i + 1)) (xs (i + 2)) (xs (i + 3))) (fun v => sim_foundry (fl := FL) T2.w98 (xs (i + 1)) (xs (i + 2)) (xs (i + 3)))
  refine lv_aload_n C.x C.b dL_law_298 rfl (lv_at hl 1 rfl) ?_
  refine l_arg (k := 1) C hX hbl hS hl hN (by omega) (by decide) dL_law_299 dL_law_300 dL_law_301 dL_law_302 dL_law_303 ?_
  refine l_arg (k := 2) C hX hbl hS hl hN (by omega) (by decide) dL_law_304 dL_law_305 dL_law_306 dL_law_307 dL_law_308 ?_
  refine l_arg (k := 3) C hX hbl hS hl hN (by omega) (by decide) dL_law_309 dL_law_310 dL_law_311 dL_law_312 dL_law_313 ?_
  refine l_calV (As := [.int (xs (i + 1)), .int (xs (i + 2)), .int (xs (i + 3))]) (rest := []) C g T1 hS mw_X11_foundry mv_X11_foundry kl_435 (by decide) ⟨Nat.le_of_ble_eq_true rfl, Nat.le_of_ble_eq_true rfl⟩ (lvC0 Nat.zero_lt_one) kC0 zc11 (c_X11_foundry (l := l) (K := K) (ad := adT K mc adC H.size) e1) rfl hl.1 (by rw [T5]; rfl) (Nat.le_of_ble_eq_true rfl) dL_law_314 ⟨by show (_ : Nat) ≤ 600000; omega, by show (_ : Nat) ≤ 7302250; omega⟩ (fun H1 locs1 Z1 S1 F1 => ?_)
  have M1 := J.mid T4 Z1 F1
  refine lv_aload_n C.x C.b dL_law_317 rfl (lv_at hl 2 rfl) ?_
  refine l_arg (k := 1) C hX hbl S1 hl hN (by omega) (by decide) dL_law_318 dL_law_319 dL_law_320 dL_law_321 dL_law_322 ?_
  refine l_arg (k := 2) C hX hbl S1 hl hN (by omega) (by decide) dL_law_323 dL_law_324 dL_law_325 dL_law_326 dL_law_327 ?_
  refine l_arg (k := 3) C hX hbl S1 hl hN (by omega) (by decide) dL_law_328 dL_law_329 dL_law_330 dL_law_331 dL_law_332 ?_
  refine l_calV (As := [.int (xs (i + 1)), .int (xs (i + 2)), .int (xs (i + 3))]) (rest := [.int r]) C g M1 S1 mw_X12_foundry mv_X12_foundry kl_1418 (by decide) ⟨Nat.le_of_ble_eq_true rfl, Nat.le_of_ble_eq_true rfl⟩ (lvM0 Nat.zero_lt_one) kM0 zc12 (c_X12_foundry (l := l) (K := K) (ad := adM) e2) rfl hl.1 rfl (Nat.le_of_ble_eq_true rfl) dL_law_333 ⟨by show (_ : Nat) ≤ 600000; omega, by show (_ : Nat) ≤ 7302250; omega⟩ (fun H2 locs2 Z2 S2 F2 => ?_)
  refine lv_icmp_eq (tgt := 1880) C.x C.b dL_law_336 (by decide) (fun _ => ?_) (fun w => absurd rfl w)
  exact W.widen (by omega) (by omega) (kk _ _ _ _ _ (J.fin T4 T5 Z1 Z2 F2 e3) S2)
set_option maxRecDepth 100000 in
set_option maxHeartbeats 4000000 in
theorem k_case3 {p : Program} {l : Launch} {e : Env} {s : State} {m : MethodId} {args : Array Value} {below : List Frame} {meth : Method} {c : Code} {H : Heap} {locs : List Loc} {cells slots : Nat} {Q : State → Prop} {ls : Array Slot} {K : KG} {b N i n : Nat} {xs : Nat → Int32} {mc mm : Mem} {adC adM : Nat → Nat → Nat} (C : Cx p s m args meth c cL_law 4 "GlassPalaceLaw" ret) (g : LG K s) (hX : va_X b N xs s s.heap) (hbl : b < s.heap.size) (hN : N ≤ 3072) (hi : i + 6 ≤ N) (hn : n < 100000) (hc : cells + 1 ≤ 600000) (hsl : slots + 11 ≤ 7302250) (J : JJ K n mc mm adC adM H) (hS : va_S (lA s) s.heap H locs) (hl : lv_has ls 4 [(0, .ref b), (1, .ref (kB K)), (2, .ref (adM 0 0)), (3, .int (nI i))]) (kk : ∀ (mc2 mm2 : Mem) (adC2 : Nat → Nat → Nat) (H2 : Heap) (locs2 : List Loc), JJ K (n + 1) mc2 mm2 adC2 adM H2 → va_S (lA s) s.heap H2 locs2 → W p l e room_1 s m args below meth c H2 locs2 (cells + 1) (slots + 11) Q (F0 m 1880 ls [])) : W p l e room_1 s m args below meth c H locs cells slots Q (F0 m 341 ls []) := by
  obtain ⟨T1, T2, T3⟩ := turnC J.1 J.2.2.1
  have T4 := J.apart
  have T5 := J.home
  obtain ⟨r, mc1, mm1, e1, e2, e3⟩ := pairS (mc := mcT K mc (adT K mc adC H.size)) (mm := mm) (fC := f_X11_order FL (xs (i + 1)) (xs (i + 2)) (xs (i + 3)) (xs (i + 4))) (fM := f_X12_order FL (xs (i + 1)) (xs (i + 2)) (xs (i + 3)) (xs (i + 4))) (fun v => sim_order (fl := FL) T2.w98 T3 (xs (i + 1)) (xs (i + 2)) (xs (i + 3)) (xs (i + 4)))
  refine lv_aload_n C.x C.b dL_law_341 rfl (lv_at hl 1 rfl) ?_
  refine l_arg (k := 1) C hX hbl hS hl hN (by omega) (by decide) dL_law_342 dL_law_343 dL_law_344 dL_law_345 dL_law_346 ?_
  refine l_arg (k := 2) C hX hbl hS hl hN (by omega) (by decide) dL_law_347 dL_law_348 dL_law_349 dL_law_350 dL_law_351 ?_
  refine l_arg (k := 3) C hX hbl hS hl hN (by omega) (by decide) dL_law_352 dL_law_353 dL_law_354 dL_law_355 dL_law_356 ?_
  refine l_arg (k := 4) C hX hbl hS hl hN (by omega) (by decide) dL_law_357 dL_law_358 dL_law_359 dL_law_360 dL_law_361 ?_
  refine l_calV (As := [.int (xs (i + 1)), .int (xs (i + 2)), .int (xs (i + 3)), .int (xs (i + 4))]) (rest := []) C g T1 hS mw_X11_order mv_X11_order kl_442 (by decide) ⟨Nat.le_of_ble_eq_true rfl, Nat.le_of_ble_eq_true rfl⟩ (lvC0 Nat.zero_lt_one) kC0 zc11 (c_X11_order (l := l) (K := K) (ad := adT K mc adC H.size) e1) rfl hl.1 (by rw [T5]; rfl) (Nat.le_of_ble_eq_true rfl) dL_law_362 ⟨by show (_ : Nat) ≤ 600000; omega, by show (_ : Nat) ≤ 7302250; omega⟩ (fun H1 locs1 Z1 S1 F1 => ?_)
  have M1 := J.mid T4 Z1 F1
  refine lv_aload_n C.x C.b dL_law_365 rfl (lv_at hl 2 rfl) ?_
  refine l_arg (k := 1) C hX hbl S1 hl hN (by omega) (by decide) dL_law_366 dL_law_367 dL_law_368 dL_law_369 dL_law_370 ?_
  refine l_arg (k := 2) C hX hbl S1 hl hN (by omega) (by decide) dL_law_371 dL_law_372 dL_law_373 dL_law_374 dL_law_375 ?_
  refine l_arg (k := 3) C hX hbl S1 hl hN (by omega) (by decide) dL_law_376 dL_law_377 dL_law_378 dL_law_379 dL_law_380 ?_
  refine l_arg (k := 4) C hX hbl S1 hl hN (by omega) (by decide) dL_law_381 dL_law_382 dL_law_383 dL_law_384 dL_law_385 ?_
  refine l_calV (As := [.int (xs (i + 1)), .int (xs (i + 2)), .int (xs (i + 3)), .int (xs (i + 4))]) (rest := [.int r]) C g M1 S1 mw_X12_order mv_X12_order kl_1426 (by decide) ⟨Nat.le_of_ble_eq_true rfl, Nat.le_of_ble_eq_true rfl⟩ (lvM0 Nat.zero_lt_one) kM0 zc12 (c_X12_order (l := l) (K := K) (ad := adM) e2) rfl hl.1 rfl (Nat.le_of_ble_eq_true rfl) dL_law_386 ⟨by show (_ : Nat) ≤ 600000; omega, by show (_ : Nat) ≤ 7302250; omega⟩ (fun H2 locs2 Z2 S2 F2 => ?_)
  refine lv_icmp_eq (tgt := 1880) C.x C.b dL_law_389 (by decide) (fun _ => ?_) (fun w => absurd rfl w)
  exact W.widen (by omega) (by omega) (kk _ _ _ _ _ (J.fin T4 T5 Z1 Z2 F2 e3) S2)
set_option maxRecDepth 100000 in
set_option maxHeartbeats 4000000 in
theorem k_case4 {p : Program} {l : Launch} {e : Env} {s : State} {m : MethodId} {args : Array Value} {below : List Frame} {meth : Method} {c : Code} {H : Heap} {locs : List Loc} {cells slots : Nat} {Q : State → Prop} {ls : Array Slot} {K : KG} {b N i n : Nat} {xs : Nat → Int32} {mc mm : Mem} {adC adM : Nat → Nat → Nat} (C : Cx p s m args meth c cL_law 4 "GlassPalaceLaw" ret) (g : LG K s) (hX : va_X b N xs s s.heap) (hbl : b < s.heap.size) (hN : N ≤ 3072) (hi : i + 6 ≤ N) (hn : n < 100000) (hc : cells + 1 ≤ 600000) (hsl : slots + 11 ≤ 7302250) (J : JJ K n mc mm adC adM H) (hS : va_S (lA s) s.heap H locs) (hl : lv_has ls 4 [(0, .ref b), (1, .ref (kB K)), (2, .ref (adM 0 0)), (3, .int (nI i))]) (kk : ∀ (mc2 mm2 : Mem) (adC2 : Nat → Nat → Nat) (H2 : Heap) (locs2 : List Loc), JJ K (n + 1) mc2 mm2 adC2 adM H2 → va_S (lA s) s.heap H2 locs2 → W p l e room_1 s m args below meth c H2 locs2 (cells + 1) (slots + 11) Q (F0 m 1880 ls [])) : W p l e room_1 s m args below meth c H locs cells slots Q (F0 m 394 ls []) := by
  obtain ⟨T1, T2, T3⟩ := turnC J.1 J.2.2.1
  have T4 := J.apart
  have T5 := J.home
  obtain ⟨r, mc1, mm1, e1, e2, e3⟩ := pairS (mc := mcT K mc (adT K mc adC H.size)) (mm := mm) (fC := f_X11_come FL (xs (i + 1)) (xs (i + 2))) (fM := f_X12_come FL (xs (i + 1)) (xs (i + 2))) (fun v => sim_come (fl := FL) T2.w98 (xs (i + 1)) (xs (i + 2)))
  refine lv_aload_n C.x C.b dL_law_394 rfl (lv_at hl 1 rfl) ?_
  refine l_arg (k := 1) C hX hbl hS hl hN (by omega) (by decide) dL_law_395 dL_law_396 dL_law_397 dL_law_398 dL_law_399 ?_
  refine l_arg (k := 2) C hX hbl hS hl hN (by omega) (by decide) dL_law_400 dL_law_401 dL_law_402 dL_law_403 dL_law_404 ?_
  refine l_calV (As := [.int (xs (i + 1)), .int (xs (i + 2))]) (rest := []) C g T1 hS mw_X11_come mv_X11_come kl_508 (by decide) ⟨Nat.le_of_ble_eq_true rfl, Nat.le_of_ble_eq_true rfl⟩ (lvC0 Nat.zero_lt_one) kC0 zc11 (c_X11_come (l := l) (K := K) (ad := adT K mc adC H.size) e1) rfl hl.1 (by rw [T5]; rfl) (Nat.le_of_ble_eq_true rfl) dL_law_405 ⟨by show (_ : Nat) ≤ 600000; omega, by show (_ : Nat) ≤ 7302250; omega⟩ (fun H1 locs1 Z1 S1 F1 => ?_)
  have M1 := J.mid T4 Z1 F1
  refine lv_aload_n C.x C.b dL_law_408 rfl (lv_at hl 2 rfl) ?_
  refine l_arg (k := 1) C hX hbl S1 hl hN (by omega) (by decide) dL_law_409 dL_law_410 dL_law_411 dL_law_412 dL_law_413 ?_
  refine l_arg (k := 2) C hX hbl S1 hl hN (by omega) (by decide) dL_law_414 dL_law_415 dL_law_416 dL_law_417 dL_law_418 ?_
  refine l_calV (As := [.int (xs (i + 1)), .int (xs (i + 2))]) (rest := [.int r]) C g M1 S1 mw_X12_come mv_X12_come kl_1430 (by decide) ⟨Nat.le_of_ble_eq_true rfl, Nat.le_of_ble_eq_true rfl⟩ (lvM0 Nat.zero_lt_one) kM0 zc12 (c_X12_come (l := l) (K := K) (ad := adM) e2) rfl hl.1 rfl (Nat.le_of_ble_eq_true rfl) dL_law_419 ⟨by show (_ : Nat) ≤ 600000; omega, by show (_ : Nat) ≤ 7302250; omega⟩ (fun H2 locs2 Z2 S2 F2 => ?_)
  refine lv_icmp_eq (tgt := 1880) C.x C.b dL_law_422 (by decide) (fun _ => ?_) (fun w => absurd rfl w)
  exact W.widen (by omega) (by omega) (kk _ _ _ _ _ (J.fin T4 T5 Z1 Z2 F2 e3) S2)
set_option maxRecDepth 100000 in
set_option maxHeartbeats 4000000 in
theorem k_case5 {p : Program} {l : Launch} {e : Env} {s : State} {m : MethodId} {args : Array Value} {below : List Frame} {meth : Method} {c : Code} {H : Heap} {locs : List Loc} {cells slots : Nat} {Q : State → Prop} {ls : Array Slot} {K : KG} {b N i n : Nat} {xs : Nat → Int32} {mc mm : Mem} {adC adM : Nat → Nat → Nat} (C : Cx p s m args meth c cL_law 4 "GlassPalaceLaw" ret) (g : LG K s) (hX : va_X b N xs s s.heap) (hbl : b < s.heap.size) (hN : N ≤ 3072) (hi : i + 6 ≤ N) (hn : n < 100000) (hc : cells + 1 ≤ 600000) (hsl : slots + 11 ≤ 7302250) (J : JJ K n mc mm adC adM H) (hS : va_S (lA s) s.heap H locs) (hl : lv_has ls 4 [(0, .ref b), (1, .ref (kB K)), (2, .ref (adM 0 0)), (3, .int (nI i))]) (kk : ∀ (mc2 mm2 : Mem) (adC2 : Nat → Nat → Nat) (H2 : Heap) (locs2 : List Loc), JJ K (n + 1) mc2 mm2 adC2 adM H2 → va_S (lA s) s.heap H2 locs2 → W p l e room_1 s m args below meth c H2 locs2 (cells + 1) (slots + 11) Q (F0 m 1880 ls [])) : W p l e room_1 s m args below meth c H locs cells slots Q (F0 m 427 ls []) := by
  obtain ⟨T1, T2, T3⟩ := turnC J.1 J.2.2.1
  have T4 := J.apart
  have T5 := J.home
  obtain ⟨r, mc1, mm1, e1, e2, e3⟩ := pairS (mc := mcT K mc (adT K mc adC H.size)) (mm := mm) (fC := f_X11_of FL (xs (i + 1)) (xs (i + 2))) (fM := f_X12_of FL (xs (i + 1)) (xs (i + 2))) (fun v => sim_of T2.w98 (xs (i + 1)) (xs (i + 2)))
  refine lv_aload_n C.x C.b dL_law_427 rfl (lv_at hl 1 rfl) ?_
  refine l_arg (k := 1) C hX hbl hS hl hN (by omega) (by decide) dL_law_428 dL_law_429 dL_law_430 dL_law_431 dL_law_432 ?_
  refine l_arg (k := 2) C hX hbl hS hl hN (by omega) (by decide) dL_law_433 dL_law_434 dL_law_435 dL_law_436 dL_law_437 ?_
  refine l_calV (As := [.int (xs (i + 1)), .int (xs (i + 2))]) (rest := []) C g T1 hS mw_X11_of mv_X11_of kl_520 (by decide) ⟨Nat.le_of_ble_eq_true rfl, Nat.le_of_ble_eq_true rfl⟩ (lvC0 Nat.zero_lt_one) kC0 zc11 (c_X11_of (l := l) (K := K) (ad := adT K mc adC H.size) e1) rfl hl.1 (by rw [T5]; rfl) (Nat.le_of_ble_eq_true rfl) dL_law_438 ⟨by show (_ : Nat) ≤ 600000; omega, by show (_ : Nat) ≤ 7302250; omega⟩ (fun H1 locs1 Z1 S1 F1 => ?_)
  have M1 := J.mid T4 Z1 F1
  refine lv_aload_n C.x C.b dL_law_441 rfl (lv_at hl 2 rfl) ?_
  refine l_arg (k := 1) C hX hbl S1 hl hN (by omega) (by decide) dL_law_442 dL_law_443 dL_law_444 dL_law_445 dL_law_446 ?_
  refine l_arg (k := 2) C hX hbl S1 hl hN (by omega) (by decide) dL_law_447 dL_law_448 dL_law_449 dL_law_450 dL_law_451 ?_
  refine l_calV (As := [.int (xs (i + 1)), .int (xs (i + 2))]) (rest := [.int r]) C g M1 S1 mw_X12_of mv_X12_of kl_1438 (by decide) ⟨Nat.le_of_ble_eq_true rfl, Nat.le_of_ble_eq_true rfl⟩ (lvM0 Nat.zero_lt_one) kM0 zc12 (c_X12_of (l := l) (K := K) (ad := adM) e2) rfl hl.1 rfl (Nat.le_of_ble_eq_true rfl) dL_law_452 ⟨by show (_ : Nat) ≤ 600000; omega, by show (_ : Nat) ≤ 7302250; omega⟩ (fun H2 locs2 Z2 S2 F2 => ?_)
  refine lv_icmp_eq (tgt := 1880) C.x C.b dL_law_455 (by decide) (fun _ => ?_) (fun w => absurd rfl w)
  exact W.widen (by omega) (by omega) (kk _ _ _ _ _ (J.fin T4 T5 Z1 Z2 F2 e3) S2)
set_option maxRecDepth 100000 in
set_option maxHeartbeats 4000000 in
theorem k_case6 {p : Program} {l : Launch} {e : Env} {s : State} {m : MethodId} {args : Array Value} {below : List Frame} {meth : Method} {c : Code} {H : Heap} {locs : List Loc} {cells slots : Nat} {Q : State → Prop} {ls : Array Slot} {K : KG} {b N i n : Nat} {xs : Nat → Int32} {mc mm : Mem} {adC adM : Nat → Nat → Nat} (C : Cx p s m args meth c cL_law 4 "GlassPalaceLaw" ret) (g : LG K s) (hX : va_X b N xs s s.heap) (hbl : b < s.heap.size) (hN : N ≤ 3072) (hi : i + 6 ≤ N) (hn : n < 100000) (hc : cells + 1 ≤ 600000) (hsl : slots + 11 ≤ 7302250) (J : JJ K n mc mm adC adM H) (hS : va_S (lA s) s.heap H locs) (hl : lv_has ls 4 [(0, .ref b), (1, .ref (kB K)), (2, .ref (adM 0 0)), (3, .int (nI i))]) (kk : ∀ (mc2 mm2 : Mem) (adC2 : Nat → Nat → Nat) (H2 : Heap) (locs2 : List Loc), JJ K (n + 1) mc2 mm2 adC2 adM H2 → va_S (lA s) s.heap H2 locs2 → W p l e room_1 s m args below meth c H2 locs2 (cells + 1) (slots + 11) Q (F0 m 1880 ls [])) : W p l e room_1 s m args below meth c H locs cells slots Q (F0 m 460 ls []) := by
  obtain ⟨T1, T2, T3⟩ := turnC J.1 J.2.2.1
  have T4 := J.apart
  have T5 := J.home
  obtain ⟨r, mc1, mm1, e1, e2, e3⟩ := pairS (mc := mcT K mc (adT K mc adC H.size)) (mm := mm) (fC := f_X11_tried FL (xs (i + 1)) (xs (i + 2))) (fM := f_X12_tried FL (xs (i + 1)) (xs (i + 2))) (fun v => sim_tried (fl := FL) hn T2.w98 (xs (i + 1)) (xs (i + 2)))
  refine lv_aload_n C.x C.b dL_law_460 rfl (lv_at hl 1 rfl) ?_
  refine l_arg (k := 1) C hX hbl hS hl hN (by omega) (by decide) dL_law_461 dL_law_462 dL_law_463 dL_law_464 dL_law_465 ?_
  refine l_arg (k := 2) C hX hbl hS hl hN (by omega) (by decide) dL_law_466 dL_law_467 dL_law_468 dL_law_469 dL_law_470 ?_
  refine l_calV (As := [.int (xs (i + 1)), .int (xs (i + 2))]) (rest := []) C g T1 hS mw_X11_tried mv_X11_tried kl_577 (by decide) ⟨Nat.le_of_ble_eq_true rfl, Nat.le_of_ble_eq_true rfl⟩ (lvC0 Nat.zero_lt_one) kC0 zc11 (c_X11_tried (l := l) (K := K) (ad := adT K mc adC H.size) e1) rfl hl.1 (by rw [T5]; rfl) (Nat.le_of_ble_eq_true rfl) dL_law_471 ⟨by show (_ : Nat) ≤ 600000; omega, by show (_ : Nat) ≤ 7302250; omega⟩ (fun H1 locs1 Z1 S1 F1 => ?_)
  have M1 := J.mid T4 Z1 F1
  refine lv_aload_n C.x C.b dL_law_474 rfl (lv_at hl 2 rfl) ?_
  refine l_arg (k := 1) C hX hbl S1 hl hN (by omega) (by decide) dL_law_475 dL_law_476 dL_law_477 dL_law_478 dL_law_479 ?_
  refine l_arg (k := 2) C hX hbl S1 hl hN (by omega) (by decide) dL_law_480 dL_law_481 dL_law_482 dL_law_483 dL_law_484 ?_
  refine l_calV (As := [.int (xs (i + 1)), .int (xs (i + 2))]) (rest := [.int r]) C g M1 S1 mw_X12_tried mv_X12_tried kl_1513 (by decide) ⟨Nat.le_of_ble_eq_true rfl, Nat.le_of_ble_eq_true rfl⟩ (lvM0 Nat.zero_lt_one) kM0 zc12 (c_X12_tried (l := l) (K := K) (ad := adM) e2) rfl hl.1 rfl (Nat.le_of_ble_eq_true rfl) dL_law_485 ⟨by show (_ : Nat) ≤ 600000; omega, by show (_ : Nat) ≤ 7302250; omega⟩ (fun H2 locs2 Z2 S2 F2 => ?_)
  refine lv_icmp_eq (tgt := 1880) C.x C.b dL_law_488 (by decide) (fun _ => ?_) (fun w => absurd rfl w)
  exact W.widen (by omega) (by omega) (kk _ _ _ _ _ (J.fin T4 T5 Z1 Z2 F2 e3) S2)
set_option maxRecDepth 100000 in
set_option maxHeartbeats 4000000 in
theorem k_case7 {p : Program} {l : Launch} {e : Env} {s : State} {m : MethodId} {args : Array Value} {below : List Frame} {meth : Method} {c : Code} {H : Heap} {locs : List Loc} {cells slots : Nat} {Q : State → Prop} {ls : Array Slot} {K : KG} {b N i n : Nat} {xs : Nat → Int32} {mc mm : Mem} {adC adM : Nat → Nat → Nat} (C : Cx p s m args meth c cL_law 4 "GlassPalaceLaw" ret) (g : LG K s) (hX : va_X b N xs s s.heap) (hbl : b < s.heap.size) (hN : N ≤ 3072) (hi : i + 6 ≤ N) (hn : n < 100000) (hc : cells + 1 ≤ 600000) (hsl : slots + 11 ≤ 7302250) (J : JJ K n mc mm adC adM H) (hS : va_S (lA s) s.heap H locs) (hl : lv_has ls 4 [(0, .ref b), (1, .ref (kB K)), (2, .ref (adM 0 0)), (3, .int (nI i))]) (kk : ∀ (mc2 mm2 : Mem) (adC2 : Nat → Nat → Nat) (H2 : Heap) (locs2 : List Loc), JJ K (n + 1) mc2 mm2 adC2 adM H2 → va_S (lA s) s.heap H2 locs2 → W p l e room_1 s m args below meth c H2 locs2 (cells + 1) (slots + 11) Q (F0 m 1880 ls [])) : W p l e room_1 s m args below meth c H locs cells slots Q (F0 m 493 ls []) := by
  obtain ⟨T1, T2, T3⟩ := turnC J.1 J.2.2.1
  have T4 := J.apart
  have T5 := J.home
  obtain ⟨r, mc1, mm1, e1, e2, e3⟩ := pairS (mc := mcT K mc (adT K mc adC H.size)) (mm := mm) (fC := f_X11_sell FL (xs (i + 1)) (xs (i + 2))) (fM := f_X12_sell FL (xs (i + 1)) (xs (i + 2))) (fun v => sim_sell (fl := FL) T2.w98 (xs (i + 1)) (xs (i + 2)))
  refine lv_aload_n C.x C.b dL_law_493 rfl (lv_at hl 1 rfl) ?_
  refine l_arg (k := 1) C hX hbl hS hl hN (by omega) (by decide) dL_law_494 dL_law_495 dL_law_496 dL_law_497 dL_law_498 ?_
  refine l_arg (k := 2) C hX hbl hS hl hN (by omega) (by decide) dL_law_499 dL_law_500 dL_law_501 dL_law_502 dL_law_503 ?_
  refine l_calV (As := [.int (xs (i + 1)), .int (xs (i + 2))]) (rest := []) C g T1 hS mw_X11_sell mv_X11_sell kl_581 (by decide) ⟨Nat.le_of_ble_eq_true rfl, Nat.le_of_ble_eq_true rfl⟩ (lvC0 Nat.zero_lt_one) kC0 zc11 (c_X11_sell (l := l) (K := K) (ad := adT K mc adC H.size) e1) rfl hl.1 (by rw [T5]; rfl) (Nat.le_of_ble_eq_true rfl) dL_law_504 ⟨by show (_ : Nat) ≤ 600000; omega, by show (_ : Nat) ≤ 7302250; omega⟩ (fun H1 locs1 Z1 S1 F1 => ?_)
  have M1 := J.mid T4 Z1 F1
  refine lv_aload_n C.x C.b dL_law_507 rfl (lv_at hl 2 rfl) ?_
  refine l_arg (k := 1) C hX hbl S1 hl hN (by omega) (by decide) dL_law_508 dL_law_509 dL_law_510 dL_law_511 dL_law_512 ?_
  refine l_arg (k := 2) C hX hbl S1 hl hN (by omega) (by decide) dL_law_513 dL_law_514 dL_law_515 dL_law_516 dL_law_517 ?_
  refine l_calV (As := [.int (xs (i + 1)), .int (xs (i + 2))]) (rest := [.int r]) C g M1 S1 mw_X12_sell mv_X12_sell kl_1517 (by decide) ⟨Nat.le_of_ble_eq_true rfl, Nat.le_of_ble_eq_true rfl⟩ (lvM0 Nat.zero_lt_one) kM0 zc12 (c_X12_sell (l := l) (K := K) (ad := adM) e2) rfl hl.1 rfl (Nat.le_of_ble_eq_true rfl) dL_law_518 ⟨by show (_ : Nat) ≤ 600000; omega, by show (_ : Nat) ≤ 7302250; omega⟩ (fun H2 locs2 Z2 S2 F2 => ?_)
  refine lv_icmp_eq (tgt := 1880) C.x C.b dL_law_521 (by decide) (fun _ => ?_) (fun w => absurd rfl w)
  exact W.widen (by omega) (by omega) (kk _ _ _ _ _ (J.fin T4 T5 Z1 Z2 F2 e3) S2)
set_option maxRecDepth 100000 in
set_option maxHeartbeats 4000000 in
theorem k_case8 {p : Program} {l : Launch} {e : Env} {s : State} {m : MethodId} {args : Array Value} {below : List Frame} {meth : Method} {c : Code} {H : Heap} {locs : List Loc} {cells slots : Nat} {Q : State → Prop} {ls : Array Slot} {K : KG} {b N i n : Nat} {xs : Nat → Int32} {mc mm : Mem} {adC adM : Nat → Nat → Nat} (C : Cx p s m args meth c cL_law 4 "GlassPalaceLaw" ret) (g : LG K s) (hX : va_X b N xs s s.heap) (hbl : b < s.heap.size) (hN : N ≤ 3072) (hi : i + 6 ≤ N) (hn : n < 100000) (hc : cells + 1 ≤ 600000) (hsl : slots + 11 ≤ 7302250) (J : JJ K n mc mm adC adM H) (hS : va_S (lA s) s.heap H locs) (hl : lv_has ls 4 [(0, .ref b), (1, .ref (kB K)), (2, .ref (adM 0 0)), (3, .int (nI i))]) (kk : ∀ (mc2 mm2 : Mem) (adC2 : Nat → Nat → Nat) (H2 : Heap) (locs2 : List Loc), JJ K (n + 1) mc2 mm2 adC2 adM H2 → va_S (lA s) s.heap H2 locs2 → W p l e room_1 s m args below meth c H2 locs2 (cells + 1) (slots + 11) Q (F0 m 1880 ls [])) : W p l e room_1 s m args below meth c H locs cells slots Q (F0 m 526 ls []) := by
  obtain ⟨T1, T2, T3⟩ := turnC J.1 J.2.2.1
  have T4 := J.apart
  have T5 := J.home
  obtain ⟨r, mc1, mm1, e1, e2, e3⟩ := pairS (mc := mcT K mc (adT K mc adC H.size)) (mm := mm) (fC := f_X11_wants FL (xs (i + 1))) (fM := f_X12_wants FL (xs (i + 1))) (fun v => sim_wants (fl := FL) T2.w98 (xs (i + 1)))
  refine lv_aload_n C.x C.b dL_law_526 rfl (lv_at hl 1 rfl) ?_
  refine l_arg (k := 1) C hX hbl hS hl hN (by omega) (by decide) dL_law_527 dL_law_528 dL_law_529 dL_law_530 dL_law_531 ?_
  refine l_calV (As := [.int (xs (i + 1))]) (rest := []) C g T1 hS mw_X11_wants mv_X11_wants kl_585 (by decide) ⟨Nat.le_of_ble_eq_true rfl, Nat.le_of_ble_eq_true rfl⟩ (lvC0 Nat.zero_lt_one) kC0 zc11 (c_X11_wants (l := l) (K := K) (ad := adT K mc adC H.size) e1) rfl hl.1 (by rw [T5]; rfl) (Nat.le_of_ble_eq_true rfl) dL_law_532 ⟨by show (_ : Nat) ≤ 600000; omega, by show (_ : Nat) ≤ 7302250; omega⟩ (fun H1 locs1 Z1 S1 F1 => ?_)
  have M1 := J.mid T4 Z1 F1
  refine lv_aload_n C.x C.b dL_law_535 rfl (lv_at hl 2 rfl) ?_
  refine l_arg (k := 1) C hX hbl S1 hl hN (by omega) (by decide) dL_law_536 dL_law_537 dL_law_538 dL_law_539 dL_law_540 ?_
  refine l_calV (As := [.int (xs (i + 1))]) (rest := [.int r]) C g M1 S1 mw_X12_wants mv_X12_wants kl_1521 (by decide) ⟨Nat.le_of_ble_eq_true rfl, Nat.le_of_ble_eq_true rfl⟩ (lvM0 Nat.zero_lt_one) kM0 zc12 (c_X12_wants (l := l) (K := K) (ad := adM) e2) rfl hl.1 rfl (Nat.le_of_ble_eq_true rfl) dL_law_541 ⟨by show (_ : Nat) ≤ 600000; omega, by show (_ : Nat) ≤ 7302250; omega⟩ (fun H2 locs2 Z2 S2 F2 => ?_)
  refine lv_icmp_eq (tgt := 1880) C.x C.b dL_law_544 (by decide) (fun _ => ?_) (fun w => absurd rfl w)
  exact W.widen (by omega) (by omega) (kk _ _ _ _ _ (J.fin T4 T5 Z1 Z2 F2 e3) S2)
set_option maxRecDepth 100000 in
set_option maxHeartbeats 4000000 in
theorem k_case9 {p : Program} {l : Launch} {e : Env} {s : State} {m : MethodId} {args : Array Value} {below : List Frame} {meth : Method} {c : Code} {H : Heap} {locs : List Loc} {cells slots : Nat} {Q : State → Prop} {ls : Array Slot} {K : KG} {b N i n : Nat} {xs : Nat → Int32} {mc mm : Mem} {adC adM : Nat → Nat → Nat} (C : Cx p s m args meth c cL_law 4 "GlassPalaceLaw" ret) (g : LG K s) (hX : va_X b N xs s s.heap) (hbl : b < s.heap.size) (hN : N ≤ 3072) (hi : i + 6 ≤ N) (hn : n < 100000) (hc : cells + 1 ≤ 600000) (hsl : slots + 11 ≤ 7302250) (J : JJ K n mc mm adC adM H) (hS : va_S (lA s) s.heap H locs) (hl : lv_has ls 4 [(0, .ref b), (1, .ref (kB K)), (2, .ref (adM 0 0)), (3, .int (nI i))]) (kk : ∀ (mc2 mm2 : Mem) (adC2 : Nat → Nat → Nat) (H2 : Heap) (locs2 : List Loc), JJ K (n + 1) mc2 mm2 adC2 adM H2 → va_S (lA s) s.heap H2 locs2 → W p l e room_1 s m args below meth c H2 locs2 (cells + 1) (slots + 11) Q (F0 m 1880 ls [])) : W p l e room_1 s m args below meth c H locs cells slots Q (F0 m 549 ls []) := by
  obtain ⟨T1, T2, T3⟩ := turnC J.1 J.2.2.1
  have T4 := J.apart
  have T5 := J.home
  obtain ⟨r, mc1, mm1, e1, e2, e3⟩ := pairS (mc := mcT K mc (adT K mc adC H.size)) (mm := mm) (fC := f_X11_fit FL (xs (i + 1)) (xs (i + 2))) (fM := f_X12_fit FL (xs (i + 1)) (xs (i + 2))) (fun v => sim_fit T2.w98 (xs (i + 1)) (xs (i + 2)))
  refine lv_aload_n C.x C.b dL_law_549 rfl (lv_at hl 1 rfl) ?_
  refine l_arg (k := 1) C hX hbl hS hl hN (by omega) (by decide) dL_law_550 dL_law_551 dL_law_552 dL_law_553 dL_law_554 ?_
  refine l_arg (k := 2) C hX hbl hS hl hN (by omega) (by decide) dL_law_555 dL_law_556 dL_law_557 dL_law_558 dL_law_559 ?_
  refine l_calV (As := [.int (xs (i + 1)), .int (xs (i + 2))]) (rest := []) C g T1 hS mw_X11_fit mv_X11_fit kl_593 (by decide) ⟨Nat.le_of_ble_eq_true rfl, Nat.le_of_ble_eq_true rfl⟩ (lvC0 Nat.zero_lt_one) kC0 zc11 (c_X11_fit (l := l) (K := K) (ad := adT K mc adC H.size) e1) rfl hl.1 (by rw [T5]; rfl) (Nat.le_of_ble_eq_true rfl) dL_law_560 ⟨by show (_ : Nat) ≤ 600000; omega, by show (_ : Nat) ≤ 7302250; omega⟩ (fun H1 locs1 Z1 S1 F1 => ?_)
  have M1 := J.mid T4 Z1 F1
  refine lv_aload_n C.x C.b dL_law_563 rfl (lv_at hl 2 rfl) ?_
  refine l_arg (k := 1) C hX hbl S1 hl hN (by omega) (by decide) dL_law_564 dL_law_565 dL_law_566 dL_law_567 dL_law_568 ?_
  refine l_arg (k := 2) C hX hbl S1 hl hN (by omega) (by decide) dL_law_569 dL_law_570 dL_law_571 dL_law_572 dL_law_573 ?_
  refine l_calV (As := [.int (xs (i + 1)), .int (xs (i + 2))]) (rest := [.int r]) C g M1 S1 mw_X12_fit mv_X12_fit kl_1529 (by decide) ⟨Nat.le_of_ble_eq_true rfl, Nat.le_of_ble_eq_true rfl⟩ (lvM0 Nat.zero_lt_one) kM0 zc12 (c_X12_fit (l := l) (K := K) (ad := adM) e2) rfl hl.1 rfl (Nat.le_of_ble_eq_true rfl) dL_law_574 ⟨by show (_ : Nat) ≤ 600000; omega, by show (_ : Nat) ≤ 7302250; omega⟩ (fun H2 locs2 Z2 S2 F2 => ?_)
  refine lv_icmp_eq (tgt := 1880) C.x C.b dL_law_577 (by decide) (fun _ => ?_) (fun w => absurd rfl w)
  exact W.widen (by omega) (by omega) (kk _ _ _ _ _ (J.fin T4 T5 Z1 Z2 F2 e3) S2)
set_option maxRecDepth 100000 in
set_option maxHeartbeats 4000000 in
theorem k_case10 {p : Program} {l : Launch} {e : Env} {s : State} {m : MethodId} {args : Array Value} {below : List Frame} {meth : Method} {c : Code} {H : Heap} {locs : List Loc} {cells slots : Nat} {Q : State → Prop} {ls : Array Slot} {K : KG} {b N i n : Nat} {xs : Nat → Int32} {mc mm : Mem} {adC adM : Nat → Nat → Nat} (C : Cx p s m args meth c cL_law 4 "GlassPalaceLaw" ret) (g : LG K s) (hX : va_X b N xs s s.heap) (hbl : b < s.heap.size) (hN : N ≤ 3072) (hi : i + 6 ≤ N) (hn : n < 100000) (hc : cells + 1 ≤ 600000) (hsl : slots + 11 ≤ 7302250) (J : JJ K n mc mm adC adM H) (hS : va_S (lA s) s.heap H locs) (hl : lv_has ls 4 [(0, .ref b), (1, .ref (kB K)), (2, .ref (adM 0 0)), (3, .int (nI i))]) (kk : ∀ (mc2 mm2 : Mem) (adC2 : Nat → Nat → Nat) (H2 : Heap) (locs2 : List Loc), JJ K (n + 1) mc2 mm2 adC2 adM H2 → va_S (lA s) s.heap H2 locs2 → W p l e room_1 s m args below meth c H2 locs2 (cells + 1) (slots + 11) Q (F0 m 1880 ls [])) : W p l e room_1 s m args below meth c H locs cells slots Q (F0 m 582 ls []) := by
  obtain ⟨T1, T2, T3⟩ := turnC J.1 J.2.2.1
  have T4 := J.apart
  have T5 := J.home
  obtain ⟨r, mc1, mm1, e1, e2, e3⟩ := pairS (mc := mcT K mc (adT K mc adC H.size)) (mm := mm) (fC := f_X11_set FL (xs (i + 1)) (xs (i + 2))) (fM := f_X12_set FL (xs (i + 1)) (xs (i + 2))) (fun v => sim_set T2.w98 (xs (i + 1)) (xs (i + 2)))
  refine lv_aload_n C.x C.b dL_law_582 rfl (lv_at hl 1 rfl) ?_
  refine l_arg (k := 1) C hX hbl hS hl hN (by omega) (by decide) dL_law_583 dL_law_584 dL_law_585 dL_law_586 dL_law_587 ?_
  refine l_arg (k := 2) C hX hbl hS hl hN (by omega) (by decide) dL_law_588 dL_law_589 dL_law_590 dL_law_591 dL_law_592 ?_
  refine l_calV (As := [.int (xs (i + 1)), .int (xs (i + 2))]) (rest := []) C g T1 hS mw_X11_set mv_X11_set kl_626 (by decide) ⟨Nat.le_of_ble_eq_true rfl, Nat.le_of_ble_eq_true rfl⟩ (lvC0 Nat.zero_lt_one) kC0 zc11 (c_X11_set (l := l) (K := K) (ad := adT K mc adC H.size) e1) rfl hl.1 (by rw [T5]; rfl) (Nat.le_of_ble_eq_true rfl) dL_law_593 ⟨by show (_ : Nat) ≤ 600000; omega, by show (_ : Nat) ≤ 7302250; omega⟩ (fun H1 locs1 Z1 S1 F1 => ?_)
  have M1 := J.mid T4 Z1 F1
  refine lv_aload_n C.x C.b dL_law_596 rfl (lv_at hl 2 rfl) ?_
  refine l_arg (k := 1) C hX hbl S1 hl hN (by omega) (by decide) dL_law_597 dL_law_598 dL_law_599 dL_law_600 dL_law_601 ?_
  refine l_arg (k := 2) C hX hbl S1 hl hN (by omega) (by decide) dL_law_602 dL_law_603 dL_law_604 dL_law_605 dL_law_606 ?_
  refine l_calV (As := [.int (xs (i + 1)), .int (xs (i + 2))]) (rest := [.int r]) C g M1 S1 mw_X12_set mv_X12_set kl_1541 (by decide) ⟨Nat.le_of_ble_eq_true rfl, Nat.le_of_ble_eq_true rfl⟩ (lvM0 Nat.zero_lt_one) kM0 zc12 (c_X12_set (l := l) (K := K) (ad := adM) e2) rfl hl.1 rfl (Nat.le_of_ble_eq_true rfl) dL_law_607 ⟨by show (_ : Nat) ≤ 600000; omega, by show (_ : Nat) ≤ 7302250; omega⟩ (fun H2 locs2 Z2 S2 F2 => ?_)
  refine lv_icmp_eq (tgt := 1880) C.x C.b dL_law_610 (by decide) (fun _ => ?_) (fun w => absurd rfl w)
  exact W.widen (by omega) (by omega) (kk _ _ _ _ _ (J.fin T4 T5 Z1 Z2 F2 e3) S2)
set_option maxRecDepth 100000 in
set_option maxHeartbeats 4000000 in
theorem k_case11 {p : Program} {l : Launch} {e : Env} {s : State} {m : MethodId} {args : Array Value} {below : List Frame} {meth : Method} {c : Code} {H : Heap} {locs : List Loc} {cells slots : Nat} {Q : State → Prop} {ls : Array Slot} {K : KG} {b N i n : Nat} {xs : Nat → Int32} {mc mm : Mem} {adC adM : Nat → Nat → Nat} (C : Cx p s m args meth c cL_law 4 "GlassPalaceLaw" ret) (g : LG K s) (hX : va_X b N xs s s.heap) (hbl : b < s.heap.size) (hN : N ≤ 3072) (hi : i + 6 ≤ N) (hn : n < 100000) (hc : cells + 1 ≤ 600000) (hsl : slots + 11 ≤ 7302250) (J : JJ K n mc mm adC adM H) (hS : va_S (lA s) s.heap H locs) (hl : lv_has ls 4 [(0, .ref b), (1, .ref (kB K)), (2, .ref (adM 0 0)), (3, .int (nI i))]) (kk : ∀ (mc2 mm2 : Mem) (adC2 : Nat → Nat → Nat) (H2 : Heap) (locs2 : List Loc), JJ K (n + 1) mc2 mm2 adC2 adM H2 → va_S (lA s) s.heap H2 locs2 → W p l e room_1 s m args below meth c H2 locs2 (cells + 1) (slots + 11) Q (F0 m 1880 ls [])) : W p l e room_1 s m args below meth c H locs cells slots Q (F0 m 615 ls []) := by
  obtain ⟨T1, T2, T3⟩ := turnC J.1 J.2.2.1
  have T4 := J.apart
  have T5 := J.home
  obtain ⟨r, mc1, mm1, e1, e2, e3⟩ := pairS (mc := mcT K mc (adT K mc adC H.size)) (mm := mm) (fC := f_X11_at FL (xs (i + 1)) (xs (i + 2))) (fM := f_X12_at FL (xs (i + 1)) (xs (i + 2))) (fun v => sim_at (fl := FL) T2.w98 (xs (i + 1)) (xs (i + 2)))
  refine lv_aload_n C.x C.b dL_law_615 rfl (lv_at hl 1 rfl) ?_
  refine l_arg (k := 1) C hX hbl hS hl hN (by omega) (by decide) dL_law_616 dL_law_617 dL_law_618 dL_law_619 dL_law_620 ?_
  refine l_arg (k := 2) C hX hbl hS hl hN (by omega) (by decide) dL_law_621 dL_law_622 dL_law_623 dL_law_624 dL_law_625 ?_
  refine l_calV (As := [.int (xs (i + 1)), .int (xs (i + 2))]) (rest := []) C g T1 hS mw_X11_at mv_X11_at kl_636 (by decide) ⟨Nat.le_of_ble_eq_true rfl, Nat.le_of_ble_eq_true rfl⟩ (lvC0 Nat.zero_lt_one) kC0 zc11 (c_X11_at (l := l) (K := K) (ad := adT K mc adC H.size) e1) rfl hl.1 (by rw [T5]; rfl) (Nat.le_of_ble_eq_true rfl) dL_law_626 ⟨by show (_ : Nat) ≤ 600000; omega, by show (_ : Nat) ≤ 7302250; omega⟩ (fun H1 locs1 Z1 S1 F1 => ?_)
  have M1 := J.mid T4 Z1 F1
  refine lv_aload_n C.x C.b dL_law_629 rfl (lv_at hl 2 rfl) ?_
  refine l_arg (k := 1) C hX hbl S1 hl hN (by omega) (by decide) dL_law_630 dL_law_631 dL_law_632 dL_law_633 dL_law_634 ?_
  refine l_arg (k := 2) C hX hbl S1 hl hN (by omega) (by decide) dL_law_635 dL_law_636 dL_law_637 dL_law_638 dL_law_639 ?_
  refine l_calV (As := [.int (xs (i + 1)), .int (xs (i + 2))]) (rest := [.int r]) C g M1 S1 mw_X12_at mv_X12_at kl_1549 (by decide) ⟨Nat.le_of_ble_eq_true rfl, Nat.le_of_ble_eq_true rfl⟩ (lvM0 Nat.zero_lt_one) kM0 zc12 (c_X12_at (l := l) (K := K) (ad := adM) e2) rfl hl.1 rfl (Nat.le_of_ble_eq_true rfl) dL_law_640 ⟨by show (_ : Nat) ≤ 600000; omega, by show (_ : Nat) ≤ 7302250; omega⟩ (fun H2 locs2 Z2 S2 F2 => ?_)
  refine lv_icmp_eq (tgt := 1880) C.x C.b dL_law_643 (by decide) (fun _ => ?_) (fun w => absurd rfl w)
  exact W.widen (by omega) (by omega) (kk _ _ _ _ _ (J.fin T4 T5 Z1 Z2 F2 e3) S2)
