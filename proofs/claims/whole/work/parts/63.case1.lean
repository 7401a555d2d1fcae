set_option maxHeartbeats 4000000 in
set_option maxRecDepth 100000 in
theorem lw_k_event {p : Program} {l : Launch} {e : Env} {s : State} {m : MethodId} {below : List Frame} {meth : Method} {c : Code} {Q : State → Prop} {G : GG} {a ad : Nat → Nat} {b L : Nat} {xs : Nat → Int32} (hL : L ≤ 3072) (C0 : lw_At p s m meth c b L xs) (hK : KK G s) (hD : Dj ad) (hd : ∀ i, i ≤ 18 → s.heap.size ≤ ad i) {i : Int} (h0 : 0 ≤ i) (h1 : i + 6 ≤ (L : Int)) {H : Heap} {locs : List Loc} {cells slots : Nat} (hf : cells + 40 ≤ 600000 ∧ slots + 160 ≤ 7302250) (hW : LW G s a ad H locs) {ls : Array Slot} (hl : lv_has ls 4 [(0, .ref b), (1, .ref (a 0)), (2, .ref (ad 0)), (3, .int (J i))]) (kk : ∀ (H1 : Heap) (locs1 : List Loc), LW G s a ad H1 locs1 → W p l e room_1 s m #[Value.ref b] below meth c H1 locs1 (cells + 40) (slots + 160) Q (F0 m 821 ls [])) : W p l e room_1 s m #[Value.ref b] below meth c H locs cells slots Q (F0 m 305 ls []) := by
  obtain ⟨hx, hb, hr, hml, hown, hts0, hX, hbl, hlocks, hgv⟩ := C0
  have hts : ∀ w ∈ wsL_law, w.before #[Value.ref b] s = true := fun w h => hts0 w (wsL_law_in w h)
  have hown : s.vm.findClass RL = some m.cls := hown
  obtain ⟨hS, V, f, N, u, ys, fo, am, zs, hR, hM, hZ, hO⟩ := hW
  have hV : Iv V := hR.1.1
  have hn := LA.new hM hS.1
  refine lv_aload_n hx hb dL_law_305 rfl (lv_at hl 1 rfl) ?_
  refine lv_aload_n hx hb dL_law_306 rfl (lv_at hl 0 rfl) ?_
  refine lv_iload_n hx hb dL_law_307 rfl (lv_at hl 3 rfl) ?_
  refine j_const hx hb dL_law_308 ?_
  refine j_add hx hb dL_law_309 ?_
  refine j_sld hx hb hX hbl hS hL (by omega) (by omega) dL_law_310 ?_
  refine lv_aload_n hx hb dL_law_311 rfl (lv_at hl 0 rfl) ?_
  refine lv_iload_n hx hb dL_law_312 rfl (lv_at hl 3 rfl) ?_
  refine j_const hx hb dL_law_313 ?_
  refine j_add hx hb dL_law_314 ?_
  refine j_sld hx hb hX hbl hS hL (by omega) (by omega) dL_law_315 ?_
  refine lv_aload_n hx hb dL_law_316 rfl (lv_at hl 0 rfl) ?_
  refine lv_iload_n hx hb dL_law_317 rfl (lv_at hl 3 rfl) ?_
  refine j_const hx hb dL_law_318 ?_
  refine j_add hx hb dL_law_319 ?_
  refine j_sld hx hb hX hbl hS hL (by omega) (by omega) dL_law_320 ?_
  refine lv_aload_n hx hb dL_law_321 rfl (lv_at hl 0 rfl) ?_
  refine lv_iload_n hx hb dL_law_322 rfl (lv_at hl 3 rfl) ?_
  refine j_const hx hb dL_law_323 ?_
  refine j_add hx hb dL_law_324 ?_
  refine j_sld hx hb hX hbl hS hL (by omega) (by omega) dL_law_325 ?_
  refine e_V (A := NewS s) (ci := 8) (b := a 0) (As := [.int (J (sx xs (i + 1))), .int (J (sx xs (i + 2))), .int (J (sx xs (i + 3))), .int (J (sx xs (i + 4)))]) (rest := []) hx hb hml hown hts hK hl.1 (c_X8_event l G (LA s ad) a f N u ys V (sx xs (i + 1)) (sx xs (i + 2)) (sx xs (i + 3)) (sx xs (i + 4)) H.size hO hn (sx_rng _ _) (sx_rng _ _) (sx_rng _ _) (sx_rng _ _)) (cwV 4 hts gL_law_X8_event rfl rfl rfl (by decide +kernel) ⟨Nat.le_of_ble_eq_true rfl, Nat.le_of_ble_eq_true rfl⟩) hR.1.2.1 rfl ⟨rfl, hR⟩ rfl rfl (Nat.le_of_ble_eq_true rfl) dL_law_326 ⟨by show cells + 1 ≤ 600000; omega, by show slots + 4 ≤ 7302250; omega⟩ hS.2.2 (fun x hx => hx.1) (fun H1 lo1 hp1 hl1 => ?_)
  obtain ⟨hS1, hM1, f1, N1, u1, ys1, hR1, hO1⟩ := lw_mid hd hS hM hp1 hl1
  refine lv_aload_n hx hb dL_law_329 rfl (lv_at hl 2 rfl) ?_
  refine lv_aload_n hx hb dL_law_330 rfl (lv_at hl 0 rfl) ?_
  refine lv_iload_n hx hb dL_law_331 rfl (lv_at hl 3 rfl) ?_
  refine j_const hx hb dL_law_332 ?_
  refine j_add hx hb dL_law_333 ?_
  refine j_sld hx hb hX hbl hS1 hL (by omega) (by omega) dL_law_334 ?_
  refine lv_aload_n hx hb dL_law_335 rfl (lv_at hl 0 rfl) ?_
  refine lv_iload_n hx hb dL_law_336 rfl (lv_at hl 3 rfl) ?_
  refine j_const hx hb dL_law_337 ?_
  refine j_add hx hb dL_law_338 ?_
  refine j_sld hx hb hX hbl hS1 hL (by omega) (by omega) dL_law_339 ?_
  refine lv_aload_n hx hb dL_law_340 rfl (lv_at hl 0 rfl) ?_
  refine lv_iload_n hx hb dL_law_341 rfl (lv_at hl 3 rfl) ?_
  refine j_const hx hb dL_law_342 ?_
  refine j_add hx hb dL_law_343 ?_
  refine j_sld hx hb hX hbl hS1 hL (by omega) (by omega) dL_law_344 ?_
  refine lv_aload_n hx hb dL_law_345 rfl (lv_at hl 0 rfl) ?_
  refine lv_iload_n hx hb dL_law_346 rfl (lv_at hl 3 rfl) ?_
  refine j_const hx hb dL_law_347 ?_
  refine j_add hx hb dL_law_348 ?_
  refine j_sld hx hb hX hbl hS1 hL (by omega) (by omega) dL_law_349 ?_
  refine e_V (A := NewS s) (ci := 9) (b := ad 0) (As := [.int (J (sx xs (i + 1))), .int (J (sx xs (i + 2))), .int (J (sx xs (i + 3))), .int (J (sx xs (i + 4)))]) (rest := [_]) hx hb hml hown hts hK hl.1 (c_X9_event l G ad V fo am zs (sx xs (i + 1)) (sx xs (i + 2)) (sx xs (i + 3)) (sx xs (i + 4)) H1.size hV hD (sx_rng _ _) (sx_rng _ _) (sx_rng _ _) (sx_rng _ _)) (cwV 4 hts gL_law_X9_event rfl rfl rfl (by decide +kernel) ⟨Nat.le_of_ble_eq_true rfl, Nat.le_of_ble_eq_true rfl⟩) hM1.1 rfl ⟨rfl, hM1⟩ rfl rfl (Nat.le_of_ble_eq_true rfl) dL_law_350 ⟨by show cells + 1 + 0 ≤ 600000; omega, by show slots + 4 + 0 ≤ 7302250; omega⟩ hS1.2.2 (fun x hx => hx.elim (fun ⟨j, hj, z⟩ => by rw [z]; exact hd j hj) (fun z => Nat.le_trans hS1.1 z)) (fun H2 lo2 hp2 hl2 => ?_)
  refine j_icmpT (tgt := 821) hx hb rfl dL_law_353 (by decide) ?_
  refine W.widen (k := cells + 40) (n := slots + 160) (by omega) (by omega) ?_
  exact kk H2 lo2 (lw_fin hd hS1 hR1 hO1 (hZ.ad _ (fun q => q.1.1.2)) hp2 hl2)
set_option maxHeartbeats 4000000 in
set_option maxRecDepth 100000 in
theorem lw_k_appeal {p : Program} {l : Launch} {e : Env} {s : State} {m : MethodId} {below : List Frame} {meth : Method} {c : Code} {Q : State → Prop} {G : GG} {a ad : Nat → Nat} {b L : Nat} {xs : Nat → Int32} (hL : L ≤ 3072) (C0 : lw_At p s m meth c b L xs) (hK : KK G s) (hD : Dj ad) (hd : ∀ i, i ≤ 18 → s.heap.size ≤ ad i) {i : Int} (h0 : 0 ≤ i) (h1 : i + 6 ≤ (L : Int)) {H : Heap} {locs : List Loc} {cells slots : Nat} (hf : cells + 40 ≤ 600000 ∧ slots + 160 ≤ 7302250) (hW : LW G s a ad H locs) {ls : Array Slot} (hl : lv_has ls 4 [(0, .ref b), (1, .ref (a 0)), (2, .ref (ad 0)), (3, .int (J i))]) (kk : ∀ (H1 : Heap) (locs1 : List Loc), LW G s a ad H1 locs1 → W p l e room_1 s m #[Value.ref b] below meth c H1 locs1 (cells + 40) (slots + 160) Q (F0 m 821 ls [])) : W p l e room_1 s m #[Value.ref b] below meth c H locs cells slots Q (F0 m 358 ls []) := by
  obtain ⟨hx, hb, hr, hml, hown, hts0, hX, hbl, hlocks, hgv⟩ := C0
  have hts : ∀ w ∈ wsL_law, w.before #[Value.ref b] s = true := fun w h => hts0 w (wsL_law_in w h)
  have hown : s.vm.findClass RL = some m.cls := hown
  obtain ⟨hS, V, f, N, u, ys, fo, am, zs, hR, hM, hZ, hO⟩ := hW
  have hV : Iv V := hR.1.1
  have hn := LA.new hM hS.1
  refine lv_aload_n hx hb dL_law_358 rfl (lv_at hl 1 rfl) ?_
  refine lv_aload_n hx hb dL_law_359 rfl (lv_at hl 0 rfl) ?_
  refine lv_iload_n hx hb dL_law_360 rfl (lv_at hl 3 rfl) ?_
  refine j_const hx hb dL_law_361 ?_
  refine j_add hx hb dL_law_362 ?_
  refine j_sld hx hb hX hbl hS hL (by omega) (by omega) dL_law_363 ?_
  refine lv_aload_n hx hb dL_law_364 rfl (lv_at hl 0 rfl) ?_
  refine lv_iload_n hx hb dL_law_365 rfl (lv_at hl 3 rfl) ?_
  refine j_const hx hb dL_law_366 ?_
  refine j_add hx hb dL_law_367 ?_
  refine j_sld hx hb hX hbl hS hL (by omega) (by omega) dL_law_368 ?_
  refine lv_aload_n hx hb dL_law_369 rfl (lv_at hl 0 rfl) ?_
  refine lv_iload_n hx hb dL_law_370 rfl (lv_at hl 3 rfl) ?_
  refine j_const hx hb dL_law_371 ?_
  refine j_add hx hb dL_law_372 ?_
  refine j_sld hx hb hX hbl hS hL (by omega) (by omega) dL_law_373 ?_
  refine lv_aload_n hx hb dL_law_374 rfl (lv_at hl 0 rfl) ?_
  refine lv_iload_n hx hb dL_law_375 rfl (lv_at hl 3 rfl) ?_
  refine j_const hx hb dL_law_376 ?_
  refine j_add hx hb dL_law_377 ?_
  refine j_sld hx hb hX hbl hS hL (by omega) (by omega) dL_law_378 ?_
  refine j_eq0 (tgt := 386) hx hb (sx_rng _ _).1 (sx_rng _ _).2 dL_law_379 (by decide) (fun q4 => ?_) (fun q4 => ?_)
  · refine j_const hx hb dL_law_386 ?_
    refine e_V (A := NewS s) (ci := 8) (b := a 0) (As := [.int (J (sx xs (i + 1))), .int (J (sx xs (i + 2))), .int (J (sx xs (i + 3))), .int (J 0)]) (rest := []) hx hb hml hown hts hK hl.1 (c_X8_appeal l G (LA s ad) a f N u ys V (sx xs (i + 1)) (sx xs (i + 2)) (sx xs (i + 3)) 0 H.size hO hn (sx_rng _ _) (sx_rng _ _) (sx_rng _ _) (by omega)) (cwV 4 hts gL_law_X8_appeal rfl rfl rfl (by decide +kernel) ⟨Nat.le_of_ble_eq_true rfl, Nat.le_of_ble_eq_true rfl⟩) hR.1.2.1 rfl ⟨rfl, hR⟩ rfl rfl (Nat.le_of_ble_eq_true rfl) dL_law_387 ⟨by show cells + 40 ≤ 600000; omega, by show slots + 160 ≤ 7302250; omega⟩ hS.2.2 (fun x hx => hx.1) (fun H1 lo1 hp1 hl1 => ?_)
    obtain ⟨hS1, hM1, f1, N1, u1, ys1, hR1, hO1⟩ := lw_mid hd hS hM hp1 hl1
    refine lv_aload_n hx hb dL_law_390 rfl (lv_at hl 2 rfl) ?_
    refine lv_aload_n hx hb dL_law_391 rfl (lv_at hl 0 rfl) ?_
    refine lv_iload_n hx hb dL_law_392 rfl (lv_at hl 3 rfl) ?_
    refine j_const hx hb dL_law_393 ?_
    refine j_add hx hb dL_law_394 ?_
    refine j_sld hx hb hX hbl hS1 hL (by omega) (by omega) dL_law_395 ?_
    refine lv_aload_n hx hb dL_law_396 rfl (lv_at hl 0 rfl) ?_
    refine lv_iload_n hx hb dL_law_397 rfl (lv_at hl 3 rfl) ?_
    refine j_const hx hb dL_law_398 ?_
    refine j_add hx hb dL_law_399 ?_
    refine j_sld hx hb hX hbl hS1 hL (by omega) (by omega) dL_law_400 ?_
    refine lv_aload_n hx hb dL_law_401 rfl (lv_at hl 0 rfl) ?_
    refine lv_iload_n hx hb dL_law_402 rfl (lv_at hl 3 rfl) ?_
    refine j_const hx hb dL_law_403 ?_
    refine j_add hx hb dL_law_404 ?_
    refine j_sld hx hb hX hbl hS1 hL (by omega) (by omega) dL_law_405 ?_
    refine lv_aload_n hx hb dL_law_406 rfl (lv_at hl 0 rfl) ?_
    refine lv_iload_n hx hb dL_law_407 rfl (lv_at hl 3 rfl) ?_
    refine j_const hx hb dL_law_408 ?_
    refine j_add hx hb dL_law_409 ?_
    refine j_sld hx hb hX hbl hS1 hL (by omega) (by omega) dL_law_410 ?_
    refine j_eq0 (tgt := 418) hx hb (sx_rng _ _).1 (sx_rng _ _).2 dL_law_411 (by decide) (fun _ => ?_) (fun z => absurd q4 z)
    refine j_const hx hb dL_law_418 ?_
    refine e_V (A := NewS s) (ci := 9) (b := ad 0) (As := [.int (J (sx xs (i + 1))), .int (J (sx xs (i + 2))), .int (J (sx xs (i + 3))), .int (J 0)]) (rest := [_]) hx hb hml hown hts hK hl.1 (c_X9_appeal l G ad V fo am zs (sx xs (i + 1)) (sx xs (i + 2)) (sx xs (i + 3)) 0 H1.size hV hD (sx_rng _ _) (sx_rng _ _) (sx_rng _ _) (by omega)) (cwV 4 hts gL_law_X9_appeal rfl rfl rfl (by decide +kernel) ⟨Nat.le_of_ble_eq_true rfl, Nat.le_of_ble_eq_true rfl⟩) hM1.1 rfl ⟨rfl, hM1⟩ rfl rfl (Nat.le_of_ble_eq_true rfl) dL_law_419 ⟨by show cells + 40 + 0 ≤ 600000; omega, by show slots + 160 + 0 ≤ 7302250; omega⟩ hS1.2.2 (fun x hx => hx.elim (fun ⟨j, hj, z⟩ => by rw [z]; exact hd j hj) (fun z => Nat.le_trans hS1.1 z)) (fun H2 lo2 hp2 hl2 => ?_)
    refine j_icmpT (tgt := 821) hx hb rfl dL_law_422 (by decide) ?_
    refine W.widen (k := cells + 40) (n := slots + 160) (by omega) (by omega) ?_
    exact kk H2 lo2 (lw_fin hd hS1 hR1 hO1 (hZ.ap hV) hp2 hl2)
  · refine j_const hx hb dL_law_382 ?_
    refine lv_goto (tgt := 387) hx hb dL_law_383 (by decide) ?_
    refine e_V (A := NewS s) (ci := 8) (b := a 0) (As := [.int (J (sx xs (i + 1))), .int (J (sx xs (i + 2))), .int (J (sx xs (i + 3))), .int (J 1)]) (rest := []) hx hb hml hown hts hK hl.1 (c_X8_appeal l G (LA s ad) a f N u ys V (sx xs (i + 1)) (sx xs (i + 2)) (sx xs (i + 3)) 1 H.size hO hn (sx_rng _ _) (sx_rng _ _) (sx_rng _ _) (by omega)) (cwV 4 hts gL_law_X8_appeal rfl rfl rfl (by decide +kernel) ⟨Nat.le_of_ble_eq_true rfl, Nat.le_of_ble_eq_true rfl⟩) hR.1.2.1 rfl ⟨rfl, hR⟩ rfl rfl (Nat.le_of_ble_eq_true rfl) dL_law_387 ⟨by show cells + 40 ≤ 600000; omega, by show slots + 160 ≤ 7302250; omega⟩ hS.2.2 (fun x hx => hx.1) (fun H1 lo1 hp1 hl1 => ?_)
    obtain ⟨hS1, hM1, f1, N1, u1, ys1, hR1, hO1⟩ := lw_mid hd hS hM hp1 hl1
    refine lv_aload_n hx hb dL_law_390 rfl (lv_at hl 2 rfl) ?_
    refine lv_aload_n hx hb dL_law_391 rfl (lv_at hl 0 rfl) ?_
    refine lv_iload_n hx hb dL_law_392 rfl (lv_at hl 3 rfl) ?_
    refine j_const hx hb dL_law_393 ?_
    refine j_add hx hb dL_law_394 ?_
    refine j_sld hx hb hX hbl hS1 hL (by omega) (by omega) dL_law_395 ?_
    refine lv_aload_n hx hb dL_law_396 rfl (lv_at hl 0 rfl) ?_
    refine lv_iload_n hx hb dL_law_397 rfl (lv_at hl 3 rfl) ?_
    refine j_const hx hb dL_law_398 ?_
    refine j_add hx hb dL_law_399 ?_
    refine j_sld hx hb hX hbl hS1 hL (by omega) (by omega) dL_law_400 ?_
    refine lv_aload_n hx hb dL_law_401 rfl (lv_at hl 0 rfl) ?_
    refine lv_iload_n hx hb dL_law_402 rfl (lv_at hl 3 rfl) ?_
    refine j_const hx hb dL_law_403 ?_
    refine j_add hx hb dL_law_404 ?_
    refine j_sld hx hb hX hbl hS1 hL (by omega) (by omega) dL_law_405 ?_
    refine lv_aload_n hx hb dL_law_406 rfl (lv_at hl 0 rfl) ?_
    refine lv_iload_n hx hb dL_law_407 rfl (lv_at hl 3 rfl) ?_
    refine j_const hx hb dL_law_408 ?_
    refine j_add hx hb dL_law_409 ?_
    refine j_sld hx hb hX hbl hS1 hL (by omega) (by omega) dL_law_410 ?_
    refine j_eq0 (tgt := 418) hx hb (sx_rng _ _).1 (sx_rng _ _).2 dL_law_411 (by decide) (fun z => absurd z q4) (fun _ => ?_)
    refine j_const hx hb dL_law_414 ?_
    refine lv_goto (tgt := 419) hx hb dL_law_415 (by decide) ?_
    refine e_V (A := NewS s) (ci := 9) (b := ad 0) (As := [.int (J (sx xs (i + 1))), .int (J (sx xs (i + 2))), .int (J (sx xs (i + 3))), .int (J 1)]) (rest := [_]) hx hb hml hown hts hK hl.1 (c_X9_appeal l G ad V fo am zs (sx xs (i + 1)) (sx xs (i + 2)) (sx xs (i + 3)) 1 H1.size hV hD (sx_rng _ _) (sx_rng _ _) (sx_rng _ _) (by omega)) (cwV 4 hts gL_law_X9_appeal rfl rfl rfl (by decide +kernel) ⟨Nat.le_of_ble_eq_true rfl, Nat.le_of_ble_eq_true rfl⟩) hM1.1 rfl ⟨rfl, hM1⟩ rfl rfl (Nat.le_of_ble_eq_true rfl) dL_law_419 ⟨by show cells + 40 + 0 ≤ 600000; omega, by show slots + 160 + 0 ≤ 7302250; omega⟩ hS1.2.2 (fun x hx => hx.elim (fun ⟨j, hj, z⟩ => by rw [z]; exact hd j hj) (fun z => Nat.le_trans hS1.1 z)) (fun H2 lo2 hp2 hl2 => ?_)
    refine j_icmpT (tgt := 821) hx hb rfl dL_law_422 (by decide) ?_
    refine W.widen (k := cells + 40) (n := slots + 160) (by omega) (by omega) ?_
    exact kk H2 lo2 (lw_fin hd hS1 hR1 hO1 (hZ.ap hV) hp2 hl2)
set_option maxHeartbeats 4000000 in
set_option maxRecDepth 100000 in
theorem lw_k_strike {p : Program} {l : Launch} {e : Env} {s : State} {m : MethodId} {below : List Frame} {meth : Method} {c : Code} {Q : State → Prop} {G : GG} {a ad : Nat → Nat} {b L : Nat} {xs : Nat → Int32} (hL : L ≤ 3072) (C0 : lw_At p s m meth c b L xs) (hK : KK G s) (hD : Dj ad) (hd : ∀ i, i ≤ 18 → s.heap.size ≤ ad i) {i : Int} (h0 : 0 ≤ i) (h1 : i + 6 ≤ (L : Int)) {H : Heap} {locs : List Loc} {cells slots : Nat} (hf : cells + 40 ≤ 600000 ∧ slots + 160 ≤ 7302250) (hW : LW G s a ad H locs) {ls : Array Slot} (hl : lv_has ls 4 [(0, .ref b), (1, .ref (a 0)), (2, .ref (ad 0)), (3, .int (J i))]) (kk : ∀ (H1 : Heap) (locs1 : List Loc), LW G s a ad H1 locs1 → W p l e room_1 s m #[Value.ref b] below meth c H1 locs1 (cells + 40) (slots + 160) Q (F0 m 821 ls [])) : W p l e room_1 s m #[Value.ref b] below meth c H locs cells slots Q (F0 m 427 ls []) := by
  obtain ⟨hx, hb, hr, hml, hown, hts0, hX, hbl, hlocks, hgv⟩ := C0
  have hts : ∀ w ∈ wsL_law, w.before #[Value.ref b] s = true := fun w h => hts0 w (wsL_law_in w h)
  have hown : s.vm.findClass RL = some m.cls := hown
  obtain ⟨hS, V, f, N, u, ys, fo, am, zs, hR, hM, hZ, hO⟩ := hW
  have hV : Iv V := hR.1.1
  have hn := LA.new hM hS.1
  refine lv_aload_n hx hb dL_law_427 rfl (lv_at hl 1 rfl) ?_
  refine lv_aload_n hx hb dL_law_428 rfl (lv_at hl 0 rfl) ?_
  refine lv_iload_n hx hb dL_law_429 rfl (lv_at hl 3 rfl) ?_
  refine j_const hx hb dL_law_430 ?_
  refine j_add hx hb dL_law_431 ?_
  refine j_sld hx hb hX hbl hS hL (by omega) (by omega) dL_law_432 ?_
  refine e_V (A := NewS s) (ci := 8) (b := a 0) (As := [.int (J (sx xs (i + 1)))]) (rest := []) hx hb hml hown hts hK hl.1 (c_X8_strike l G (LA s ad) a f N u ys V (sx xs (i + 1)) H.size hO hn (sx_rng _ _)) (cwV 1 hts gL_law_X8_strike rfl rfl rfl (by decide +kernel) ⟨Nat.le_of_ble_eq_true rfl, Nat.le_of_ble_eq_true rfl⟩) hR.1.2.1 rfl ⟨rfl, hR⟩ rfl rfl (Nat.le_of_ble_eq_true rfl) dL_law_433 ⟨by show cells + 0 ≤ 600000; omega, by show slots + 0 ≤ 7302250; omega⟩ hS.2.2 (fun x hx => hx.1) (fun H1 lo1 hp1 hl1 => ?_)
  obtain ⟨hS1, hM1, f1, N1, u1, ys1, hR1, hO1⟩ := lw_mid hd hS hM hp1 hl1
  refine lv_aload_n hx hb dL_law_436 rfl (lv_at hl 2 rfl) ?_
  refine lv_aload_n hx hb dL_law_437 rfl (lv_at hl 0 rfl) ?_
  refine lv_iload_n hx hb dL_law_438 rfl (lv_at hl 3 rfl) ?_
  refine j_const hx hb dL_law_439 ?_
  refine j_add hx hb dL_law_440 ?_
  refine j_sld hx hb hX hbl hS1 hL (by omega) (by omega) dL_law_441 ?_
  refine e_V (A := NewS s) (ci := 9) (b := ad 0) (As := [.int (J (sx xs (i + 1)))]) (rest := [_]) hx hb hml hown hts hK hl.1 (c_X9_strike l G ad V fo am zs (sx xs (i + 1)) H1.size hV hD (sx_rng _ _)) (cwV 1 hts gL_law_X9_strike rfl rfl rfl (by decide +kernel) ⟨Nat.le_of_ble_eq_true rfl, Nat.le_of_ble_eq_true rfl⟩) hM1.1 rfl ⟨rfl, hM1⟩ rfl rfl (Nat.le_of_ble_eq_true rfl) dL_law_442 ⟨by show cells + 0 + 0 ≤ 600000; omega, by show slots + 0 + 0 ≤ 7302250; omega⟩ hS1.2.2 (fun x hx => hx.elim (fun ⟨j, hj, z⟩ => by rw [z]; exact hd j hj) (fun z => Nat.le_trans hS1.1 z)) (fun H2 lo2 hp2 hl2 => ?_)
  refine j_icmpT (tgt := 821) hx hb rfl dL_law_445 (by decide) ?_
  refine W.widen (k := cells + 40) (n := slots + 160) (by omega) (by omega) ?_
  exact kk H2 lo2 (lw_fin hd hS1 hR1 hO1 (hZ.sk _ (fun q => q.1.2)) hp2 hl2)
set_option maxHeartbeats 4000000 in
set_option maxRecDepth 100000 in
theorem lw_k_on {p : Program} {l : Launch} {e : Env} {s : State} {m : MethodId} {below : List Frame} {meth : Method} {c : Code} {Q : State → Prop} {G : GG} {a ad : Nat → Nat} {b L : Nat} {xs : Nat → Int32} (hL : L ≤ 3072) (C0 : lw_At p s m meth c b L xs) (hK : KK G s) (hD : Dj ad) (hd : ∀ i, i ≤ 18 → s.heap.size ≤ ad i) {i : Int} (h0 : 0 ≤ i) (h1 : i + 6 ≤ (L : Int)) {H : Heap} {locs : List Loc} {cells slots : Nat} (hf : cells + 40 ≤ 600000 ∧ slots + 160 ≤ 7302250) (hW : LW G s a ad H locs) {ls : Array Slot} (hl : lv_has ls 4 [(0, .ref b), (1, .ref (a 0)), (2, .ref (ad 0)), (3, .int (J i))]) (kk : ∀ (H1 : Heap) (locs1 : List Loc), LW G s a ad H1 locs1 → W p l e room_1 s m #[Value.ref b] below meth c H1 locs1 (cells + 40) (slots + 160) Q (F0 m 821 ls [])) : W p l e room_1 s m #[Value.ref b] below meth c H locs cells slots Q (F0 m 450 ls []) := by
  obtain ⟨hx, hb, hr, hml, hown, hts0, hX, hbl, hlocks, hgv⟩ := C0
  have hts : ∀ w ∈ wsL_law, w.before #[Value.ref b] s = true := fun w h => hts0 w (wsL_law_in w h)
  have hown : s.vm.findClass RL = some m.cls := hown
  obtain ⟨hS, V, f, N, u, ys, fo, am, zs, hR, hM, hZ, hO⟩ := hW
  have hV : Iv V := hR.1.1
  have hn := LA.new hM hS.1
  refine lv_aload_n hx hb dL_law_450 rfl (lv_at hl 1 rfl) ?_
  refine lv_aload_n hx hb dL_law_451 rfl (lv_at hl 0 rfl) ?_
  refine lv_iload_n hx hb dL_law_452 rfl (lv_at hl 3 rfl) ?_
  refine j_const hx hb dL_law_453 ?_
  refine j_add hx hb dL_law_454 ?_
  refine j_sld hx hb hX hbl hS hL (by omega) (by omega) dL_law_455 ?_
  refine lv_aload_n hx hb dL_law_456 rfl (lv_at hl 0 rfl) ?_
  refine lv_iload_n hx hb dL_law_457 rfl (lv_at hl 3 rfl) ?_
  refine j_const hx hb dL_law_458 ?_
  refine j_add hx hb dL_law_459 ?_
  refine j_sld hx hb hX hbl hS hL (by omega) (by omega) dL_law_460 ?_
  refine lv_aload_n hx hb dL_law_461 rfl (lv_at hl 0 rfl) ?_
  refine lv_iload_n hx hb dL_law_462 rfl (lv_at hl 3 rfl) ?_
  refine j_const hx hb dL_law_463 ?_
  refine j_add hx hb dL_law_464 ?_
  refine j_sld hx hb hX hbl hS hL (by omega) (by omega) dL_law_465 ?_
  refine k_V (ci := 8) (b := a 0) (As := [.int (J (sx xs (i + 1))), .int (J (sx xs (i + 2))), .int (J (sx xs (i + 3)))]) (rest := []) hx hb hml hown hts hK hl.1 (c_X8_on l G a f (fun h => mkL V (f 9) h (N h)) u V (sx xs (i + 1)) (sx xs (i + 2)) (sx xs (i + 3)) (sx_rng _ _) (sx_rng _ _) (sx_rng _ _)) (cwV 3 hts gL_law_X8_on rfl rfl rfl (by decide +kernel) ⟨Nat.le_of_ble_eq_true rfl, Nat.le_of_ble_eq_true rfl⟩) hR.1.2.1 rfl hR.1 rfl rfl (Nat.le_of_ble_eq_true rfl) dL_law_466 ⟨by show cells ≤ 600000; omega, by show slots ≤ 7302250; omega⟩ ?_
  refine lv_aload_n hx hb dL_law_469 rfl (lv_at hl 2 rfl) ?_
  refine lv_aload_n hx hb dL_law_470 rfl (lv_at hl 0 rfl) ?_
  refine lv_iload_n hx hb dL_law_471 rfl (lv_at hl 3 rfl) ?_
  refine j_const hx hb dL_law_472 ?_
  refine j_add hx hb dL_law_473 ?_
  refine j_sld hx hb hX hbl hS hL (by omega) (by omega) dL_law_474 ?_
  refine lv_aload_n hx hb dL_law_475 rfl (lv_at hl 0 rfl) ?_
  refine lv_iload_n hx hb dL_law_476 rfl (lv_at hl 3 rfl) ?_
  refine j_const hx hb dL_law_477 ?_
  refine j_add hx hb dL_law_478 ?_
  refine j_sld hx hb hX hbl hS hL (by omega) (by omega) dL_law_479 ?_
  refine lv_aload_n hx hb dL_law_480 rfl (lv_at hl 0 rfl) ?_
  refine lv_iload_n hx hb dL_law_481 rfl (lv_at hl 3 rfl) ?_
  refine j_const hx hb dL_law_482 ?_
  refine j_add hx hb dL_law_483 ?_
  refine j_sld hx hb hX hbl hS hL (by omega) (by omega) dL_law_484 ?_
  refine k_V (ci := 9) (b := ad 0) (As := [.int (J (sx xs (i + 1))), .int (J (sx xs (i + 2))), .int (J (sx xs (i + 3)))]) (rest := [_]) hx hb hml hown hts hK hl.1 (c_X9_on l G ad V fo am zs (sx xs (i + 1)) (sx xs (i + 2)) (sx xs (i + 3)) hV (sx_rng _ _) (sx_rng _ _) (sx_rng _ _)) (cwV 3 hts gL_law_X9_on rfl rfl rfl (by decide +kernel) ⟨Nat.le_of_ble_eq_true rfl, Nat.le_of_ble_eq_true rfl⟩) hM.1 rfl hM rfl rfl (Nat.le_of_ble_eq_true rfl) dL_law_485 ⟨by show cells ≤ 600000; omega, by show slots ≤ 7302250; omega⟩ ?_
  refine j_icmpT (tgt := 821) hx hb (an_on hR _ _ _) dL_law_488 (by decide) ?_
  refine W.widen (k := cells + 40) (n := slots + 160) (by omega) (by omega) ?_
  exact kk H locs ⟨hS, V, f, N, u, ys, fo, am, zs, hR, hM, hZ, hO⟩
set_option maxHeartbeats 4000000 in
set_option maxRecDepth 100000 in
theorem lw_k_year {p : Program} {l : Launch} {e : Env} {s : State} {m : MethodId} {below : List Frame} {meth : Method} {c : Code} {Q : State → Prop} {G : GG} {a ad : Nat → Nat} {b L : Nat} {xs : Nat → Int32} (hL : L ≤ 3072) (C0 : lw_At p s m meth c b L xs) (hK : KK G s) (hD : Dj ad) (hd : ∀ i, i ≤ 18 → s.heap.size ≤ ad i) {i : Int} (h0 : 0 ≤ i) (h1 : i + 6 ≤ (L : Int)) {H : Heap} {locs : List Loc} {cells slots : Nat} (hf : cells + 40 ≤ 600000 ∧ slots + 160 ≤ 7302250) (hW : LW G s a ad H locs) {ls : Array Slot} (hl : lv_has ls 4 [(0, .ref b), (1, .ref (a 0)), (2, .ref (ad 0)), (3, .int (J i))]) (kk : ∀ (H1 : Heap) (locs1 : List Loc), LW G s a ad H1 locs1 → W p l e room_1 s m #[Value.ref b] below meth c H1 locs1 (cells + 40) (slots + 160) Q (F0 m 821 ls [])) : W p l e room_1 s m #[Value.ref b] below meth c H locs cells slots Q (F0 m 493 ls []) := by
  obtain ⟨hx, hb, hr, hml, hown, hts0, hX, hbl, hlocks, hgv⟩ := C0
  have hts : ∀ w ∈ wsL_law, w.before #[Value.ref b] s = true := fun w h => hts0 w (wsL_law_in w h)
  have hown : s.vm.findClass RL = some m.cls := hown
  obtain ⟨hS, V, f, N, u, ys, fo, am, zs, hR, hM, hZ, hO⟩ := hW
  have hV : Iv V := hR.1.1
  have hn := LA.new hM hS.1
  refine lv_aload_n hx hb dL_law_493 rfl (lv_at hl 1 rfl) ?_
  refine lv_aload_n hx hb dL_law_494 rfl (lv_at hl 0 rfl) ?_
  refine lv_iload_n hx hb dL_law_495 rfl (lv_at hl 3 rfl) ?_
  refine j_const hx hb dL_law_496 ?_
  refine j_add hx hb dL_law_497 ?_
  refine j_sld hx hb hX hbl hS hL (by omega) (by omega) dL_law_498 ?_
  refine lv_aload_n hx hb dL_law_499 rfl (lv_at hl 0 rfl) ?_
  refine lv_iload_n hx hb dL_law_500 rfl (lv_at hl 3 rfl) ?_
  refine j_const hx hb dL_law_501 ?_
  refine j_add hx hb dL_law_502 ?_
  refine j_sld hx hb hX hbl hS hL (by omega) (by omega) dL_law_503 ?_
  refine k_V (ci := 8) (b := a 0) (As := [.int (J (sx xs (i + 1))), .int (J (sx xs (i + 2)))]) (rest := []) hx hb hml hown hts hK hl.1 (c_X8_year l G a f (fun h => mkL V (f 9) h (N h)) u V (sx xs (i + 1)) (sx xs (i + 2)) (sx_rng _ _) (sx_rng _ _)) (cwV 2 hts gL_law_X8_year rfl rfl rfl (by decide +kernel) ⟨Nat.le_of_ble_eq_true rfl, Nat.le_of_ble_eq_true rfl⟩) hR.1.2.1 rfl hR.1 rfl rfl (Nat.le_of_ble_eq_true rfl) dL_law_504 ⟨by show cells ≤ 600000; omega, by show slots ≤ 7302250; omega⟩ ?_
  refine lv_aload_n hx hb dL_law_507 rfl (lv_at hl 2 rfl) ?_
  refine lv_aload_n hx hb dL_law_508 rfl (lv_at hl 0 rfl) ?_
  refine lv_iload_n hx hb dL_law_509 rfl (lv_at hl 3 rfl) ?_
  refine j_const hx hb dL_law_510 ?_
  refine j_add hx hb dL_law_511 ?_
  refine j_sld hx hb hX hbl hS hL (by omega) (by omega) dL_law_512 ?_
  refine lv_aload_n hx hb dL_law_513 rfl (lv_at hl 0 rfl) ?_
  refine lv_iload_n hx hb dL_law_514 rfl (lv_at hl 3 rfl) ?_
  refine j_const hx hb dL_law_515 ?_
  refine j_add hx hb dL_law_516 ?_
  refine j_sld hx hb hX hbl hS hL (by omega) (by omega) dL_law_517 ?_
  refine k_V (ci := 9) (b := ad 0) (As := [.int (J (sx xs (i + 1))), .int (J (sx xs (i + 2)))]) (rest := [_]) hx hb hml hown hts hK hl.1 (c_X9_year l G ad V fo am zs (sx xs (i + 1)) (sx xs (i + 2)) hV (sx_rng _ _) (sx_rng _ _)) (cwV 2 hts gL_law_X9_year rfl rfl rfl (by decide +kernel) ⟨Nat.le_of_ble_eq_true rfl, Nat.le_of_ble_eq_true rfl⟩) hM.1 rfl hM rfl rfl (Nat.le_of_ble_eq_true rfl) dL_law_518 ⟨by show cells ≤ 600000; omega, by show slots ≤ 7302250; omega⟩ ?_
  refine j_lcmpT hx hb (an_year hR _ _) dL_law_521 ?_
  refine j_eq0 (tgt := 821) hx hb (by omega) (by omega) dL_law_522 (by decide) (fun _ => ?_) (fun z => absurd rfl z)
  refine W.widen (k := cells + 40) (n := slots + 160) (by omega) (by omega) ?_
  exact kk H locs ⟨hS, V, f, N, u, ys, fo, am, zs, hR, hM, hZ, hO⟩
