set_option maxHeartbeats 4000000 in
set_option maxRecDepth 100000 in
theorem lw_k_bill {p : Program} {l : Launch} {e : Env} {s : State} {m : MethodId} {below : List Frame} {meth : Method} {c : Code} {Q : State → Prop} {G : GG} {a ad : Nat → Nat} {b L : Nat} {xs : Nat → Int32} (hL : L ≤ 3072) (C0 : lw_At p s m meth c b L xs) (hK : KK G s) (hD : Dj ad) (hd : ∀ i, i ≤ 18 → s.heap.size ≤ ad i) {i : Int} (h0 : 0 ≤ i) (h1 : i + 6 ≤ (L : Int)) {H : Heap} {locs : List Loc} {cells slots : Nat} (hf : cells + 40 ≤ 600000 ∧ slots + 160 ≤ 7302250) (hW : LW G s a ad H locs) {ls : Array Slot} (hl : lv_has ls 4 [(0, .ref b), (1, .ref (a 0)), (2, .ref (ad 0)), (3, .int (J i))]) (kk : ∀ (H1 : Heap) (locs1 : List Loc), LW G s a ad H1 locs1 → W p l e room_1 s m #[Value.ref b] below meth c H1 locs1 (cells + 40) (slots + 160) Q (F0 m 821 ls [])) : W p l e room_1 s m #[Value.ref b] below meth c H locs cells slots Q (F0 m 527 ls []) := by
  obtain ⟨hx, hb, hr, hml, hown, hts0, hX, hbl, hlocks, hgv⟩ := C0
  have hts : ∀ w ∈ wsL_law, w.before #[Value.ref b] s = true := fun w h => hts0 w (wsL_law_in w h)
  have hown : s.vm.findClass RL = some m.cls := hown
  obtain ⟨hS, V, f, N, u, ys, fo, am, zs, hR, hM, hZ, hO⟩ := hW
  have hV : Iv V := hR.1.1
  have hn := LA.new hM hS.1
  refine lv_aload_n hx hb dL_law_527 rfl (lv_at hl 1 rfl) ?_
  refine lv_aload_n hx hb dL_law_528 rfl (lv_at hl 0 rfl) ?_
  refine lv_iload_n hx hb dL_law_529 rfl (lv_at hl 3 rfl) ?_
  refine j_const hx hb dL_law_530 ?_
  refine j_add hx hb dL_law_531 ?_
  refine j_sld hx hb hX hbl hS hL (by omega) (by omega) dL_law_532 ?_
  refine lv_aload_n hx hb dL_law_533 rfl (lv_at hl 0 rfl) ?_
  refine lv_iload_n hx hb dL_law_534 rfl (lv_at hl 3 rfl) ?_
  refine j_const hx hb dL_law_535 ?_
  refine j_add hx hb dL_law_536 ?_
  refine j_sld hx hb hX hbl hS hL (by omega) (by omega) dL_law_537 ?_
  refine lv_aload_n hx hb dL_law_538 rfl (lv_at hl 0 rfl) ?_
  refine lv_iload_n hx hb dL_law_539 rfl (lv_at hl 3 rfl) ?_
  refine j_const hx hb dL_law_540 ?_
  refine j_add hx hb dL_law_541 ?_
  refine j_sld hx hb hX hbl hS hL (by omega) (by omega) dL_law_542 ?_
  refine k_V (ci := 8) (b := a 0) (As := [.int (J (sx xs (i + 1))), .int (J (sx xs (i + 2))), .int (J (sx xs (i + 3)))]) (rest := []) hx hb hml hown hts hK hl.1 (c_X8_bill l G a f (fun h => mkL V (f 9) h (N h)) u V (sx xs (i + 1)) (sx xs (i + 2)) (sx xs (i + 3)) (sx_rng _ _) (sx_rng _ _) (sx_rng _ _)) (cwV 3 hts gL_law_X8_bill rfl rfl rfl (by decide +kernel) ⟨Nat.le_of_ble_eq_true rfl, Nat.le_of_ble_eq_true rfl⟩) hR.1.2.1 rfl hR.1 rfl rfl (Nat.le_of_ble_eq_true rfl) dL_law_543 ⟨by show cells ≤ 600000; omega, by show slots ≤ 7302250; omega⟩ ?_
  refine lv_aload_n hx hb dL_law_546 rfl (lv_at hl 2 rfl) ?_
  refine lv_aload_n hx hb dL_law_547 rfl (lv_at hl 0 rfl) ?_
  refine lv_iload_n hx hb dL_law_548 rfl (lv_at hl 3 rfl) ?_
  refine j_const hx hb dL_law_549 ?_
  refine j_add hx hb dL_law_550 ?_
  refine j_sld hx hb hX hbl hS hL (by omega) (by omega) dL_law_551 ?_
  refine lv_aload_n hx hb dL_law_552 rfl (lv_at hl 0 rfl) ?_
  refine lv_iload_n hx hb dL_law_553 rfl (lv_at hl 3 rfl) ?_
  refine j_const hx hb dL_law_554 ?_
  refine j_add hx hb dL_law_555 ?_
  refine j_sld hx hb hX hbl hS hL (by omega) (by omega) dL_law_556 ?_
  refine lv_aload_n hx hb dL_law_557 rfl (lv_at hl 0 rfl) ?_
  refine lv_iload_n hx hb dL_law_558 rfl (lv_at hl 3 rfl) ?_
  refine j_const hx hb dL_law_559 ?_
  refine j_add hx hb dL_law_560 ?_
  refine j_sld hx hb hX hbl hS hL (by omega) (by omega) dL_law_561 ?_
  refine k_V (ci := 9) (b := ad 0) (As := [.int (J (sx xs (i + 1))), .int (J (sx xs (i + 2))), .int (J (sx xs (i + 3)))]) (rest := [_]) hx hb hml hown hts hK hl.1 (c_X9_bill l G ad V fo am zs (sx xs (i + 1)) (sx xs (i + 2)) (sx xs (i + 3)) hV (sx_rng _ _) (sx_rng _ _) (sx_rng _ _)) (cwV 3 hts gL_law_X9_bill rfl rfl rfl (by decide +kernel) ⟨Nat.le_of_ble_eq_true rfl, Nat.le_of_ble_eq_true rfl⟩) hM.1 rfl hM rfl rfl (Nat.le_of_ble_eq_true rfl) dL_law_562 ⟨by show cells ≤ 600000; omega, by show slots ≤ 7302250; omega⟩ ?_
  refine j_icmpT (tgt := 821) hx hb (an_bill hR _ _ _) dL_law_565 (by decide) ?_
  refine W.widen (k := cells + 40) (n := slots + 160) (by omega) (by omega) ?_
  exact kk H locs ⟨hS, V, f, N, u, ys, fo, am, zs, hR, hM, hZ, hO⟩
set_option maxHeartbeats 4000000 in
set_option maxRecDepth 100000 in
theorem lw_k_poundage {p : Program} {l : Launch} {e : Env} {s : State} {m : MethodId} {below : List Frame} {meth : Method} {c : Code} {Q : State → Prop} {G : GG} {a ad : Nat → Nat} {b L : Nat} {xs : Nat → Int32} (hL : L ≤ 3072) (C0 : lw_At p s m meth c b L xs) (hK : KK G s) (hD : Dj ad) (hd : ∀ i, i ≤ 18 → s.heap.size ≤ ad i) {i : Int} (h0 : 0 ≤ i) (h1 : i + 6 ≤ (L : Int)) {H : Heap} {locs : List Loc} {cells slots : Nat} (hf : cells + 40 ≤ 600000 ∧ slots + 160 ≤ 7302250) (hW : LW G s a ad H locs) {ls : Array Slot} (hl : lv_has ls 4 [(0, .ref b), (1, .ref (a 0)), (2, .ref (ad 0)), (3, .int (J i))]) (kk : ∀ (H1 : Heap) (locs1 : List Loc), LW G s a ad H1 locs1 → W p l e room_1 s m #[Value.ref b] below meth c H1 locs1 (cells + 40) (slots + 160) Q (F0 m 821 ls [])) : W p l e room_1 s m #[Value.ref b] below meth c H locs cells slots Q (F0 m 570 ls []) := by
  obtain ⟨hx, hb, hr, hml, hown, hts0, hX, hbl, hlocks, hgv⟩ := C0
  have hts : ∀ w ∈ wsL_law, w.before #[Value.ref b] s = true := fun w h => hts0 w (wsL_law_in w h)
  have hown : s.vm.findClass RL = some m.cls := hown
  obtain ⟨hS, V, f, N, u, ys, fo, am, zs, hR, hM, hZ, hO⟩ := hW
  have hV : Iv V := hR.1.1
  have hn := LA.new hM hS.1
  refine lv_aload_n hx hb dL_law_570 rfl (lv_at hl 1 rfl) ?_
  refine lv_aload_n hx hb dL_law_571 rfl (lv_at hl 0 rfl) ?_
  refine lv_iload_n hx hb dL_law_572 rfl (lv_at hl 3 rfl) ?_
  refine j_const hx hb dL_law_573 ?_
  refine j_add hx hb dL_law_574 ?_
  refine j_sld hx hb hX hbl hS hL (by omega) (by omega) dL_law_575 ?_
  refine lv_aload_n hx hb dL_law_576 rfl (lv_at hl 0 rfl) ?_
  refine lv_iload_n hx hb dL_law_577 rfl (lv_at hl 3 rfl) ?_
  refine j_const hx hb dL_law_578 ?_
  refine j_add hx hb dL_law_579 ?_
  refine j_sld hx hb hX hbl hS hL (by omega) (by omega) dL_law_580 ?_
  refine e_V (A := NewS s) (ci := 8) (b := a 0) (As := [.int (J (sx xs (i + 1))), .int (J (sx xs (i + 2)))]) (rest := []) hx hb hml hown hts hK hl.1 (c_X8_poundage l G (LA s ad) a f N u ys V (sx xs (i + 1)) (sx xs (i + 2)) H.size hO hn (an_hq hR (sx xs (i + 1))) (sx_rng _ _) (sx_rng _ _)) (cwV 2 hts gL_law_X8_poundage rfl rfl rfl (by decide +kernel) ⟨Nat.le_of_ble_eq_true rfl, Nat.le_of_ble_eq_true rfl⟩) hR.1.2.1 rfl ⟨rfl, hR⟩ rfl rfl (Nat.le_of_ble_eq_true rfl) dL_law_581 ⟨by show cells + 0 ≤ 600000; omega, by show slots + 0 ≤ 7302250; omega⟩ hS.2.2 (fun x hx => hx.1) (fun H1 lo1 hp1 hl1 => ?_)
  obtain ⟨hS1, hM1, f1, N1, u1, ys1, hR1, hO1⟩ := lw_mid hd hS hM hp1 hl1
  refine lv_aload_n hx hb dL_law_584 rfl (lv_at hl 2 rfl) ?_
  refine lv_aload_n hx hb dL_law_585 rfl (lv_at hl 0 rfl) ?_
  refine lv_iload_n hx hb dL_law_586 rfl (lv_at hl 3 rfl) ?_
  refine j_const hx hb dL_law_587 ?_
  refine j_add hx hb dL_law_588 ?_
  refine j_sld hx hb hX hbl hS1 hL (by omega) (by omega) dL_law_589 ?_
  refine lv_aload_n hx hb dL_law_590 rfl (lv_at hl 0 rfl) ?_
  refine lv_iload_n hx hb dL_law_591 rfl (lv_at hl 3 rfl) ?_
  refine j_const hx hb dL_law_592 ?_
  refine j_add hx hb dL_law_593 ?_
  refine j_sld hx hb hX hbl hS1 hL (by omega) (by omega) dL_law_594 ?_
  refine e_V (A := NewS s) (ci := 9) (b := ad 0) (As := [.int (J (sx xs (i + 1))), .int (J (sx xs (i + 2)))]) (rest := [_]) hx hb hml hown hts hK hl.1 (c_X9_poundage l G ad V fo am zs (sx xs (i + 1)) (sx xs (i + 2)) H1.size hV hD (sx_rng _ _) (sx_rng _ _)) (cwV 2 hts gL_law_X9_poundage rfl rfl rfl (by decide +kernel) ⟨Nat.le_of_ble_eq_true rfl, Nat.le_of_ble_eq_true rfl⟩) hM1.1 rfl ⟨rfl, hM1⟩ rfl rfl (Nat.le_of_ble_eq_true rfl) dL_law_595 ⟨by show cells + 0 + 0 ≤ 600000; omega, by show slots + 0 + 0 ≤ 7302250; omega⟩ hS1.2.2 (fun x hx => hx.elim (fun ⟨j, hj, z⟩ => by rw [z]; exact hd j hj) (fun z => Nat.le_trans hS1.1 z)) (fun H2 lo2 hp2 hl2 => ?_)
  refine j_icmpT (tgt := 821) hx hb rfl dL_law_598 (by decide) ?_
  refine W.widen (k := cells + 40) (n := slots + 160) (by omega) (by omega) ?_
  exact kk H2 lo2 (lw_fin hd hS1 hR1 hO1 hZ hp2 hl2)
set_option maxHeartbeats 4000000 in
set_option maxRecDepth 100000 in
theorem lw_k_struck {p : Program} {l : Launch} {e : Env} {s : State} {m : MethodId} {below : List Frame} {meth : Method} {c : Code} {Q : State → Prop} {G : GG} {a ad : Nat → Nat} {b L : Nat} {xs : Nat → Int32} (hL : L ≤ 3072) (C0 : lw_At p s m meth c b L xs) (hK : KK G s) (hD : Dj ad) (hd : ∀ i, i ≤ 18 → s.heap.size ≤ ad i) {i : Int} (h0 : 0 ≤ i) (h1 : i + 6 ≤ (L : Int)) {H : Heap} {locs : List Loc} {cells slots : Nat} (hf : cells + 40 ≤ 600000 ∧ slots + 160 ≤ 7302250) (hW : LW G s a ad H locs) {ls : Array Slot} (hl : lv_has ls 4 [(0, .ref b), (1, .ref (a 0)), (2, .ref (ad 0)), (3, .int (J i))]) (kk : ∀ (H1 : Heap) (locs1 : List Loc), LW G s a ad H1 locs1 → W p l e room_1 s m #[Value.ref b] below meth c H1 locs1 (cells + 40) (slots + 160) Q (F0 m 821 ls [])) : W p l e room_1 s m #[Value.ref b] below meth c H locs cells slots Q (F0 m 603 ls []) := by
  obtain ⟨hx, hb, hr, hml, hown, hts0, hX, hbl, hlocks, hgv⟩ := C0
  have hts : ∀ w ∈ wsL_law, w.before #[Value.ref b] s = true := fun w h => hts0 w (wsL_law_in w h)
  have hown : s.vm.findClass RL = some m.cls := hown
  obtain ⟨hS, V, f, N, u, ys, fo, am, zs, hR, hM, hZ, hO⟩ := hW
  have hV : Iv V := hR.1.1
  have hn := LA.new hM hS.1
  refine lv_aload_n hx hb dL_law_603 rfl (lv_at hl 1 rfl) ?_
  refine lv_aload_n hx hb dL_law_604 rfl (lv_at hl 0 rfl) ?_
  refine lv_iload_n hx hb dL_law_605 rfl (lv_at hl 3 rfl) ?_
  refine j_const hx hb dL_law_606 ?_
  refine j_add hx hb dL_law_607 ?_
  refine j_sld hx hb hX hbl hS hL (by omega) (by omega) dL_law_608 ?_
  refine lv_aload_n hx hb dL_law_609 rfl (lv_at hl 0 rfl) ?_
  refine lv_iload_n hx hb dL_law_610 rfl (lv_at hl 3 rfl) ?_
  refine j_const hx hb dL_law_611 ?_
  refine j_add hx hb dL_law_612 ?_
  refine j_sld hx hb hX hbl hS hL (by omega) (by omega) dL_law_613 ?_
  refine e_V (A := NewS s) (ci := 8) (b := a 0) (As := [.int (J (sx xs (i + 1))), .int (J (sx xs (i + 2)))]) (rest := []) hx hb hml hown hts hK hl.1 (c_X8_struck l G (LA s ad) a f N u ys V (sx xs (i + 1)) (sx xs (i + 2)) H.size hO hn (an_hq hR (sx xs (i + 1))) (sx_rng _ _) (sx_rng _ _)) (cwV 2 hts gL_law_X8_struck rfl rfl rfl (by decide +kernel) ⟨Nat.le_of_ble_eq_true rfl, Nat.le_of_ble_eq_true rfl⟩) hR.1.2.1 rfl ⟨rfl, hR⟩ rfl rfl (Nat.le_of_ble_eq_true rfl) dL_law_614 ⟨by show cells + 0 ≤ 600000; omega, by show slots + 0 ≤ 7302250; omega⟩ hS.2.2 (fun x hx => hx.1) (fun H1 lo1 hp1 hl1 => ?_)
  obtain ⟨hS1, hM1, f1, N1, u1, ys1, hR1, hO1⟩ := lw_mid hd hS hM hp1 hl1
  refine lv_aload_n hx hb dL_law_617 rfl (lv_at hl 2 rfl) ?_
  refine lv_aload_n hx hb dL_law_618 rfl (lv_at hl 0 rfl) ?_
  refine lv_iload_n hx hb dL_law_619 rfl (lv_at hl 3 rfl) ?_
  refine j_const hx hb dL_law_620 ?_
  refine j_add hx hb dL_law_621 ?_
  refine j_sld hx hb hX hbl hS1 hL (by omega) (by omega) dL_law_622 ?_
  refine lv_aload_n hx hb dL_law_623 rfl (lv_at hl 0 rfl) ?_
  refine lv_iload_n hx hb dL_law_624 rfl (lv_at hl 3 rfl) ?_
  refine j_const hx hb dL_law_625 ?_
  refine j_add hx hb dL_law_626 ?_
  refine j_sld hx hb hX hbl hS1 hL (by omega) (by omega) dL_law_627 ?_
  refine e_V (A := NewS s) (ci := 9) (b := ad 0) (As := [.int (J (sx xs (i + 1))), .int (J (sx xs (i + 2)))]) (rest := [_]) hx hb hml hown hts hK hl.1 (c_X9_struck l G ad V fo am zs (sx xs (i + 1)) (sx xs (i + 2)) H1.size hV hD (sx_rng _ _) (sx_rng _ _)) (cwV 2 hts gL_law_X9_struck rfl rfl rfl (by decide +kernel) ⟨Nat.le_of_ble_eq_true rfl, Nat.le_of_ble_eq_true rfl⟩) hM1.1 rfl ⟨rfl, hM1⟩ rfl rfl (Nat.le_of_ble_eq_true rfl) dL_law_628 ⟨by show cells + 0 + 0 ≤ 600000; omega, by show slots + 0 + 0 ≤ 7302250; omega⟩ hS1.2.2 (fun x hx => hx.elim (fun ⟨j, hj, z⟩ => by rw [z]; exact hd j hj) (fun z => Nat.le_trans hS1.1 z)) (fun H2 lo2 hp2 hl2 => ?_)
  refine j_icmpT (tgt := 821) hx hb rfl dL_law_631 (by decide) ?_
  refine W.widen (k := cells + 40) (n := slots + 160) (by omega) (by omega) ?_
  exact kk H2 lo2 (lw_fin hd hS1 hR1 hO1 (hZ.st hV _) hp2 hl2)
set_option maxHeartbeats 4000000 in
set_option maxRecDepth 100000 in
theorem lw_k_pay {p : Program} {l : Launch} {e : Env} {s : State} {m : MethodId} {below : List Frame} {meth : Method} {c : Code} {Q : State → Prop} {G : GG} {a ad : Nat → Nat} {b L : Nat} {xs : Nat → Int32} (hL : L ≤ 3072) (C0 : lw_At p s m meth c b L xs) (hK : KK G s) (hD : Dj ad) (hd : ∀ i, i ≤ 18 → s.heap.size ≤ ad i) {i : Int} (h0 : 0 ≤ i) (h1 : i + 6 ≤ (L : Int)) {H : Heap} {locs : List Loc} {cells slots : Nat} (hf : cells + 40 ≤ 600000 ∧ slots + 160 ≤ 7302250) (hW : LW G s a ad H locs) {ls : Array Slot} (hl : lv_has ls 4 [(0, .ref b), (1, .ref (a 0)), (2, .ref (ad 0)), (3, .int (J i))]) (kk : ∀ (H1 : Heap) (locs1 : List Loc), LW G s a ad H1 locs1 → W p l e room_1 s m #[Value.ref b] below meth c H1 locs1 (cells + 40) (slots + 160) Q (F0 m 821 ls [])) : W p l e room_1 s m #[Value.ref b] below meth c H locs cells slots Q (F0 m 636 ls []) := by
  obtain ⟨hx, hb, hr, hml, hown, hts0, hX, hbl, hlocks, hgv⟩ := C0
  have hts : ∀ w ∈ wsL_law, w.before #[Value.ref b] s = true := fun w h => hts0 w (wsL_law_in w h)
  have hown : s.vm.findClass RL = some m.cls := hown
  obtain ⟨hS, V, f, N, u, ys, fo, am, zs, hR, hM, hZ, hO⟩ := hW
  have hV : Iv V := hR.1.1
  have hn := LA.new hM hS.1
  refine lv_aload_n hx hb dL_law_636 rfl (lv_at hl 1 rfl) ?_
  refine lv_aload_n hx hb dL_law_637 rfl (lv_at hl 0 rfl) ?_
  refine lv_iload_n hx hb dL_law_638 rfl (lv_at hl 3 rfl) ?_
  refine j_const hx hb dL_law_639 ?_
  refine j_add hx hb dL_law_640 ?_
  refine j_sld hx hb hX hbl hS hL (by omega) (by omega) dL_law_641 ?_
  refine lv_aload_n hx hb dL_law_642 rfl (lv_at hl 0 rfl) ?_
  refine lv_iload_n hx hb dL_law_643 rfl (lv_at hl 3 rfl) ?_
  refine j_const hx hb dL_law_644 ?_
  refine j_add hx hb dL_law_645 ?_
  refine j_sld hx hb hX hbl hS hL (by omega) (by omega) dL_law_646 ?_
  refine lv_aload_n hx hb dL_law_647 rfl (lv_at hl 0 rfl) ?_
  refine lv_iload_n hx hb dL_law_648 rfl (lv_at hl 3 rfl) ?_
  refine j_const hx hb dL_law_649 ?_
  refine j_add hx hb dL_law_650 ?_
  refine j_sld hx hb hX hbl hS hL (by omega) (by omega) dL_law_651 ?_
  refine e_V (A := NewS s) (ci := 8) (b := a 0) (As := [.int (J (sx xs (i + 1))), .int (J (sx xs (i + 2))), .int (J (sx xs (i + 3)))]) (rest := []) hx hb hml hown hts hK hl.1 (c_X8_pay l G (LA s ad) a f N u ys V (sx xs (i + 1)) (sx xs (i + 2)) (sx xs (i + 3)) H.size hO hn (sx_rng _ _) (sx_rng _ _) (sx_rng _ _)) (cwV 3 hts gL_law_X8_pay rfl rfl rfl (by decide +kernel) ⟨Nat.le_of_ble_eq_true rfl, Nat.le_of_ble_eq_true rfl⟩) hR.1.2.1 rfl ⟨rfl, hR⟩ rfl rfl (Nat.le_of_ble_eq_true rfl) dL_law_652 ⟨by show cells + 0 ≤ 600000; omega, by show slots + 0 ≤ 7302250; omega⟩ hS.2.2 (fun x hx => hx.1) (fun H1 lo1 hp1 hl1 => ?_)
  obtain ⟨hS1, hM1, f1, N1, u1, ys1, hR1, hO1⟩ := lw_mid hd hS hM hp1 hl1
  refine lv_aload_n hx hb dL_law_655 rfl (lv_at hl 2 rfl) ?_
  refine lv_aload_n hx hb dL_law_656 rfl (lv_at hl 0 rfl) ?_
  refine lv_iload_n hx hb dL_law_657 rfl (lv_at hl 3 rfl) ?_
  refine j_const hx hb dL_law_658 ?_
  refine j_add hx hb dL_law_659 ?_
  refine j_sld hx hb hX hbl hS1 hL (by omega) (by omega) dL_law_660 ?_
  refine lv_aload_n hx hb dL_law_661 rfl (lv_at hl 0 rfl) ?_
  refine lv_iload_n hx hb dL_law_662 rfl (lv_at hl 3 rfl) ?_
  refine j_const hx hb dL_law_663 ?_
  refine j_add hx hb dL_law_664 ?_
  refine j_sld hx hb hX hbl hS1 hL (by omega) (by omega) dL_law_665 ?_
  refine lv_aload_n hx hb dL_law_666 rfl (lv_at hl 0 rfl) ?_
  refine lv_iload_n hx hb dL_law_667 rfl (lv_at hl 3 rfl) ?_
  refine j_const hx hb dL_law_668 ?_
  refine j_add hx hb dL_law_669 ?_
  refine j_sld hx hb hX hbl hS1 hL (by omega) (by omega) dL_law_670 ?_
  refine e_V (A := NewS s) (ci := 9) (b := ad 0) (As := [.int (J (sx xs (i + 1))), .int (J (sx xs (i + 2))), .int (J (sx xs (i + 3)))]) (rest := [_]) hx hb hml hown hts hK hl.1 (c_X9_pay l G ad V fo am zs (sx xs (i + 1)) (sx xs (i + 2)) (sx xs (i + 3)) H1.size hV hD (sx_rng _ _) (sx_rng _ _) (sx_rng _ _)) (cwV 3 hts gL_law_X9_pay rfl rfl rfl (by decide +kernel) ⟨Nat.le_of_ble_eq_true rfl, Nat.le_of_ble_eq_true rfl⟩) hM1.1 rfl ⟨rfl, hM1⟩ rfl rfl (Nat.le_of_ble_eq_true rfl) dL_law_671 ⟨by show cells + 0 + 0 ≤ 600000; omega, by show slots + 0 + 0 ≤ 7302250; omega⟩ hS1.2.2 (fun x hx => hx.elim (fun ⟨j, hj, z⟩ => by rw [z]; exact hd j hj) (fun z => Nat.le_trans hS1.1 z)) (fun H2 lo2 hp2 hl2 => ?_)
  refine j_icmpT (tgt := 821) hx hb rfl dL_law_674 (by decide) ?_
  refine W.widen (k := cells + 40) (n := slots + 160) (by omega) (by omega) ?_
  exact kk H2 lo2 (lw_fin hd hS1 hR1 hO1 (hZ.pay _) hp2 hl2)
