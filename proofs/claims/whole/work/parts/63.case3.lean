set_option maxHeartbeats 4000000 in
set_option maxRecDepth 100000 in
theorem lw_k_paid {p : Program} {l : Launch} {e : Env} {s : State} {m : MethodId} {below : List Frame} {meth : Method} {c : Code} {Q : State → Prop} {G : GG} {a ad : Nat → Nat} {b L : Nat} {xs : Nat → Int32} (hL : L ≤ 3072) (C0 : lw_At p s m meth c b L xs) (hK : KK G s) (hD : Dj ad) (hd : ∀ i, i ≤ 18 → s.heap.size ≤ ad i) {i : Int} (h0 : 0 ≤ i) (h1 : i + 6 ≤ (L : Int)) {H : Heap} {locs : List Loc} {cells slots : Nat} (hf : cells + 40 ≤ 600000 ∧ slots + 160 ≤ 7302250) (hW : LW G s a ad H locs) {ls : Array Slot} (hl : lv_has ls 4 [(0, .ref b), (1, .ref (a 0)), (2, .ref (ad 0)), (3, .int (J i))]) (kk : ∀ (H1 : Heap) (locs1 : List Loc), LW G s a ad H1 locs1 → W p l e room_1 s m #[Value.ref b] below meth c H1 locs1 (cells + 40) (slots + 160) Q (F0 m 821 ls [])) : W p l e room_1 s m #[Value.ref b] below meth c H locs cells slots Q (F0 m 679 ls []) := by
  obtain ⟨hx, hb, hr, hml, hown, hts0, hX, hbl, hlocks, hgv⟩ := C0
  have hts : ∀ w ∈ wsL_law, w.before #[Value.ref b] s = true := fun w h => hts0 w (wsL_law_in w h)
  have hown : s.vm.findClass RL = some m.cls := hown
  obtain ⟨hS, V, f, N, u, ys, fo, am, zs, hR, hM, hZ, hO⟩ := hW
  have hV : Iv V := hR.1.1
  have hn := LA.new hM hS.1
  refine lv_aload_n hx hb dL_law_679 rfl (lv_at hl 1 rfl) ?_
  refine lv_aload_n hx hb dL_law_680 rfl (lv_at hl 0 rfl) ?_
  refine lv_iload_n hx hb dL_law_681 rfl (lv_at hl 3 rfl) ?_
  refine j_const hx hb dL_law_682 ?_
  refine j_add hx hb dL_law_683 ?_
  refine j_sld hx hb hX hbl hS hL (by omega) (by omega) dL_law_684 ?_
  refine lv_aload_n hx hb dL_law_685 rfl (lv_at hl 0 rfl) ?_
  refine lv_iload_n hx hb dL_law_686 rfl (lv_at hl 3 rfl) ?_
  refine j_const hx hb dL_law_687 ?_
  refine j_add hx hb dL_law_688 ?_
  refine j_sld hx hb hX hbl hS hL (by omega) (by omega) dL_law_689 ?_
  refine lv_aload_n hx hb dL_law_690 rfl (lv_at hl 0 rfl) ?_
  refine lv_iload_n hx hb dL_law_691 rfl (lv_at hl 3 rfl) ?_
  refine j_const hx hb dL_law_692 ?_
  refine j_add hx hb dL_law_693 ?_
  refine j_sld hx hb hX hbl hS hL (by omega) (by omega) dL_law_694 ?_
  refine k_V (ci := 8) (b := a 0) (As := [.int (J (sx xs (i + 1))), .int (J (sx xs (i + 2))), .int (J (sx xs (i + 3)))]) (rest := []) hx hb hml hown hts hK hl.1 (c_X8_paid l G a f (fun h => mkL V (f 9) h (N h)) u V (sx xs (i + 1)) (sx xs (i + 2)) (sx xs (i + 3)) (sx_rng _ _) (sx_rng _ _) (sx_rng _ _)) (cwV 3 hts gL_law_X8_paid rfl rfl rfl (by decide +kernel) ⟨Nat.le_of_ble_eq_true rfl, Nat.le_of_ble_eq_true rfl⟩) hR.1.2.1 rfl hR.1 rfl rfl (Nat.le_of_ble_eq_true rfl) dL_law_695 ⟨by show cells ≤ 600000; omega, by show slots ≤ 7302250; omega⟩ ?_
  refine lv_aload_n hx hb dL_law_698 rfl (lv_at hl 2 rfl) ?_
  refine lv_aload_n hx hb dL_law_699 rfl (lv_at hl 0 rfl) ?_
  refine lv_iload_n hx hb dL_law_700 rfl (lv_at hl 3 rfl) ?_
  refine j_const hx hb dL_law_701 ?_
  refine j_add hx hb dL_law_702 ?_
  refine j_sld hx hb hX hbl hS hL (by omega) (by omega) dL_law_703 ?_
  refine lv_aload_n hx hb dL_law_704 rfl (lv_at hl 0 rfl) ?_
  refine lv_iload_n hx hb dL_law_705 rfl (lv_at hl 3 rfl) ?_
  refine j_const hx hb dL_law_706 ?_
  refine j_add hx hb dL_law_707 ?_
  refine j_sld hx hb hX hbl hS hL (by omega) (by omega) dL_law_708 ?_
  refine lv_aload_n hx hb dL_law_709 rfl (lv_at hl 0 rfl) ?_
  refine lv_iload_n hx hb dL_law_710 rfl (lv_at hl 3 rfl) ?_
  refine j_const hx hb dL_law_711 ?_
  refine j_add hx hb dL_law_712 ?_
  refine j_sld hx hb hX hbl hS hL (by omega) (by omega) dL_law_713 ?_
  refine k_V (ci := 9) (b := ad 0) (As := [.int (J (sx xs (i + 1))), .int (J (sx xs (i + 2))), .int (J (sx xs (i + 3)))]) (rest := [_]) hx hb hml hown hts hK hl.1 (c_X9_paid l G ad V fo am zs (sx xs (i + 1)) (sx xs (i + 2)) (sx xs (i + 3)) hV (sx_rng _ _) (sx_rng _ _) (sx_rng _ _)) (cwV 3 hts gL_law_X9_paid rfl rfl rfl (by decide +kernel) ⟨Nat.le_of_ble_eq_true rfl, Nat.le_of_ble_eq_true rfl⟩) hM.1 rfl hM rfl rfl (Nat.le_of_ble_eq_true rfl) dL_law_714 ⟨by show cells ≤ 600000; omega, by show slots ≤ 7302250; omega⟩ ?_
  refine j_icmpT (tgt := 821) hx hb (an_paid _ _ _) dL_law_717 (by decide) ?_
  refine W.widen (k := cells + 40) (n := slots + 160) (by omega) (by omega) ?_
  exact kk H locs ⟨hS, V, f, N, u, ys, fo, am, zs, hR, hM, hZ, hO⟩
set_option maxHeartbeats 4000000 in
set_option maxRecDepth 100000 in
theorem lw_k_owed {p : Program} {l : Launch} {e : Env} {s : State} {m : MethodId} {below : List Frame} {meth : Method} {c : Code} {Q : State → Prop} {G : GG} {a ad : Nat → Nat} {b L : Nat} {xs : Nat → Int32} (hL : L ≤ 3072) (C0 : lw_At p s m meth c b L xs) (hK : KK G s) (hD : Dj ad) (hd : ∀ i, i ≤ 18 → s.heap.size ≤ ad i) {i : Int} (h0 : 0 ≤ i) (h1 : i + 6 ≤ (L : Int)) {H : Heap} {locs : List Loc} {cells slots : Nat} (hf : cells + 40 ≤ 600000 ∧ slots + 160 ≤ 7302250) (hW : LW G s a ad H locs) {ls : Array Slot} (hl : lv_has ls 4 [(0, .ref b), (1, .ref (a 0)), (2, .ref (ad 0)), (3, .int (J i))]) (kk : ∀ (H1 : Heap) (locs1 : List Loc), LW G s a ad H1 locs1 → W p l e room_1 s m #[Value.ref b] below meth c H1 locs1 (cells + 40) (slots + 160) Q (F0 m 821 ls [])) : W p l e room_1 s m #[Value.ref b] below meth c H locs cells slots Q (F0 m 722 ls []) := by
  obtain ⟨hx, hb, hr, hml, hown, hts0, hX, hbl, hlocks, hgv⟩ := C0
  have hts : ∀ w ∈ wsL_law, w.before #[Value.ref b] s = true := fun w h => hts0 w (wsL_law_in w h)
  have hown : s.vm.findClass RL = some m.cls := hown
  obtain ⟨hS, V, f, N, u, ys, fo, am, zs, hR, hM, hZ, hO⟩ := hW
  have hV : Iv V := hR.1.1
  have hn := LA.new hM hS.1
  refine lv_aload_n hx hb dL_law_722 rfl (lv_at hl 1 rfl) ?_
  refine lv_aload_n hx hb dL_law_723 rfl (lv_at hl 0 rfl) ?_
  refine lv_iload_n hx hb dL_law_724 rfl (lv_at hl 3 rfl) ?_
  refine j_const hx hb dL_law_725 ?_
  refine j_add hx hb dL_law_726 ?_
  refine j_sld hx hb hX hbl hS hL (by omega) (by omega) dL_law_727 ?_
  refine lv_aload_n hx hb dL_law_728 rfl (lv_at hl 0 rfl) ?_
  refine lv_iload_n hx hb dL_law_729 rfl (lv_at hl 3 rfl) ?_
  refine j_const hx hb dL_law_730 ?_
  refine j_add hx hb dL_law_731 ?_
  refine j_sld hx hb hX hbl hS hL (by omega) (by omega) dL_law_732 ?_
  refine k_V (ci := 8) (b := a 0) (As := [.int (J (sx xs (i + 1))), .int (J (sx xs (i + 2)))]) (rest := []) hx hb hml hown hts hK hl.1 (c_X8_owed l G a f (fun h => mkL V (f 9) h (N h)) u V (sx xs (i + 1)) (sx xs (i + 2)) (sx_rng _ _) (sx_rng _ _)) (cwV 2 hts gL_law_X8_owed rfl rfl rfl (by decide +kernel) ⟨Nat.le_of_ble_eq_true rfl, Nat.le_of_ble_eq_true rfl⟩) hR.1.2.1 rfl hR.1 rfl rfl (Nat.le_of_ble_eq_true rfl) dL_law_733 ⟨by show cells ≤ 600000; omega, by show slots ≤ 7302250; omega⟩ ?_
  refine lv_aload_n hx hb dL_law_736 rfl (lv_at hl 2 rfl) ?_
  refine lv_aload_n hx hb dL_law_737 rfl (lv_at hl 0 rfl) ?_
  refine lv_iload_n hx hb dL_law_738 rfl (lv_at hl 3 rfl) ?_
  refine j_const hx hb dL_law_739 ?_
  refine j_add hx hb dL_law_740 ?_
  refine j_sld hx hb hX hbl hS hL (by omega) (by omega) dL_law_741 ?_
  refine lv_aload_n hx hb dL_law_742 rfl (lv_at hl 0 rfl) ?_
  refine lv_iload_n hx hb dL_law_743 rfl (lv_at hl 3 rfl) ?_
  refine j_const hx hb dL_law_744 ?_
  refine j_add hx hb dL_law_745 ?_
  refine j_sld hx hb hX hbl hS hL (by omega) (by omega) dL_law_746 ?_
  refine k_V (ci := 9) (b := ad 0) (As := [.int (J (sx xs (i + 1))), .int (J (sx xs (i + 2)))]) (rest := [_]) hx hb hml hown hts hK hl.1 (c_X9_owed l G ad V fo am zs (sx xs (i + 1)) (sx xs (i + 2)) hV (sx_rng _ _) (sx_rng _ _)) (cwV 2 hts gL_law_X9_owed rfl rfl rfl (by decide +kernel) ⟨Nat.le_of_ble_eq_true rfl, Nat.le_of_ble_eq_true rfl⟩) hM.1 rfl hM rfl rfl (Nat.le_of_ble_eq_true rfl) dL_law_747 ⟨by show cells ≤ 600000; omega, by show slots ≤ 7302250; omega⟩ ?_
  refine j_icmpT (tgt := 821) hx hb (an_owed _ _) dL_law_750 (by decide) ?_
  refine W.widen (k := cells + 40) (n := slots + 160) (by omega) (by omega) ?_
  exact kk H locs ⟨hS, V, f, N, u, ys, fo, am, zs, hR, hM, hZ, hO⟩
set_option maxHeartbeats 4000000 in
set_option maxRecDepth 100000 in
theorem lw_k_ward {p : Program} {l : Launch} {e : Env} {s : State} {m : MethodId} {below : List Frame} {meth : Method} {c : Code} {Q : State → Prop} {G : GG} {a ad : Nat → Nat} {b L : Nat} {xs : Nat → Int32} (hL : L ≤ 3072) (C0 : lw_At p s m meth c b L xs) (hK : KK G s) (hD : Dj ad) (hd : ∀ i, i ≤ 18 → s.heap.size ≤ ad i) {i : Int} (h0 : 0 ≤ i) (h1 : i + 6 ≤ (L : Int)) {H : Heap} {locs : List Loc} {cells slots : Nat} (hf : cells + 40 ≤ 600000 ∧ slots + 160 ≤ 7302250) (hW : LW G s a ad H locs) {ls : Array Slot} (hl : lv_has ls 4 [(0, .ref b), (1, .ref (a 0)), (2, .ref (ad 0)), (3, .int (J i))]) (kk : ∀ (H1 : Heap) (locs1 : List Loc), LW G s a ad H1 locs1 → W p l e room_1 s m #[Value.ref b] below meth c H1 locs1 (cells + 40) (slots + 160) Q (F0 m 821 ls [])) : W p l e room_1 s m #[Value.ref b] below meth c H locs cells slots Q (F0 m 755 ls []) := by
  obtain ⟨hx, hb, hr, hml, hown, hts0, hX, hbl, hlocks, hgv⟩ := C0
  have hts : ∀ w ∈ wsL_law, w.before #[Value.ref b] s = true := fun w h => hts0 w (wsL_law_in w h)
  have hown : s.vm.findClass RL = some m.cls := hown
  obtain ⟨hS, V, f, N, u, ys, fo, am, zs, hR, hM, hZ, hO⟩ := hW
  have hV : Iv V := hR.1.1
  have hn := LA.new hM hS.1
  refine lv_aload_n hx hb dL_law_755 rfl (lv_at hl 1 rfl) ?_
  refine lv_aload_n hx hb dL_law_756 rfl (lv_at hl 0 rfl) ?_
  refine lv_iload_n hx hb dL_law_757 rfl (lv_at hl 3 rfl) ?_
  refine j_const hx hb dL_law_758 ?_
  refine j_add hx hb dL_law_759 ?_
  refine j_sld hx hb hX hbl hS hL (by omega) (by omega) dL_law_760 ?_
  refine lv_aload_n hx hb dL_law_761 rfl (lv_at hl 0 rfl) ?_
  refine lv_iload_n hx hb dL_law_762 rfl (lv_at hl 3 rfl) ?_
  refine j_const hx hb dL_law_763 ?_
  refine j_add hx hb dL_law_764 ?_
  refine j_sld hx hb hX hbl hS hL (by omega) (by omega) dL_law_765 ?_
  refine lv_aload_n hx hb dL_law_766 rfl (lv_at hl 0 rfl) ?_
  refine lv_iload_n hx hb dL_law_767 rfl (lv_at hl 3 rfl) ?_
  refine j_const hx hb dL_law_768 ?_
  refine j_add hx hb dL_law_769 ?_
  refine j_sld hx hb hX hbl hS hL (by omega) (by omega) dL_law_770 ?_
  refine k_V (ci := 8) (b := a 0) (As := [.int (J (sx xs (i + 1))), .int (J (sx xs (i + 2))), .int (J (sx xs (i + 3)))]) (rest := []) hx hb hml hown hts hK hl.1 (c_X8_ward l G a f (fun h => mkL V (f 9) h (N h)) u V (sx xs (i + 1)) (sx xs (i + 2)) (sx xs (i + 3)) (sx_rng _ _) (sx_rng _ _) (sx_rng _ _)) (cwV 3 hts gL_law_X8_ward rfl rfl rfl (by decide +kernel) ⟨Nat.le_of_ble_eq_true rfl, Nat.le_of_ble_eq_true rfl⟩) hR.1.2.1 rfl hR.1 rfl rfl (Nat.le_of_ble_eq_true rfl) dL_law_771 ⟨by show cells ≤ 600000; omega, by show slots ≤ 7302250; omega⟩ ?_
  refine lv_aload_n hx hb dL_law_774 rfl (lv_at hl 2 rfl) ?_
  refine lv_aload_n hx hb dL_law_775 rfl (lv_at hl 0 rfl) ?_
  refine lv_iload_n hx hb dL_law_776 rfl (lv_at hl 3 rfl) ?_
  refine j_const hx hb dL_law_777 ?_
  refine j_add hx hb dL_law_778 ?_
  refine j_sld hx hb hX hbl hS hL (by omega) (by omega) dL_law_779 ?_
  refine lv_aload_n hx hb dL_law_780 rfl (lv_at hl 0 rfl) ?_
  refine lv_iload_n hx hb dL_law_781 rfl (lv_at hl 3 rfl) ?_
  refine j_const hx hb dL_law_782 ?_
  refine j_add hx hb dL_law_783 ?_
  refine j_sld hx hb hX hbl hS hL (by omega) (by omega) dL_law_784 ?_
  refine lv_aload_n hx hb dL_law_785 rfl (lv_at hl 0 rfl) ?_
  refine lv_iload_n hx hb dL_law_786 rfl (lv_at hl 3 rfl) ?_
  refine j_const hx hb dL_law_787 ?_
  refine j_add hx hb dL_law_788 ?_
  refine j_sld hx hb hX hbl hS hL (by omega) (by omega) dL_law_789 ?_
  refine k_V (ci := 9) (b := ad 0) (As := [.int (J (sx xs (i + 1))), .int (J (sx xs (i + 2))), .int (J (sx xs (i + 3)))]) (rest := [_]) hx hb hml hown hts hK hl.1 (c_X9_ward l G ad V fo am zs (sx xs (i + 1)) (sx xs (i + 2)) (sx xs (i + 3)) hV (sx_rng _ _) (sx_rng _ _) (sx_rng _ _)) (cwV 3 hts gL_law_X9_ward rfl rfl rfl (by decide +kernel) ⟨Nat.le_of_ble_eq_true rfl, Nat.le_of_ble_eq_true rfl⟩) hM.1 rfl hM rfl rfl (Nat.le_of_ble_eq_true rfl) dL_law_790 ⟨by show cells ≤ 600000; omega, by show slots ≤ 7302250; omega⟩ ?_
  refine j_icmpT (tgt := 821) hx hb (an_ward hV _ _ _) dL_law_793 (by decide) ?_
  refine W.widen (k := cells + 40) (n := slots + 160) (by omega) (by omega) ?_
  exact kk H locs ⟨hS, V, f, N, u, ys, fo, am, zs, hR, hM, hZ, hO⟩
set_option maxHeartbeats 4000000 in
set_option maxRecDepth 100000 in
theorem lw_k_count {p : Program} {l : Launch} {e : Env} {s : State} {m : MethodId} {below : List Frame} {meth : Method} {c : Code} {Q : State → Prop} {G : GG} {a ad : Nat → Nat} {b L : Nat} {xs : Nat → Int32} (hL : L ≤ 3072) (C0 : lw_At p s m meth c b L xs) (hK : KK G s) (hD : Dj ad) (hd : ∀ i, i ≤ 18 → s.heap.size ≤ ad i) {i : Int} (h0 : 0 ≤ i) (h1 : i + 6 ≤ (L : Int)) {H : Heap} {locs : List Loc} {cells slots : Nat} (hf : cells + 40 ≤ 600000 ∧ slots + 160 ≤ 7302250) (hW : LW G s a ad H locs) {ls : Array Slot} (hl : lv_has ls 4 [(0, .ref b), (1, .ref (a 0)), (2, .ref (ad 0)), (3, .int (J i))]) (kk : ∀ (H1 : Heap) (locs1 : List Loc), LW G s a ad H1 locs1 → W p l e room_1 s m #[Value.ref b] below meth c H1 locs1 (cells + 40) (slots + 160) Q (F0 m 821 ls [])) : W p l e room_1 s m #[Value.ref b] below meth c H locs cells slots Q (F0 m 798 ls []) := by
  obtain ⟨hx, hb, hr, hml, hown, hts0, hX, hbl, hlocks, hgv⟩ := C0
  have hts : ∀ w ∈ wsL_law, w.before #[Value.ref b] s = true := fun w h => hts0 w (wsL_law_in w h)
  have hown : s.vm.findClass RL = some m.cls := hown
  obtain ⟨hS, V, f, N, u, ys, fo, am, zs, hR, hM, hZ, hO⟩ := hW
  have hV : Iv V := hR.1.1
  have hn := LA.new hM hS.1
  refine lv_aload_n hx hb dL_law_798 rfl (lv_at hl 1 rfl) ?_
  refine lv_aload_n hx hb dL_law_799 rfl (lv_at hl 0 rfl) ?_
  refine lv_iload_n hx hb dL_law_800 rfl (lv_at hl 3 rfl) ?_
  refine j_const hx hb dL_law_801 ?_
  refine j_add hx hb dL_law_802 ?_
  refine j_sld hx hb hX hbl hS hL (by omega) (by omega) dL_law_803 ?_
  refine k_V (ci := 8) (b := a 0) (As := [.int (J (sx xs (i + 1)))]) (rest := []) hx hb hml hown hts hK hl.1 (c_X8_count l G a f (fun h => mkL V (f 9) h (N h)) u V (sx xs (i + 1)) (fun h a1 a2 => mkL_lenN (hR.2.2.1 h a1 a2) (f 9)) (sx_rng _ _)) (cwV 1 hts gL_law_X8_count rfl rfl rfl (by decide +kernel) ⟨Nat.le_of_ble_eq_true rfl, Nat.le_of_ble_eq_true rfl⟩) hR.1.2.1 rfl hR.1 rfl rfl (Nat.le_of_ble_eq_true rfl) dL_law_804 ⟨by show cells ≤ 600000; omega, by show slots ≤ 7302250; omega⟩ ?_
  refine lv_aload_n hx hb dL_law_807 rfl (lv_at hl 2 rfl) ?_
  refine lv_aload_n hx hb dL_law_808 rfl (lv_at hl 0 rfl) ?_
  refine lv_iload_n hx hb dL_law_809 rfl (lv_at hl 3 rfl) ?_
  refine j_const hx hb dL_law_810 ?_
  refine j_add hx hb dL_law_811 ?_
  refine j_sld hx hb hX hbl hS hL (by omega) (by omega) dL_law_812 ?_
  refine k_V (ci := 9) (b := ad 0) (As := [.int (J (sx xs (i + 1)))]) (rest := [_]) hx hb hml hown hts hK hl.1 (c_X9_count l G ad V fo am zs (sx xs (i + 1)) hV (sx_rng _ _)) (cwV 1 hts gL_law_X9_count rfl rfl rfl (by decide +kernel) ⟨Nat.le_of_ble_eq_true rfl, Nat.le_of_ble_eq_true rfl⟩) hM.1 rfl hM rfl rfl (Nat.le_of_ble_eq_true rfl) dL_law_813 ⟨by show cells ≤ 600000; omega, by show slots ≤ 7302250; omega⟩ ?_
  refine j_icmpT (tgt := 821) hx hb (an_count _) dL_law_816 (by decide) ?_
  refine W.widen (k := cells + 40) (n := slots + 160) (by omega) (by omega) ?_
  exact kk H locs ⟨hS, V, f, N, u, ys, fo, am, zs, hR, hM, hZ, hO⟩
