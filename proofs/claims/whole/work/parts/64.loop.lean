set_option maxHeartbeats 4000000 in
set_option maxRecDepth 100000 in
/-- the law's loop, from its head -/
theorem law_loop {p : Program} {l : Launch} {e : Env} {s : State} {m : MethodId} {below : List Frame} {meth : Method} {c : Code} {G : GG} {a ad : Nat → Nat} {b L : Nat} {xs : Nat → Int32} (hL : L ≤ 3072) (C0 : lw_At p s m meth c b L xs) (hK : KK G s) (hD : Dj ad) (hd : ∀ i, i ≤ 18 → s.heap.size ≤ ad i) :
    ∀ (n : Nat) (i : Int), 0 ≤ i → i ≤ (L : Int) → (L : Int) < i + 6 * (n : Int) → ∀ (cells slots : Nat), cells + 40 * n ≤ 600000 → slots + 160 * n ≤ 7302250 → ∀ (H : Heap) (locs : List Loc), LW G s a ad H locs → ∀ (ls : Array Slot), lv_has ls 4 [(0, .ref b), (1, .ref (a 0)), (2, .ref (ad 0)), (3, .int (J i))] → W p l e room_1 s m #[Value.ref b] below meth c H locs cells slots (lw_Z below #[Value.ref b] s) (F0 m 18 ls []) := by
  obtain ⟨hx, hb, hr, hml, hown, hts0, hX, hbl, hlocks, hgv⟩ := id C0
  intro n
  induction n with
  | zero =>
    intro i h0 h1 h2
    exact absurd h2 (by omega)
  | succ n ih =>
    intro i h0 h1 h2 cells slots hc hs H locs hW ls hl
    have hS := hW.1
    have fin : ∀ (H1 : Heap) (locs1 : List Loc), i + 6 ≤ (L : Int) → LW G s a ad H1 locs1 → W p l e room_1 s m #[Value.ref b] below meth c H1 locs1 (cells + 40) (slots + 160) (lw_Z below #[Value.ref b] s) (F0 m 821 ls []) := by
      intro H1 locs1 h6 hW1
      refine lv_iinc (v := J (i + 6)) (lv' := [(3, .int (J (i + 6))), (0, .ref b), (1, .ref (a 0)), (2, .ref (ad 0))]) hx hb dL_law_821 hl (k := 3) rfl (J_add i 6) (by decide) rfl (fun ls hl => ?_)
      refine lv_goto (tgt := 18) hx hb dL_law_824 (by decide) ?_
      exact ih (i + 6) (by omega) h6 (by omega) (cells + 40) (slots + 160) (by omega) (by omega) H1 locs1 hW1 ls (lv_sub hl [1, 2, 3, 0] rfl)
    refine lv_iload_n hx hb dL_law_18 rfl (lv_at hl 3 rfl) ?_
    refine lv_aload_n hx hb dL_law_19 rfl (lv_at hl 0 rfl) ?_
    refine va_slen hx hb hX hbl (Nat.not_le.mpr hbl) hS dL_law_20 ?_
    rw [show Int32.ofNat L = J (L : Int) from (J_nat L).symm]
    refine j_bi hx hb dL_law_21 rfl ?_
    refine j_sub hx hb dL_law_23 ?_
    refine j_cgt (tgt := 827) hx hb (by omega) (by omega) (by omega) (by omega) dL_law_24 (by decide) (fun hq => ?_) (fun hq => ?_)
    · refine lv_iconst (v := 1) hx hb dL_law_827 (by decide) ?_
      refine va_forget (fun q hq => hS.2.2 q hq) ?_
      refine W.widen (k := 600000) (n := 7302250) (by omega) (by omega) ?_
      exact lw_ret hx hb hr hlocks dL_law_828
    · have h6 : i + 6 ≤ (L : Int) := by omega
      have hf : cells + 40 ≤ 600000 ∧ slots + 160 ≤ 7302250 := ⟨by omega, by omega⟩
      refine lv_aload_n hx hb dL_law_27 rfl (lv_at hl 0 rfl) ?_
      refine lv_iload_n hx hb dL_law_28 rfl (lv_at hl 3 rfl) ?_
      refine j_sld hx hb hX hbl hS hL (by omega) (by omega) dL_law_29 ?_
      refine j_bi hx hb dL_law_30 rfl ?_
      refine lv_iand hx hb dL_law_32 ?_
      obtain ⟨j, hj, ej⟩ := pk_andE (J (sx xs i)) (m := J 31) 5 (by decide)
      rw [ej, ← J_nat]
      rcases (show j = 0 ∨ j = 1 ∨ j = 2 ∨ j = 3 ∨ j = 4 ∨ j = 5 ∨ j = 6 ∨ j = 7 ∨ j = 8 ∨ j = 9 ∨ j = 10 ∨ j = 11 ∨ j = 12 ∨ j = 13 ∨ j = 14 ∨ j = 15 ∨ j = 16 ∨ j = 17 ∨ 18 ≤ j by omega) with q | q | q | q | q | q | q | q | q | q | q | q | q | q | q | q | q | q | q
      · exact j_tabIn (tgt := 120) hx hb 0 (by omega) (by omega) (by omega) dL_law_33 (by omega) (by omega) rfl (by decide) (lw_k_house hL C0 hK hD hd h0 h6 hf hW hl (fun H1 locs1 w => fin H1 locs1 h6 w))
      · exact j_tabIn (tgt := 183) hx hb 1 (by omega) (by omega) (by omega) dL_law_33 (by omega) (by omega) rfl (by decide) (lw_k_rent hL C0 hK hD hd h0 h6 hf hW hl (fun H1 locs1 w => fin H1 locs1 h6 w))
      · exact j_tabIn (tgt := 216) hx hb 2 (by omega) (by omega) (by omega) dL_law_33 (by omega) (by omega) rfl (by decide) (lw_k_unit hL C0 hK hD hd h0 h6 hf hW hl (fun H1 locs1 w => fin H1 locs1 h6 w))
      · exact j_tabIn (tgt := 259) hx hb 3 (by omega) (by omega) (by omega) dL_law_33 (by omega) (by omega) rfl (by decide) (lw_k_tested hL C0 hK hD hd h0 h6 hf hW hl (fun H1 locs1 w => fin H1 locs1 h6 w))
      · exact j_tabIn (tgt := 282) hx hb 4 (by omega) (by omega) (by omega) dL_law_33 (by omega) (by omega) rfl (by decide) (lw_k_list hL C0 hK hD hd h0 h6 hf hW hl (fun H1 locs1 w => fin H1 locs1 h6 w))
      · exact j_tabIn (tgt := 305) hx hb 5 (by omega) (by omega) (by omega) dL_law_33 (by omega) (by omega) rfl (by decide) (lw_k_event hL C0 hK hD hd h0 h6 hf hW hl (fun H1 locs1 w => fin H1 locs1 h6 w))
      · exact j_tabIn (tgt := 358) hx hb 6 (by omega) (by omega) (by omega) dL_law_33 (by omega) (by omega) rfl (by decide) (lw_k_appeal hL C0 hK hD hd h0 h6 hf hW hl (fun H1 locs1 w => fin H1 locs1 h6 w))
      · exact j_tabIn (tgt := 427) hx hb 7 (by omega) (by omega) (by omega) dL_law_33 (by omega) (by omega) rfl (by decide) (lw_k_strike hL C0 hK hD hd h0 h6 hf hW hl (fun H1 locs1 w => fin H1 locs1 h6 w))
      · exact j_tabIn (tgt := 450) hx hb 8 (by omega) (by omega) (by omega) dL_law_33 (by omega) (by omega) rfl (by decide) (lw_k_on hL C0 hK hD hd h0 h6 hf hW hl (fun H1 locs1 w => fin H1 locs1 h6 w))
      · exact j_tabIn (tgt := 493) hx hb 9 (by omega) (by omega) (by omega) dL_law_33 (by omega) (by omega) rfl (by decide) (lw_k_year hL C0 hK hD hd h0 h6 hf hW hl (fun H1 locs1 w => fin H1 locs1 h6 w))
      · exact j_tabIn (tgt := 527) hx hb 10 (by omega) (by omega) (by omega) dL_law_33 (by omega) (by omega) rfl (by decide) (lw_k_bill hL C0 hK hD hd h0 h6 hf hW hl (fun H1 locs1 w => fin H1 locs1 h6 w))
      · exact j_tabIn (tgt := 570) hx hb 11 (by omega) (by omega) (by omega) dL_law_33 (by omega) (by omega) rfl (by decide) (lw_k_poundage hL C0 hK hD hd h0 h6 hf hW hl (fun H1 locs1 w => fin H1 locs1 h6 w))
      · exact j_tabIn (tgt := 603) hx hb 12 (by omega) (by omega) (by omega) dL_law_33 (by omega) (by omega) rfl (by decide) (lw_k_struck hL C0 hK hD hd h0 h6 hf hW hl (fun H1 locs1 w => fin H1 locs1 h6 w))
      · exact j_tabIn (tgt := 636) hx hb 13 (by omega) (by omega) (by omega) dL_law_33 (by omega) (by omega) rfl (by decide) (lw_k_pay hL C0 hK hD hd h0 h6 hf hW hl (fun H1 locs1 w => fin H1 locs1 h6 w))
      · exact j_tabIn (tgt := 679) hx hb 14 (by omega) (by omega) (by omega) dL_law_33 (by omega) (by omega) rfl (by decide) (lw_k_paid hL C0 hK hD hd h0 h6 hf hW hl (fun H1 locs1 w => fin H1 locs1 h6 w))
      · exact j_tabIn (tgt := 722) hx hb 15 (by omega) (by omega) (by omega) dL_law_33 (by omega) (by omega) rfl (by decide) (lw_k_owed hL C0 hK hD hd h0 h6 hf hW hl (fun H1 locs1 w => fin H1 locs1 h6 w))
      · exact j_tabIn (tgt := 755) hx hb 16 (by omega) (by omega) (by omega) dL_law_33 (by omega) (by omega) rfl (by decide) (lw_k_ward hL C0 hK hD hd h0 h6 hf hW hl (fun H1 locs1 w => fin H1 locs1 h6 w))
      · exact j_tabIn (tgt := 798) hx hb 17 (by omega) (by omega) (by omega) dL_law_33 (by omega) (by omega) rfl (by decide) (lw_k_count hL C0 hK hD hd h0 h6 hf hW hl (fun H1 locs1 w => fin H1 locs1 h6 w))
      · refine j_tabOut (tgt := 821) hx hb (by omega) (by omega) dL_law_33 (by omega) (by decide) ?_
        refine W.widen (k := cells + 40) (n := slots + 160) (by omega) (by omega) ?_
        exact fin H locs h6 hW
