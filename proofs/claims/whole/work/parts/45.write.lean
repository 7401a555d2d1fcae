abbrev rmX8_rent : Room := { frames := 1, cells := 0, slots := 0, locals := 22 }
set_option maxHeartbeats 4000000 in
set_option maxRecDepth 100000 in
theorem c_X8_rent (l : Launch) (G : GG) (A : Nat → Prop) (a : Nat → Nat) (f : Nat → Int → Nat) (N : Int → List Int) (u : Nat → Int → Int) (ys : Int → Int) (V : St) (h r : Int) (sz : Nat) (hA : ∀ t i, dom V t i → A (adr a f t i)) (hAn : ∀ x, sz ≤ x → A x) (g_h : -2147483648 ≤ h ∧ h < 2147483648) (g_r : -2147483648 ≤ r ∧ r < 2147483648) : ME l G yX8_rent wsX8_rent rmX8_rent [.ref (a 0), .int (J h), .int (J r)] (fun H => H.size = sz ∧ (RW G H a f N u ys V)) (some (.int (J (if (0 ≤ h ∧ h < V 0 0) ∧ 0 ≤ r ∧ r ≤ 100000 then V 5 h else -1))) : Option Value) A (fun H H1 => WX G A a (if (0 ≤ h ∧ h < V 0 0) ∧ 0 ≤ r ∧ r ≤ 100000 then vu V 5 h r else V) H H1) 0 0 := by
  refine ME.of (cc := cX8_rent) (maxL := 5) (ret := (some .int)) (by decide) rfl (Nat.le_of_ble_eq_true rfl) ?_
  intro p e s m below meth c hx hb hr hml hown hts hlk hin hK hP ls hl
  have hL0 : ∀ z9 ∈ ([] : List Loc), A z9.base := fun z9 h => absurd h List.not_mem_nil
  have hown : s.vm.findClass RX8 = some m.cls := hown
  have hl : lv_has ls 5 [(0, .ref (a 0)), (1, .int (J h)), (2, .int (J r))] := hl
  have inX2_ : ∀ w ∈ u_ws RX2 TX2 7, w ∈ wsX8_rent := by decide +kernel
  have inX8_ : ∀ w ∈ u_ws RX8 TX8 4, w ∈ wsX8_rent := by decide +kernel
  have lk0 := hts (.fieldLink RX8 12 "RateBook" "town" "LRateBook$Town;") (by decide +kernel)
  have lk1 := hts (.constant RX8 42 100000) (by decide +kernel)
  have lk2 := hts (.fieldLink RX8 51 "RateBook$House" "rent" "I") (by decide +kernel)
  obtain ⟨hsz, hP⟩ := hP
  have hF0 : Fr s.heap s.heap A 0 := Fr.rf
  have hRW : RW G s.heap a f N u ys V := hP
  have hN := hRW.2.2.1
  obtain ⟨L, hLe⟩ : ∃ L : Int → List EvT, L = fun h => mkL V (f 9) h (N h) := ⟨_, rfl⟩
  have hRB : RB G s.heap a f L u V := hLe ▸ hRW.1
  obtain ⟨hV, hX, hT, hE, hLi, hBa, hBk⟩ := id hRB
  obtain ⟨hT1, hT2, hT3, hT4⟩ := id hT
  obtain ⟨hL1, hL2, hL3, hL4, hL5, hL6⟩ := id hLi
  have hn := hV.n
  have hnl := hV.l
  have hLl : ∀ h, 0 ≤ h → h < V 0 0 → ((L h).length : Int) = V 6 h := fun h z1 z2 => by rw [hLe]; exact (congrArg Int.ofNat (mkL_len _ _ _ _)).trans (hN h z1 z2).1
  have hMe : ∀ h, 0 ≤ h → h < V 0 0 → ∀ e ∈ L h, eAd e ≠ f 1 h ∧ eAd e ≠ f 2 h := fun h z1 z2 e he => by
    rw [hLe] at he
    obtain ⟨j, hj, rfl⟩ := mkL_mem he
    have w := (hN h z1 z2).2.1 j hj
    exact ⟨fun z => absurd (hRW.2.2.2 19 _ 11 h (dE z1 z2 w.1 w.2) (dH 11 (by omega) (by omega) z1 z2) z).1 (by omega), fun z => absurd (hRW.2.2.2 19 _ 12 h (dE z1 z2 w.1 w.2) (dH 12 (by omega) (by omega) z1 z2) z).1 (by omega)⟩
  have hM12 : ∀ h, 0 ≤ h → h < V 0 0 → f 1 h ≠ f 2 h := fun h z1 z2 z => absurd (hRW.2.2.2 11 h 12 h (dH 11 (by omega) (by omega) z1 z2) (dH 12 (by omega) (by omega) z1 z2) z).1 (by omega)
  have hlt_0 := (hX).lt
  have hlt_1 := (hT2).lt
  have hlt_2 := (hT3).lt
  have hlt_3 := (hL2).lt
  have hlt_4 := (hL3).lt
  have hlt_5 := (hBa).lt
  refine lv_aload_n hx hb dX8_rent_0 rfl (lv_at hl 0 rfl) ?_
  refine j_get (ci := 8) (v := .ref (a 1)) hx hb hts inX8_ hown hK hX rfl 0 (by decide) lk0 (fun _ h9 => h9) rfl dX8_rent_1 ?_
  refine lv_iload_n hx hb dX8_rent_4 rfl (lv_at hl 1 rfl) ?_
  refine k_V (ci := 5) (b := a 1) (As := [.int (J h)]) (rest := []) (v := va_rf (qN (V 0 0) (f 0) h)) hx hb hml hown hts hK hl.1 (c_X5_at l G (a 1) (a 2) (f 0) (f 1) V h (by omega)) (cwV 1 hts gX8_rent_X5_at rfl rfl rfl (by decide +kernel) ⟨Nat.le_of_ble_eq_true rfl, Nat.le_of_ble_eq_true rfl⟩) hT2 rfl hT rfl rfl (Nat.le_of_ble_eq_true rfl) dX8_rent_5 ⟨Nat.zero_le _, Nat.zero_le _⟩ ?_
  by_cases sp5 : 0 ≤ h ∧ h < V 0 0
  · refine j_qs (b := f 0 h) (qN_s sp5) ?_
    have hce_1 : At G s.heap (f 0 h) (eHo V (f 1) h) := hT4 h sp5.1 sp5.2
    have hih_2 := hT1.h sp5.1 sp5.2
    refine lv_astore_n (lv' := [(3, .ref (f 0 h)), (0, .ref (a 0)), (1, .int (J h)), (2, .int (J r))]) hx hb dX8_rent_8 rfl hl (by decide) rfl (fun ls hl => ?_)
    refine lv_aload_n hx hb dX8_rent_9 rfl (lv_at hl 0 rfl) ?_
    refine lv_ifnull hx hb dX8_rent_10 ?_
    refine lv_iload_n hx hb dX8_rent_13 rfl (lv_at hl 3 rfl) ?_
    refine j_const hx hb dX8_rent_14 ?_
    refine j_ldc hx hb hown lk1 (z := 100000) rfl dX8_rent_15 ?_
    refine k_S (As := [.int (J r), .int (J 0), .int (J 100000)]) (rest := []) (v := .int (J (pI (0 ≤ r ∧ r ≤ 100000)))) hx hb hml hown hts hK hl.1 (c_X8_isWithin l G r 0 100000 (by omega) (by omega) (by omega)) (va_cwS 3 hts gX8_rent_X8_isWithin rfl rfl rfl (by decide +kernel) ⟨Nat.le_of_ble_eq_true rfl, Nat.le_of_ble_eq_true rfl⟩) trivial rfl rfl (Nat.le_of_ble_eq_true rfl) dX8_rent_17 ⟨Nat.zero_le _, Nat.zero_le _⟩ ?_
    refine j_neP (tgt := 25) hx hb dX8_rent_20 (by decide) (fun c20 => ?_) (fun c20 => ?_)
    · refine lv_aload_n hx hb dX8_rent_25 rfl (lv_at hl 0 rfl) ?_
      refine j_get (ci := 2) (v := .int (J (V 5 h))) hx hb hts inX2_ hown hK hce_1 rfl 6 (by decide) lk2 (fun _ h9 => h9) rfl dX8_rent_26 ?_
      refine lv_istore (lv' := [(4, .int (J (V 5 h))), (3, .ref (f 0 h)), (0, .ref (a 0)), (1, .int (J h)), (2, .int (J r))]) hx hb dX8_rent_29 hl (by decide) rfl (fun ls hl => ?_)
      refine lv_aload_n hx hb dX8_rent_31 rfl (lv_at hl 1 rfl) ?_
      refine lv_iload_n hx hb dX8_rent_32 rfl (lv_at hl 4 rfl) ?_
      refine j_put (ci := 2) (A := A) (ty := .int) hx hb hts inX2_ tyX2 tyX2_ok nmX2 hown hK hce_1 rfl 6 (by decide) lk2 (fun _ h9 => h9) rfl (by decide +kernel) rfl rfl (Nat.le_of_ble_eq_true rfl) hL0 (hA 10 h (dH 10 (by omega) (by omega) (by omega) (by omega))) dX8_rent_33 (fun H_3 lo_4 hc_5 hx_6 hL_7 => ?_)
      have hc_5 : At G H_3 (f 0 h) (eO 2 [.int (J h), .int (J (V 1 h)), .int (J (V 2 h)), .int (J (V 3 h)), .int (J (V 4 h)), .ref (f 1 h), .int (J r)]) := hc_5
      have hF_14 : Fr s.heap H_3 A 0 := hF0.x hx_6 (fun _ => (hA 10 h (dH 10 (by omega) (by omega) (by omega) (by omega))))
      refine lv_iload hx hb dX8_rent_36 (lv_at hl 0 rfl) ?_
      exact r_iE hx hb hr hlk (Nat.le_of_ble_eq_true rfl) (Nat.le_of_ble_eq_true rfl) (congrArg (fun z => some (Value.int (J z))) (show (V 5 h : Int) = if (0 ≤ h ∧ h < V 0 0) ∧ 0 ≤ r ∧ r ≤ 100000 then V 5 h else -1 from (if_pos (by omega)).symm)) hL_7 (WX.eq (WX.of hF_14 (hRW.rent (r := r) (by omega) (by omega) (by omega) (Hx_fr hx_6) (by unfold eHo; rw [show (vu V 5 h r) 5 h = r from uf_s _ _ _]; exact hc_5)) hA) (if_pos (by omega))) dX8_rent_38
    · refine j_const hx hb dX8_rent_23 ?_
      exact r_iE hx hb hr hlk (Nat.le_of_ble_eq_true rfl) (Nat.le_of_ble_eq_true rfl) (congrArg (fun z => some (Value.int (J z))) (show ((-1) : Int) = if (0 ≤ h ∧ h < V 0 0) ∧ 0 ≤ r ∧ r ≤ 100000 then V 5 h else -1 from (if_neg (by omega)).symm)) hL0 (WX.eq (WX.of hF0 hRW hA) (if_neg (by omega))) dX8_rent_24
  · refine j_qn (qN_n sp5) ?_
    refine lv_astore_nN (lv' := [(3, .null), (0, .ref (a 0)), (1, .int (J h)), (2, .int (J r))]) hx hb dX8_rent_8 rfl hl (by decide) rfl (fun ls hl => ?_)
    refine lv_aload_nN hx hb dX8_rent_9 rfl (lv_at hl 0 rfl) ?_
    refine lv_ifnullN (tgt := 23) hx hb dX8_rent_10 (by decide) ?_
    refine j_const hx hb dX8_rent_23 ?_
    exact r_iE hx hb hr hlk (Nat.le_of_ble_eq_true rfl) (Nat.le_of_ble_eq_true rfl) (congrArg (fun z => some (Value.int (J z))) (show ((-1) : Int) = if (0 ≤ h ∧ h < V 0 0) ∧ 0 ≤ r ∧ r ≤ 100000 then V 5 h else -1 from (if_neg (by omega)).symm)) hL0 (WX.eq (WX.of hF0 hRW hA) (if_neg (by omega))) dX8_rent_24

abbrev rmX8_strike : Room := { frames := 1, cells := 0, slots := 0, locals := 23 }
set_option maxHeartbeats 4000000 in
set_option maxRecDepth 100000 in
theorem c_X8_strike (l : Launch) (G : GG) (A : Nat → Prop) (a : Nat → Nat) (f : Nat → Int → Nat) (N : Int → List Int) (u : Nat → Int → Int) (ys : Int → Int) (V : St) (h : Int) (sz : Nat) (hA : ∀ t i, dom V t i → A (adr a f t i)) (hAn : ∀ x, sz ≤ x → A x) (g_h : -2147483648 ≤ h ∧ h < 2147483648) : ME l G yX8_strike wsX8_strike rmX8_strike [.ref (a 0), .int (J h)] (fun H => H.size = sz ∧ (RW G H a f N u ys V)) (some (.int (J (if 0 ≤ h ∧ h < V 0 0 then (if V 6 h = 0 then -2 else V 6 h - 1) else -1))) : Option Value) A (fun H H1 => WX G A a (if (0 ≤ h ∧ h < V 0 0) ∧ V 6 h ≠ 0 then sSk V h else V) H H1) 0 0 := by
  refine ME.of (cc := cX8_strike) (maxL := 3) (ret := (some .int)) (by decide) rfl (Nat.le_of_ble_eq_true rfl) ?_
  intro p e s m below meth c hx hb hr hml hown hts hlk hin hK hP ls hl
  have hL0 : ∀ z9 ∈ ([] : List Loc), A z9.base := fun z9 h => absurd h List.not_mem_nil
  have hown : s.vm.findClass RX8 = some m.cls := hown
  have hl : lv_has ls 3 [(0, .ref (a 0)), (1, .int (J h))] := hl
  have inX1_ : ∀ w ∈ u_ws RX1 TX1 2, w ∈ wsX8_strike := by decide +kernel
  have inX2_ : ∀ w ∈ u_ws RX2 TX2 7, w ∈ wsX8_strike := by decide +kernel
  have inX8_ : ∀ w ∈ u_ws RX8 TX8 4, w ∈ wsX8_strike := by decide +kernel
  have lk0 := hts (.fieldLink RX8 12 "RateBook" "town" "LRateBook$Town;") (by decide +kernel)
  have lk1 := hts (.fieldLink RX8 105 "RateBook$House" "events" "LRateBook$Events;") (by decide +kernel)
  obtain ⟨hsz, hP⟩ := hP
  have hF0 : Fr s.heap s.heap A 0 := Fr.rf
  have hRW : RW G s.heap a f N u ys V := hP
  have hN := hRW.2.2.1
  obtain ⟨L, hLe⟩ : ∃ L : Int → List EvT, L = fun h => mkL V (f 9) h (N h) := ⟨_, rfl⟩
  have hRB : RB G s.heap a f L u V := hLe ▸ hRW.1
  obtain ⟨hV, hX, hT, hE, hLi, hBa, hBk⟩ := id hRB
  obtain ⟨hT1, hT2, hT3, hT4⟩ := id hT
  obtain ⟨hL1, hL2, hL3, hL4, hL5, hL6⟩ := id hLi
  have hn := hV.n
  have hnl := hV.l
  have hLl : ∀ h, 0 ≤ h → h < V 0 0 → ((L h).length : Int) = V 6 h := fun h z1 z2 => by rw [hLe]; exact (congrArg Int.ofNat (mkL_len _ _ _ _)).trans (hN h z1 z2).1
  have hMe : ∀ h, 0 ≤ h → h < V 0 0 → ∀ e ∈ L h, eAd e ≠ f 1 h ∧ eAd e ≠ f 2 h := fun h z1 z2 e he => by
    rw [hLe] at he
    obtain ⟨j, hj, rfl⟩ := mkL_mem he
    have w := (hN h z1 z2).2.1 j hj
    exact ⟨fun z => absurd (hRW.2.2.2 19 _ 11 h (dE z1 z2 w.1 w.2) (dH 11 (by omega) (by omega) z1 z2) z).1 (by omega), fun z => absurd (hRW.2.2.2 19 _ 12 h (dE z1 z2 w.1 w.2) (dH 12 (by omega) (by omega) z1 z2) z).1 (by omega)⟩
  have hM12 : ∀ h, 0 ≤ h → h < V 0 0 → f 1 h ≠ f 2 h := fun h z1 z2 z => absurd (hRW.2.2.2 11 h 12 h (dH 11 (by omega) (by omega) z1 z2) (dH 12 (by omega) (by omega) z1 z2) z).1 (by omega)
  have hlt_0 := (hX).lt
  have hlt_1 := (hT2).lt
  have hlt_2 := (hT3).lt
  have hlt_3 := (hL2).lt
  have hlt_4 := (hL3).lt
  have hlt_5 := (hBa).lt
  refine lv_aload_n hx hb dX8_strike_0 rfl (lv_at hl 0 rfl) ?_
  refine j_get (ci := 8) (v := .ref (a 1)) hx hb hts inX8_ hown hK hX rfl 0 (by decide) lk0 (fun _ h9 => h9) rfl dX8_strike_1 ?_
  refine lv_iload_n hx hb dX8_strike_4 rfl (lv_at hl 1 rfl) ?_
  refine k_V (ci := 5) (b := a 1) (As := [.int (J h)]) (rest := []) (v := va_rf (qN (V 0 0) (f 0) h)) hx hb hml hown hts hK hl.1 (c_X5_at l G (a 1) (a 2) (f 0) (f 1) V h (by omega)) (cwV 1 hts gX8_strike_X5_at rfl rfl rfl (by decide +kernel) ⟨Nat.le_of_ble_eq_true rfl, Nat.le_of_ble_eq_true rfl⟩) hT2 rfl hT rfl rfl (Nat.le_of_ble_eq_true rfl) dX8_strike_5 ⟨Nat.zero_le _, Nat.zero_le _⟩ ?_
  by_cases sp5 : 0 ≤ h ∧ h < V 0 0
  · refine j_qs (b := f 0 h) (qN_s sp5) ?_
    have hce_1 : At G s.heap (f 0 h) (eHo V (f 1) h) := hT4 h sp5.1 sp5.2
    have hih_2 := hT1.h sp5.1 sp5.2
    refine lv_astore_n (lv' := [(2, .ref (f 0 h)), (0, .ref (a 0)), (1, .int (J h))]) hx hb dX8_strike_8 rfl hl (by decide) rfl (fun ls hl => ?_)
    refine lv_aload_n hx hb dX8_strike_9 rfl (lv_at hl 0 rfl) ?_
    refine lv_ifnonnull (tgt := 15) hx hb dX8_strike_10 (by decide) ?_
    refine lv_aload_n hx hb dX8_strike_15 rfl (lv_at hl 0 rfl) ?_
    refine j_get (ci := 2) (v := .ref (f 1 h)) hx hb hts inX2_ hown hK hce_1 rfl 5 (by decide) lk1 (fun _ h9 => h9) rfl dX8_strike_16 ?_
    have ce_3 : At G s.heap (f 1 h) (eO 1 [.ref (f 2 h), .int (J ((L h).length : Int))]) := (hE h (by omega) (by omega)).1
    refine j_getN (ci := 1) (v := .int (J ((L h).length : Int))) hx hb hts inX1_ hown hK ce_3 rfl 1 (by decide) hK.2.1.1 (fun _ h9 => h9) rfl dX8_strike_19 ?_
    have hll0 := hLl h (by omega) (by omega)
    refine j_ne0 (tgt := 28) hx hb (by omega) (by omega) dX8_strike_22 (by decide) (fun c22 => ?_) (fun c22 => ?_)
    · refine lv_aload_n hx hb dX8_strike_28 rfl (lv_at hl 0 rfl) ?_
      refine j_get (ci := 2) (v := .ref (f 1 h)) hx hb hts inX2_ hown hK hce_1 rfl 5 (by decide) lk1 (fun _ h9 => h9) rfl dX8_strike_29 ?_
      have hll := hLl h (by omega) (by omega)
      have hl1 : ((drL (L h) (((L h).length : Int) - 1)).length : Int) = ((L h).length : Int) - 1 := by rw [hLe]; exact (hN h (by omega) (by omega)).len1 (by have := hV.h (i := h) (by omega) (by omega); omega)
      refine e_V (A := A) (ci := 1) (b := f 1 h) (As := []) (rest := []) hx hb hml hown hts hK hl.1 (c_X1_dropLatestTold l G (f 1 h) (f 2 h) (L h) sz (by have := hV.h (i := h) (by omega) (by omega); omega) hl1 (⟨hM12 h (by omega) (by omega), hMe h (by omega) (by omega)⟩)) (cwV 0 hts gX8_strike_X1_dropLatestTold rfl rfl rfl (by decide +kernel) ⟨Nat.le_of_ble_eq_true rfl, Nat.le_of_ble_eq_true rfl⟩) ce_3 rfl (⟨by have z1 := hF0.1; omega, hE h (by omega) (by omega)⟩) rfl rfl (Nat.le_of_ble_eq_true rfl) dX8_strike_32 ⟨Nat.le_of_ble_eq_true rfl, Nat.le_of_ble_eq_true rfl⟩ hL0 (fun x hx => hx.elim (fun z => z.elim (fun z => by rw [z]; exact (hA 11 h (dH 11 (by omega) (by omega) (by omega) (by omega)))) (fun z => by rw [z]; exact (hA 12 h (dH 12 (by omega) (by omega) (by omega) (by omega))))) (fun z => hAn x (by omega))) (fun H_4 lo_5 hp_6 hL_7 => ?_)
      show W p l e (headSpec wsX8_strike rmX8_strike).room s m ([.ref (a 0), .int (J h)] : List Value).toArray below meth c H_4 lo_5 (0 + 0) (0 + 0) (MQ below (QE (some (.int (J (if 0 ≤ h ∧ h < V 0 0 then (if V 6 h = 0 then -2 else V 6 h - 1) else -1))) : Option Value) (fun H H1 => WX G A a (if (0 ≤ h ∧ h < V 0 0) ∧ V 6 h ≠ 0 then sSk V h else V) H H1)) ([.ref (a 0), .int (J h)] : List Value).toArray s 0 0 A) (F0 m 35 ls [])
      have hf_9 : Fr s.heap H_4 (fun x => x = (f 1 h) ∨ x = (f 2 h)) 0 := hp_6.1
      have hF_8 : Fr s.heap H_4 A 0 := hF0.f hf_9 (fun x hx z => z.elim (fun z => by rw [z] at hx ⊢; exact (fun _ => (hA 11 h (dH 11 (by omega) (by omega) (by omega) (by omega)))) hx) (fun z => by rw [z] at hx ⊢; exact (fun _ => (hA 12 h (dH 12 (by omega) (by omega) (by omega) (by omega)))) hx))
      have hc1 := hp_6.2.1
      have hc0 : At G H_4 (f 0 h) (eHo V (f 1) h) := (hT4 h (by omega) (by omega)).f hp_6.1 (fun z => z.elim (fun z => absurd (hRW.2.2.2 10 h 11 h (dH 10 (by omega) (by omega) (by omega) (by omega)) (dH 11 (by omega) (by omega) (by omega) (by omega)) z).1 (by omega)) (fun z => absurd (hRW.2.2.2 10 h 12 h (dH 10 (by omega) (by omega) (by omega) (by omega)) (dH 12 (by omega) (by omega) (by omega) (by omega)) z).1 (by omega)))
      refine lv_aload_n hx hb dX8_strike_35 rfl (lv_at hl 0 rfl) ?_
      refine j_get (ci := 2) (v := .ref (f 1 h)) hx hb hts inX2_ hown hK hc0 rfl 5 (by decide) lk1 (fun _ h9 => h9) rfl dX8_strike_36 ?_
      refine j_getN (ci := 1) (v := .int (J ((drL (L h) (((L h).length : Int) - 1)).length : Int))) hx hb hts inX1_ hown hK hc1 rfl 1 (by decide) hK.2.1.1 (fun _ h9 => h9) rfl dX8_strike_39 ?_
      exact r_iE hx hb hr hlk (Nat.le_of_ble_eq_true rfl) (Nat.le_of_ble_eq_true rfl) (congrArg (fun z => some (Value.int (J z))) (show (((drL (L h) (((L h).length : Int) - 1)).length : Int) : Int) = if 0 ≤ h ∧ h < V 0 0 then (if V 6 h = 0 then -2 else V 6 h - 1) else -1 from by rw [if_pos (by omega), if_neg (by omega)]; omega)) hL_7 (WX.eq (WX.of hF_8 (hRW.sk (hh := h) (by omega) (by omega) (by have := hV.h (i := h) (by omega) (by omega); omega) hp_6.1 (by have z := hp_6.2; rw [hLe] at z; exact z)) (domSk hA)) (if_pos (by omega))) dX8_strike_42
    · refine j_bi hx hb dX8_strike_25 (by decide +kernel) ?_
      exact r_iE hx hb hr hlk (Nat.le_of_ble_eq_true rfl) (Nat.le_of_ble_eq_true rfl) (congrArg (fun z => some (Value.int (J z))) (show ((-2) : Int) = if 0 ≤ h ∧ h < V 0 0 then (if V 6 h = 0 then -2 else V 6 h - 1) else -1 from by rw [if_pos (by omega), if_pos (by omega)])) hL0 (WX.eq (WX.of hF0 hRW hA) (if_neg (by omega))) dX8_strike_27
  · refine j_qn (qN_n sp5) ?_
    refine lv_astore_nN (lv' := [(2, .null), (0, .ref (a 0)), (1, .int (J h))]) hx hb dX8_strike_8 rfl hl (by decide) rfl (fun ls hl => ?_)
    refine lv_aload_nN hx hb dX8_strike_9 rfl (lv_at hl 0 rfl) ?_
    refine lv_ifnonnullN hx hb dX8_strike_10 ?_
    refine j_const hx hb dX8_strike_13 ?_
    exact r_iE hx hb hr hlk (Nat.le_of_ble_eq_true rfl) (Nat.le_of_ble_eq_true rfl) (congrArg (fun z => some (Value.int (J z))) (show ((-1) : Int) = if 0 ≤ h ∧ h < V 0 0 then (if V 6 h = 0 then -2 else V 6 h - 1) else -1 from (if_neg (by omega)).symm)) hL0 (WX.eq (WX.of hF0 hRW hA) (if_neg (by omega))) dX8_strike_14

abbrev rmX8_event : Room := { frames := 3, cells := 1, slots := 4, locals := 61 }
set_option maxHeartbeats 4000000 in
set_option maxRecDepth 100000 in
theorem c_X8_event (l : Launch) (G : GG) (A : Nat → Prop) (a : Nat → Nat) (f : Nat → Int → Nat) (N : Int → List Int) (u : Nat → Int → Int) (ys : Int → Int) (V : St) (h d k v : Int) (sz : Nat) (hA : ∀ t i, dom V t i → A (adr a f t i)) (hAn : ∀ x, sz ≤ x → A x) (g_h : -2147483648 ≤ h ∧ h < 2147483648) (g_d : -2147483648 ≤ d ∧ d < 2147483648) (g_k : -2147483648 ≤ k ∧ k < 2147483648) (g_v : -2147483648 ≤ v ∧ v < 2147483648) : ME l G yX8_event wsX8_event rmX8_event [.ref (a 0), .int (J h), .int (J d), .int (J k), .int (J v)] (fun H => H.size = sz ∧ (RW G H a f N u ys V)) (some (.int (J (if (0 ≤ h ∧ h < V 0 0) ∧ (0 ≤ d ∧ d < 3650) ∧ ((k = 0 ∧ 1 ≤ v ∧ v ≤ 500) ∨ (k = 1 ∧ 0 ≤ v ∧ v ≤ 3) ∨ (k = 2 ∧ 1 ≤ v ∧ v ≤ 900)) then (if V 6 h = 12 then -3 else V 6 h + 1) else -1))) : Option Value) A (fun H H1 => WX G A a (if ((0 ≤ h ∧ h < V 0 0) ∧ (0 ≤ d ∧ d < 3650) ∧ ((k = 0 ∧ 1 ≤ v ∧ v ≤ 500) ∨ (k = 1 ∧ 0 ≤ v ∧ v ≤ 3) ∨ (k = 2 ∧ 1 ≤ v ∧ v ≤ 900))) ∧ V 6 h ≠ 12 then sAd V h d k v else V) H H1) 1 4 := by
  refine ME.of (cc := cX8_event) (maxL := 6) (ret := (some .int)) (by decide) rfl (Nat.le_of_ble_eq_true rfl) ?_
  intro p e s m below meth c hx hb hr hml hown hts hlk hin hK hP ls hl
  have hL0 : ∀ z9 ∈ ([] : List Loc), A z9.base := fun z9 h => absurd h List.not_mem_nil
  have hown : s.vm.findClass RX8 = some m.cls := hown
  have hl : lv_has ls 6 [(0, .ref (a 0)), (1, .int (J h)), (2, .int (J d)), (3, .int (J k)), (4, .int (J v))] := hl
  have inX1_ : ∀ w ∈ u_ws RX1 TX1 2, w ∈ wsX8_event := by decide +kernel
  have inX2_ : ∀ w ∈ u_ws RX2 TX2 7, w ∈ wsX8_event := by decide +kernel
  have inX8_ : ∀ w ∈ u_ws RX8 TX8 4, w ∈ wsX8_event := by decide +kernel
  have lk0 := hts (.fieldLink RX8 12 "RateBook" "town" "LRateBook$Town;") (by decide +kernel)
  have lk1 := hts (.fieldLink RX8 105 "RateBook$House" "events" "LRateBook$Events;") (by decide +kernel)
  obtain ⟨hsz, hP⟩ := hP
  have hF0 : Fr s.heap s.heap A 0 := Fr.rf
  have hRW : RW G s.heap a f N u ys V := hP
  have hN := hRW.2.2.1
  obtain ⟨L, hLe⟩ : ∃ L : Int → List EvT, L = fun h => mkL V (f 9) h (N h) := ⟨_, rfl⟩
  have hRB : RB G s.heap a f L u V := hLe ▸ hRW.1
  obtain ⟨hV, hX, hT, hE, hLi, hBa, hBk⟩ := id hRB
  obtain ⟨hT1, hT2, hT3, hT4⟩ := id hT
  obtain ⟨hL1, hL2, hL3, hL4, hL5, hL6⟩ := id hLi
  have hn := hV.n
  have hnl := hV.l
  have hLl : ∀ h, 0 ≤ h → h < V 0 0 → ((L h).length : Int) = V 6 h := fun h z1 z2 => by rw [hLe]; exact (congrArg Int.ofNat (mkL_len _ _ _ _)).trans (hN h z1 z2).1
  have hMe : ∀ h, 0 ≤ h → h < V 0 0 → ∀ e ∈ L h, eAd e ≠ f 1 h ∧ eAd e ≠ f 2 h := fun h z1 z2 e he => by
    rw [hLe] at he
    obtain ⟨j, hj, rfl⟩ := mkL_mem he
    have w := (hN h z1 z2).2.1 j hj
    exact ⟨fun z => absurd (hRW.2.2.2 19 _ 11 h (dE z1 z2 w.1 w.2) (dH 11 (by omega) (by omega) z1 z2) z).1 (by omega), fun z => absurd (hRW.2.2.2 19 _ 12 h (dE z1 z2 w.1 w.2) (dH 12 (by omega) (by omega) z1 z2) z).1 (by omega)⟩
  have hM12 : ∀ h, 0 ≤ h → h < V 0 0 → f 1 h ≠ f 2 h := fun h z1 z2 z => absurd (hRW.2.2.2 11 h 12 h (dH 11 (by omega) (by omega) z1 z2) (dH 12 (by omega) (by omega) z1 z2) z).1 (by omega)
  have hlt_0 := (hX).lt
  have hlt_1 := (hT2).lt
  have hlt_2 := (hT3).lt
  have hlt_3 := (hL2).lt
  have hlt_4 := (hL3).lt
  have hlt_5 := (hBa).lt
  refine lv_aload_n hx hb dX8_event_0 rfl (lv_at hl 0 rfl) ?_
  refine j_get (ci := 8) (v := .ref (a 1)) hx hb hts inX8_ hown hK hX rfl 0 (by decide) lk0 (fun _ h9 => h9) rfl dX8_event_1 ?_
  refine lv_iload_n hx hb dX8_event_4 rfl (lv_at hl 1 rfl) ?_
  refine k_V (ci := 5) (b := a 1) (As := [.int (J h)]) (rest := []) (v := va_rf (qN (V 0 0) (f 0) h)) hx hb hml hown hts hK hl.1 (c_X5_at l G (a 1) (a 2) (f 0) (f 1) V h (by omega)) (cwV 1 hts gX8_event_X5_at rfl rfl rfl (by decide +kernel) ⟨Nat.le_of_ble_eq_true rfl, Nat.le_of_ble_eq_true rfl⟩) hT2 rfl hT rfl rfl (Nat.le_of_ble_eq_true rfl) dX8_event_5 ⟨Nat.zero_le _, Nat.zero_le _⟩ ?_
  by_cases sp5 : 0 ≤ h ∧ h < V 0 0
  · refine j_qs (b := f 0 h) (qN_s sp5) ?_
    have hce_1 : At G s.heap (f 0 h) (eHo V (f 1) h) := hT4 h sp5.1 sp5.2
    have hih_2 := hT1.h sp5.1 sp5.2
    refine lv_astore (lv' := [(5, .ref (f 0 h)), (0, .ref (a 0)), (1, .int (J h)), (2, .int (J d)), (3, .int (J k)), (4, .int (J v))]) hx hb dX8_event_8 hl (by decide) rfl (fun ls hl => ?_)
    refine lv_aload hx hb dX8_event_10 (lv_at hl 0 rfl) ?_
    refine lv_ifnull hx hb dX8_event_12 ?_
    refine lv_iload_n hx hb dX8_event_15 rfl (lv_at hl 3 rfl) ?_
    refine j_si hx hb dX8_event_16 (by decide +kernel) ?_
    refine k_S (As := [.int (J d), .int (J 3650)]) (rest := []) (v := .int (J (pI (0 ≤ d ∧ d < 3650)))) hx hb hml hown hts hK hl.1 (c_X8_isOf l G d 3650 (by omega) (by omega)) (va_cwS 2 hts gX8_event_X8_isOf rfl rfl rfl (by decide +kernel) ⟨Nat.le_of_ble_eq_true rfl, Nat.le_of_ble_eq_true rfl⟩) trivial rfl rfl (Nat.le_of_ble_eq_true rfl) dX8_event_19 ⟨Nat.zero_le _, Nat.zero_le _⟩ ?_
    refine j_eqP (tgt := 34) hx hb dX8_event_22 (by decide) (fun c22 => ?_) (fun c22 => ?_)
    · refine j_const hx hb dX8_event_34 ?_
      exact r_iE hx hb hr hlk (Nat.le_of_ble_eq_true rfl) (Nat.le_of_ble_eq_true rfl) (congrArg (fun z => some (Value.int (J z))) (show ((-1) : Int) = if (0 ≤ h ∧ h < V 0 0) ∧ (0 ≤ d ∧ d < 3650) ∧ ((k = 0 ∧ 1 ≤ v ∧ v ≤ 500) ∨ (k = 1 ∧ 0 ≤ v ∧ v ≤ 3) ∨ (k = 2 ∧ 1 ≤ v ∧ v ≤ 900)) then (if V 6 h = 12 then -3 else V 6 h + 1) else -1 from (if_neg (by omega)).symm)) hL0 (WX.eq (WX.of hF0 hRW hA) (if_neg (by omega))) dX8_event_35
    · refine lv_iload_n hx hb dX8_event_25 rfl (lv_at hl 4 rfl) ?_
      refine lv_iload hx hb dX8_event_26 (lv_at hl 5 rfl) ?_
      refine k_S (As := [.int (J k), .int (J v)]) (rest := []) (v := .int (J (pI ((k = 0 ∧ 1 ≤ v ∧ v ≤ 500) ∨ (k = 1 ∧ 0 ≤ v ∧ v ≤ 3) ∨ (k = 2 ∧ 1 ≤ v ∧ v ≤ 900))))) hx hb hml hown hts hK hl.1 (c_X8_isEvent l G k v (by omega) (by omega)) (va_cwS 2 hts gX8_event_X8_isEvent rfl rfl rfl (by decide +kernel) ⟨Nat.le_of_ble_eq_true rfl, Nat.le_of_ble_eq_true rfl⟩) trivial rfl rfl (Nat.le_of_ble_eq_true rfl) dX8_event_28 ⟨Nat.zero_le _, Nat.zero_le _⟩ ?_
      refine j_neP (tgt := 36) hx hb dX8_event_31 (by decide) (fun c31 => ?_) (fun c31 => ?_)
      · refine lv_aload hx hb dX8_event_36 (lv_at hl 0 rfl) ?_
        refine j_get (ci := 2) (v := .ref (f 1 h)) hx hb hts inX2_ hown hK hce_1 rfl 5 (by decide) lk1 (fun _ h9 => h9) rfl dX8_event_38 ?_
        have hll0 := hLl h (by omega) (by omega)
        have hr60 := hV.h (i := h) (by omega) (by omega)
        have ce_3 : At G s.heap (f 1 h) (eO 1 [.ref (f 2 h), .int (J ((L h).length : Int))]) := (hE h (by omega) (by omega)).1
        refine k_V (ci := 1) (b := f 1 h) (As := []) (rest := []) (v := .int (J (pI (12 ≤ (L h).length)))) hx hb hml hown hts hK hl.1 (c_X1_isFull l G (f 1 h) (f 2 h) (L h)) (cwV 0 hts gX8_event_X1_isFull rfl rfl rfl (by decide +kernel) ⟨Nat.le_of_ble_eq_true rfl, Nat.le_of_ble_eq_true rfl⟩) ce_3 rfl (hE h (by omega) (by omega)) rfl rfl (Nat.le_of_ble_eq_true rfl) dX8_event_41 ⟨Nat.zero_le _, Nat.zero_le _⟩ ?_
        refine j_eqP (tgt := 50) hx hb dX8_event_44 (by decide) (fun c44 => ?_) (fun c44 => ?_)
        · refine lv_aload hx hb dX8_event_50 (lv_at hl 0 rfl) ?_
          refine j_get (ci := 2) (v := .ref (f 1 h)) hx hb hts inX2_ hown hK hce_1 rfl 5 (by decide) lk1 (fun _ h9 => h9) rfl dX8_event_52 ?_
          refine lv_iload_n hx hb dX8_event_55 rfl (lv_at hl 3 rfl) ?_
          refine lv_iload_n hx hb dX8_event_56 rfl (lv_at hl 4 rfl) ?_
          refine lv_iload hx hb dX8_event_57 (lv_at hl 5 rfl) ?_
          have hll := hLl h (by omega) (by omega)
          have hr6 := hV.h (i := h) (by omega) (by omega)
          refine e_V (A := A) (ci := 1) (b := f 1 h) (As := [.int (J d), .int (J k), .int (J v)]) (rest := []) hx hb hml hown hts hK hl.1 (c_X1_add l G (f 1 h) (f 2 h) (L h) d k v sz (by omega) (by omega) (by omega) (⟨hM12 h (by omega) (by omega), hMe h (by omega) (by omega)⟩)) (cwV 3 hts gX8_event_X1_add rfl rfl rfl (by decide +kernel) ⟨Nat.le_of_ble_eq_true rfl, Nat.le_of_ble_eq_true rfl⟩) ce_3 rfl (⟨by have z1 := hF0.1; omega, hE h (by omega) (by omega)⟩) rfl rfl (Nat.le_of_ble_eq_true rfl) dX8_event_59 ⟨Nat.le_of_ble_eq_true rfl, Nat.le_of_ble_eq_true rfl⟩ hL0 (fun x hx => hx.elim (fun z => z.elim (fun z => by rw [z]; exact (hA 11 h (dH 11 (by omega) (by omega) (by omega) (by omega)))) (fun z => by rw [z]; exact (hA 12 h (dH 12 (by omega) (by omega) (by omega) (by omega))))) (fun z => hAn x (by omega))) (fun H_4 lo_5 hp_6 hL_7 => ?_)
          show W p l e (headSpec wsX8_event rmX8_event).room s m ([.ref (a 0), .int (J h), .int (J d), .int (J k), .int (J v)] : List Value).toArray below meth c H_4 lo_5 (0 + 1) (0 + 4) (MQ below (QE (some (.int (J (if (0 ≤ h ∧ h < V 0 0) ∧ (0 ≤ d ∧ d < 3650) ∧ ((k = 0 ∧ 1 ≤ v ∧ v ≤ 500) ∨ (k = 1 ∧ 0 ≤ v ∧ v ≤ 3) ∨ (k = 2 ∧ 1 ≤ v ∧ v ≤ 900)) then (if V 6 h = 12 then -3 else V 6 h + 1) else -1))) : Option Value) (fun H H1 => WX G A a (if ((0 ≤ h ∧ h < V 0 0) ∧ (0 ≤ d ∧ d < 3650) ∧ ((k = 0 ∧ 1 ≤ v ∧ v ≤ 500) ∨ (k = 1 ∧ 0 ≤ v ∧ v ≤ 3) ∨ (k = 2 ∧ 1 ≤ v ∧ v ≤ 900))) ∧ V 6 h ≠ 12 then sAd V h d k v else V) H H1)) ([.ref (a 0), .int (J h), .int (J d), .int (J k), .int (J v)] : List Value).toArray s 1 4 A) (F0 m 62 ls [])
          have hf_9 : Fr s.heap H_4 (fun x => x = (f 1 h) ∨ x = (f 2 h)) 1 := hp_6.1
          have hF_8 : Fr s.heap H_4 A 1 := hF0.f hf_9 (fun x hx z => z.elim (fun z => by rw [z] at hx ⊢; exact (fun _ => (hA 11 h (dH 11 (by omega) (by omega) (by omega) (by omega)))) hx) (fun z => by rw [z] at hx ⊢; exact (fun _ => (hA 12 h (dH 12 (by omega) (by omega) (by omega) (by omega)))) hx))
          have hc1 := hp_6.2.1
          have hc0 : At G H_4 (f 0 h) (eHo V (f 1) h) := (hT4 h (by omega) (by omega)).f hp_6.1 (fun z => z.elim (fun z => absurd (hRW.2.2.2 10 h 11 h (dH 10 (by omega) (by omega) (by omega) (by omega)) (dH 11 (by omega) (by omega) (by omega) (by omega)) z).1 (by omega)) (fun z => absurd (hRW.2.2.2 10 h 12 h (dH 10 (by omega) (by omega) (by omega) (by omega)) (dH 12 (by omega) (by omega) (by omega) (by omega)) z).1 (by omega)))
          refine lv_aload hx hb dX8_event_62 (lv_at hl 0 rfl) ?_
          refine j_get (ci := 2) (v := .ref (f 1 h)) hx hb hts inX2_ hown hK hc0 rfl 5 (by decide) lk1 (fun _ h9 => h9) rfl dX8_event_64 ?_
          refine j_getN (ci := 1) (v := .int (J ((insL (L h) (sz, ((L h).length : Int), d, k, v)).length : Int))) hx hb hts inX1_ hown hK hc1 rfl 1 (by decide) hK.2.1.1 (fun _ h9 => h9) rfl dX8_event_67 ?_
          exact r_iE hx hb hr hlk (Nat.le_of_ble_eq_true rfl) (Nat.le_of_ble_eq_true rfl) (congrArg (fun z => some (Value.int (J z))) (show (((insL (L h) (sz, ((L h).length : Int), d, k, v)).length : Int) : Int) = if (0 ≤ h ∧ h < V 0 0) ∧ (0 ≤ d ∧ d < 3650) ∧ ((k = 0 ∧ 1 ≤ v ∧ v ≤ 500) ∨ (k = 1 ∧ 0 ≤ v ∧ v ≤ 3) ∨ (k = 2 ∧ 1 ≤ v ∧ v ≤ 900)) then (if V 6 h = 12 then -3 else V 6 h + 1) else -1 from by rw [if_pos (by omega), if_neg (by omega), insL_len]; omega)) hL_7 (WX.eq (WX.of hF_8 (hRW.ad (hh := h) (d := d) (k := k) (v := v) (q := sz) (by omega) (by omega) (by omega) (by omega) (by omega) hsz.symm hp_6.1 (by have z := hp_6.2; rw [hLe] at z; exact z)) (domAd hA (hAn _ (Nat.le_refl _)))) (if_pos (by omega))) dX8_event_70
        · refine j_bi hx hb dX8_event_47 (by decide +kernel) ?_
          exact r_iE hx hb hr hlk (Nat.le_of_ble_eq_true rfl) (Nat.le_of_ble_eq_true rfl) (congrArg (fun z => some (Value.int (J z))) (show ((-3) : Int) = if (0 ≤ h ∧ h < V 0 0) ∧ (0 ≤ d ∧ d < 3650) ∧ ((k = 0 ∧ 1 ≤ v ∧ v ≤ 500) ∨ (k = 1 ∧ 0 ≤ v ∧ v ≤ 3) ∨ (k = 2 ∧ 1 ≤ v ∧ v ≤ 900)) then (if V 6 h = 12 then -3 else V 6 h + 1) else -1 from by rw [if_pos (by omega), if_pos (by omega)])) hL0 (WX.eq (WX.of hF0 hRW hA) (if_neg (by omega))) dX8_event_49
      · refine j_const hx hb dX8_event_34 ?_
        exact r_iE hx hb hr hlk (Nat.le_of_ble_eq_true rfl) (Nat.le_of_ble_eq_true rfl) (congrArg (fun z => some (Value.int (J z))) (show ((-1) : Int) = if (0 ≤ h ∧ h < V 0 0) ∧ (0 ≤ d ∧ d < 3650) ∧ ((k = 0 ∧ 1 ≤ v ∧ v ≤ 500) ∨ (k = 1 ∧ 0 ≤ v ∧ v ≤ 3) ∨ (k = 2 ∧ 1 ≤ v ∧ v ≤ 900)) then (if V 6 h = 12 then -3 else V 6 h + 1) else -1 from (if_neg (by omega)).symm)) hL0 (WX.eq (WX.of hF0 hRW hA) (if_neg (by omega))) dX8_event_35
  · refine j_qn (qN_n sp5) ?_
    refine lv_astoreN (lv' := [(5, .null), (0, .ref (a 0)), (1, .int (J h)), (2, .int (J d)), (3, .int (J k)), (4, .int (J v))]) hx hb dX8_event_8 hl (by decide) rfl (fun ls hl => ?_)
    refine lv_aloadN hx hb dX8_event_10 (lv_at hl 0 rfl) ?_
    refine lv_ifnullN (tgt := 34) hx hb dX8_event_12 (by decide) ?_
    refine j_const hx hb dX8_event_34 ?_
    exact r_iE hx hb hr hlk (Nat.le_of_ble_eq_true rfl) (Nat.le_of_ble_eq_true rfl) (congrArg (fun z => some (Value.int (J z))) (show ((-1) : Int) = if (0 ≤ h ∧ h < V 0 0) ∧ (0 ≤ d ∧ d < 3650) ∧ ((k = 0 ∧ 1 ≤ v ∧ v ≤ 500) ∨ (k = 1 ∧ 0 ≤ v ∧ v ≤ 3) ∨ (k = 2 ∧ 1 ≤ v ∧ v ≤ 900)) then (if V 6 h = 12 then -3 else V 6 h + 1) else -1 from (if_neg (by omega)).symm)) hL0 (WX.eq (WX.of hF0 hRW hA) (if_neg (by omega))) dX8_event_35

abbrev rmX8_cutOne : Room := { frames := 3, cells := 1, slots := 4, locals := 61 }
set_option maxHeartbeats 4000000 in
set_option maxRecDepth 100000 in
theorem c_X8_cutOne (l : Launch) (G : GG) (A : Nat → Prop) (a : Nat → Nat) (f : Nat → Int → Nat) (N : Int → List Int) (u : Nat → Int → Int) (ys : Int → Int) (V : St) (h d v : Int) (sz : Nat) (hA : ∀ t i, dom V t i → A (adr a f t i)) (hAn : ∀ x, sz ≤ x → A x) (h_h : 0 ≤ h ∧ h < V 0 0) (h_d : 0 ≤ d ∧ d ≤ 3649) (h_v : 1 ≤ v ∧ v ≤ 900) : ME l G yX8_cutOne wsX8_cutOne rmX8_cutOne [.ref (f 0 h), .int (J d), .int (J v)] (fun H => H.size = sz ∧ (RW G H a f N u ys V)) (some (.int (J (if V 6 h = 12 then -3 else 1))) : Option Value) A (fun H H1 => WX G A a (if V 6 h = 12 then V else sAd V h d 2 v) H H1) 1 4 := by
  refine ME.of (cc := cX8_cutOne) (maxL := 3) (ret := (some .int)) (by decide) rfl (Nat.le_of_ble_eq_true rfl) ?_
  intro p e s m below meth c hx hb hr hml hown hts hlk hin hK hP ls hl
  have hL0 : ∀ z9 ∈ ([] : List Loc), A z9.base := fun z9 h => absurd h List.not_mem_nil
  have hown : s.vm.findClass RX8 = some m.cls := hown
  have hl : lv_has ls 3 [(0, .ref (f 0 h)), (1, .int (J d)), (2, .int (J v))] := hl
  have inX2_ : ∀ w ∈ u_ws RX2 TX2 7, w ∈ wsX8_cutOne := by decide +kernel
  have lk0 := hts (.fieldLink RX8 105 "RateBook$House" "events" "LRateBook$Events;") (by decide +kernel)
  obtain ⟨hsz, hP⟩ := hP
  have hF0 : Fr s.heap s.heap A 0 := Fr.rf
  have hRW : RW G s.heap a f N u ys V := hP
  have hN := hRW.2.2.1
  obtain ⟨L, hLe⟩ : ∃ L : Int → List EvT, L = fun h => mkL V (f 9) h (N h) := ⟨_, rfl⟩
  have hRB : RB G s.heap a f L u V := hLe ▸ hRW.1
  obtain ⟨hV, hX, hT, hE, hLi, hBa, hBk⟩ := id hRB
  obtain ⟨hT1, hT2, hT3, hT4⟩ := id hT
  obtain ⟨hL1, hL2, hL3, hL4, hL5, hL6⟩ := id hLi
  have hn := hV.n
  have hnl := hV.l
  have hLl : ∀ h, 0 ≤ h → h < V 0 0 → ((L h).length : Int) = V 6 h := fun h z1 z2 => by rw [hLe]; exact (congrArg Int.ofNat (mkL_len _ _ _ _)).trans (hN h z1 z2).1
  have hMe : ∀ h, 0 ≤ h → h < V 0 0 → ∀ e ∈ L h, eAd e ≠ f 1 h ∧ eAd e ≠ f 2 h := fun h z1 z2 e he => by
    rw [hLe] at he
    obtain ⟨j, hj, rfl⟩ := mkL_mem he
    have w := (hN h z1 z2).2.1 j hj
    exact ⟨fun z => absurd (hRW.2.2.2 19 _ 11 h (dE z1 z2 w.1 w.2) (dH 11 (by omega) (by omega) z1 z2) z).1 (by omega), fun z => absurd (hRW.2.2.2 19 _ 12 h (dE z1 z2 w.1 w.2) (dH 12 (by omega) (by omega) z1 z2) z).1 (by omega)⟩
  have hM12 : ∀ h, 0 ≤ h → h < V 0 0 → f 1 h ≠ f 2 h := fun h z1 z2 z => absurd (hRW.2.2.2 11 h 12 h (dH 11 (by omega) (by omega) z1 z2) (dH 12 (by omega) (by omega) z1 z2) z).1 (by omega)
  have hlt_0 := (hX).lt
  have hlt_1 := (hT2).lt
  have hlt_2 := (hT3).lt
  have hlt_3 := (hL2).lt
  have hlt_4 := (hL3).lt
  have hlt_5 := (hBa).lt
  refine lv_aload_n hx hb dX8_cutOne_0 rfl (lv_at hl 0 rfl) ?_
  have ce_1 : At G s.heap (f 0 h) (eO 2 [.int (J h), .int (J (V 1 h)), .int (J (V 2 h)), .int (J (V 3 h)), .int (J (V 4 h)), .ref (f 1 h), .int (J (V 5 h))]) := (hT4 h (by omega) (by omega))
  refine j_get (ci := 2) (v := .ref (f 1 h)) hx hb hts inX2_ hown hK ce_1 rfl 5 (by decide) lk0 (fun _ h9 => h9) rfl dX8_cutOne_1 ?_
  have hll0 := hLl h (by omega) (by omega)
  have hr60 := hV.h (i := h) (by omega) (by omega)
  have ce_2 : At G s.heap (f 1 h) (eO 1 [.ref (f 2 h), .int (J ((L h).length : Int))]) := (hE h (by omega) (by omega)).1
  refine k_V (ci := 1) (b := f 1 h) (As := []) (rest := []) (v := .int (J (pI (12 ≤ (L h).length)))) hx hb hml hown hts hK hl.1 (c_X1_isFull l G (f 1 h) (f 2 h) (L h)) (cwV 0 hts gX8_cutOne_X1_isFull rfl rfl rfl (by decide +kernel) ⟨Nat.le_of_ble_eq_true rfl, Nat.le_of_ble_eq_true rfl⟩) ce_2 rfl (hE h (by omega) (by omega)) rfl rfl (Nat.le_of_ble_eq_true rfl) dX8_cutOne_4 ⟨Nat.zero_le _, Nat.zero_le _⟩ ?_
  refine j_eqP (tgt := 13) hx hb dX8_cutOne_7 (by decide) (fun c7 => ?_) (fun c7 => ?_)
  · refine lv_aload_n hx hb dX8_cutOne_13 rfl (lv_at hl 0 rfl) ?_
    refine j_get (ci := 2) (v := .ref (f 1 h)) hx hb hts inX2_ hown hK ce_1 rfl 5 (by decide) lk0 (fun _ h9 => h9) rfl dX8_cutOne_14 ?_
    refine lv_iload_n hx hb dX8_cutOne_17 rfl (lv_at hl 1 rfl) ?_
    refine j_const hx hb dX8_cutOne_18 ?_
    refine lv_iload_n hx hb dX8_cutOne_19 rfl (lv_at hl 2 rfl) ?_
    have hll := hLl h (by omega) (by omega)
    have hr6 := hV.h (i := h) (by omega) (by omega)
    refine e_V (A := A) (ci := 1) (b := f 1 h) (As := [.int (J d), .int (J 2), .int (J v)]) (rest := []) hx hb hml hown hts hK hl.1 (c_X1_add l G (f 1 h) (f 2 h) (L h) d 2 v sz (by omega) (by omega) (by omega) (⟨hM12 h (by omega) (by omega), hMe h (by omega) (by omega)⟩)) (cwV 3 hts gX8_cutOne_X1_add rfl rfl rfl (by decide +kernel) ⟨Nat.le_of_ble_eq_true rfl, Nat.le_of_ble_eq_true rfl⟩) ce_2 rfl (⟨by have z1 := hF0.1; omega, hE h (by omega) (by omega)⟩) rfl rfl (Nat.le_of_ble_eq_true rfl) dX8_cutOne_20 ⟨Nat.le_of_ble_eq_true rfl, Nat.le_of_ble_eq_true rfl⟩ hL0 (fun x hx => hx.elim (fun z => z.elim (fun z => by rw [z]; exact (hA 11 h (dH 11 (by omega) (by omega) (by omega) (by omega)))) (fun z => by rw [z]; exact (hA 12 h (dH 12 (by omega) (by omega) (by omega) (by omega))))) (fun z => hAn x (by omega))) (fun H_3 lo_4 hp_5 hL_6 => ?_)
    show W p l e (headSpec wsX8_cutOne rmX8_cutOne).room s m ([.ref (f 0 h), .int (J d), .int (J v)] : List Value).toArray below meth c H_3 lo_4 (0 + 1) (0 + 4) (MQ below (QE (some (.int (J (if V 6 h = 12 then -3 else 1))) : Option Value) (fun H H1 => WX G A a (if V 6 h = 12 then V else sAd V h d 2 v) H H1)) ([.ref (f 0 h), .int (J d), .int (J v)] : List Value).toArray s 1 4 A) (F0 m 23 ls [])
    have hf_8 : Fr s.heap H_3 (fun x => x = (f 1 h) ∨ x = (f 2 h)) 1 := hp_5.1
    have hF_7 : Fr s.heap H_3 A 1 := hF0.f hf_8 (fun x hx z => z.elim (fun z => by rw [z] at hx ⊢; exact (fun _ => (hA 11 h (dH 11 (by omega) (by omega) (by omega) (by omega)))) hx) (fun z => by rw [z] at hx ⊢; exact (fun _ => (hA 12 h (dH 12 (by omega) (by omega) (by omega) (by omega)))) hx))
    have hc1 := hp_5.2.1
    have hc0 : At G H_3 (f 0 h) (eHo V (f 1) h) := (hT4 h (by omega) (by omega)).f hp_5.1 (fun z => z.elim (fun z => absurd (hRW.2.2.2 10 h 11 h (dH 10 (by omega) (by omega) (by omega) (by omega)) (dH 11 (by omega) (by omega) (by omega) (by omega)) z).1 (by omega)) (fun z => absurd (hRW.2.2.2 10 h 12 h (dH 10 (by omega) (by omega) (by omega) (by omega)) (dH 12 (by omega) (by omega) (by omega) (by omega)) z).1 (by omega)))
    refine j_const hx hb dX8_cutOne_23 ?_
    exact r_iE hx hb hr hlk (Nat.le_of_ble_eq_true rfl) (Nat.le_of_ble_eq_true rfl) (congrArg (fun z => some (Value.int (J z))) (show (1 : Int) = if V 6 h = 12 then -3 else 1 from by rw [if_neg (by omega)])) hL_6 (WX.eq (WX.of hF_7 (hRW.ad (hh := h) (d := d) (k := 2) (v := v) (q := sz) (by omega) (by omega) (by omega) (by omega) (by omega) hsz.symm hp_5.1 (by have z := hp_5.2; rw [hLe] at z; exact z)) (domAd hA (hAn _ (Nat.le_refl _)))) (if_neg (by omega))) dX8_cutOne_24
  · refine j_bi hx hb dX8_cutOne_10 (by decide +kernel) ?_
    exact r_iE hx hb hr hlk (Nat.le_of_ble_eq_true rfl) (Nat.le_of_ble_eq_true rfl) (congrArg (fun z => some (Value.int (J z))) (show ((-3) : Int) = if V 6 h = 12 then -3 else 1 from by rw [if_pos (by omega)])) hL0 (WX.eq (WX.of hF0 hRW hA) (if_pos (by omega))) dX8_cutOne_12

abbrev rmX8_house : Room := { frames := 4, cells := 3, slots := 21, locals := 84 }
set_option maxHeartbeats 4000000 in
set_option maxRecDepth 100000 in
theorem c_X8_house (l : Launch) (G : GG) (A : Nat → Prop) (a : Nat → Nat) (f : Nat → Int → Nat) (N : Int → List Int) (u : Nat → Int → Int) (ys : Int → Int) (V : St) (w_ k t z r : Int) (sz : Nat) (hA : ∀ t i, dom V t i → A (adr a f t i)) (hAn : ∀ x, sz ≤ x → A x) (hZ : V 6 (V 0 0) = 0) (g_w_ : -2147483648 ≤ w_ ∧ w_ < 2147483648) (g_k : -2147483648 ≤ k ∧ k < 2147483648) (g_t : -2147483648 ≤ t ∧ t < 2147483648) (g_z : -2147483648 ≤ z ∧ z < 2147483648) (g_r : -2147483648 ≤ r ∧ r < 2147483648) : ME l G yX8_house wsX8_house rmX8_house [.ref (a 0), .int (J w_), .int (J k), .int (J t), .int (J z), .int (J r)] (fun H => H.size = sz ∧ (RW G H a f N u ys V)) (some (.int (J (if (0 ≤ w_ ∧ w_ ≤ 3) ∧ (0 ≤ k ∧ k ≤ 2) ∧ (0 ≤ t ∧ t ≤ 5) ∧ (1 ≤ z ∧ z ≤ 500) ∧ 0 ≤ r ∧ r ≤ 100000 then (if V 0 0 = 40 then -3 else V 0 0) else -1))) : Option Value) A (fun H H1 => WX G A a (if ((0 ≤ w_ ∧ w_ ≤ 3) ∧ (0 ≤ k ∧ k ≤ 2) ∧ (0 ≤ t ∧ t ≤ 5) ∧ (1 ≤ z ∧ z ≤ 500) ∧ 0 ≤ r ∧ r ≤ 100000) ∧ V 0 0 ≠ 40 then sHo V w_ k t z r else V) H H1) 3 21 := by
  refine ME.of (cc := cX8_house) (maxL := 6) (ret := (some .int)) (by decide) rfl (Nat.le_of_ble_eq_true rfl) ?_
  intro p e s m below meth c hx hb hr hml hown hts hlk hin hK hP ls hl
  have hL0 : ∀ z9 ∈ ([] : List Loc), A z9.base := fun z9 h => absurd h List.not_mem_nil
  have hown : s.vm.findClass RX8 = some m.cls := hown
  have hl : lv_has ls 6 [(0, .ref (a 0)), (1, .int (J w_)), (2, .int (J k)), (3, .int (J t)), (4, .int (J z)), (5, .int (J r))] := hl
  have inX8_ : ∀ w ∈ u_ws RX8 TX8 4, w ∈ wsX8_house := by decide +kernel
  have lk0 := hts (.constant RX8 42 100000) (by decide +kernel)
  have lk1 := hts (.fieldLink RX8 12 "RateBook" "town" "LRateBook$Town;") (by decide +kernel)
  obtain ⟨hsz, hP⟩ := hP
  have hF0 : Fr s.heap s.heap A 0 := Fr.rf
  have hRW : RW G s.heap a f N u ys V := hP
  have hN := hRW.2.2.1
  obtain ⟨L, hLe⟩ : ∃ L : Int → List EvT, L = fun h => mkL V (f 9) h (N h) := ⟨_, rfl⟩
  have hRB : RB G s.heap a f L u V := hLe ▸ hRW.1
  obtain ⟨hV, hX, hT, hE, hLi, hBa, hBk⟩ := id hRB
  obtain ⟨hT1, hT2, hT3, hT4⟩ := id hT
  obtain ⟨hL1, hL2, hL3, hL4, hL5, hL6⟩ := id hLi
  have hn := hV.n
  have hnl := hV.l
  have hLl : ∀ h, 0 ≤ h → h < V 0 0 → ((L h).length : Int) = V 6 h := fun h z1 z2 => by rw [hLe]; exact (congrArg Int.ofNat (mkL_len _ _ _ _)).trans (hN h z1 z2).1
  have hMe : ∀ h, 0 ≤ h → h < V 0 0 → ∀ e ∈ L h, eAd e ≠ f 1 h ∧ eAd e ≠ f 2 h := fun h z1 z2 e he => by
    rw [hLe] at he
    obtain ⟨j, hj, rfl⟩ := mkL_mem he
    have w := (hN h z1 z2).2.1 j hj
    exact ⟨fun z => absurd (hRW.2.2.2 19 _ 11 h (dE z1 z2 w.1 w.2) (dH 11 (by omega) (by omega) z1 z2) z).1 (by omega), fun z => absurd (hRW.2.2.2 19 _ 12 h (dE z1 z2 w.1 w.2) (dH 12 (by omega) (by omega) z1 z2) z).1 (by omega)⟩
  have hM12 : ∀ h, 0 ≤ h → h < V 0 0 → f 1 h ≠ f 2 h := fun h z1 z2 z => absurd (hRW.2.2.2 11 h 12 h (dH 11 (by omega) (by omega) z1 z2) (dH 12 (by omega) (by omega) z1 z2) z).1 (by omega)
  have hlt_0 := (hX).lt
  have hlt_1 := (hT2).lt
  have hlt_2 := (hT3).lt
  have hlt_3 := (hL2).lt
  have hlt_4 := (hL3).lt
  have hlt_5 := (hBa).lt
  refine lv_iload_n hx hb dX8_house_0 rfl (lv_at hl 1 rfl) ?_
  refine j_const hx hb dX8_house_1 ?_
  refine k_S (As := [.int (J w_), .int (J 4)]) (rest := []) (v := .int (J (pI (0 ≤ w_ ∧ w_ < 4)))) hx hb hml hown hts hK hl.1 (c_X8_isOf l G w_ 4 (by omega) (by omega)) (va_cwS 2 hts gX8_house_X8_isOf rfl rfl rfl (by decide +kernel) ⟨Nat.le_of_ble_eq_true rfl, Nat.le_of_ble_eq_true rfl⟩) trivial rfl rfl (Nat.le_of_ble_eq_true rfl) dX8_house_2 ⟨Nat.zero_le _, Nat.zero_le _⟩ ?_
  refine j_eqP (tgt := 48) hx hb dX8_house_5 (by decide) (fun c5 => ?_) (fun c5 => ?_)
  · refine j_const hx hb dX8_house_48 ?_
    exact r_iE hx hb hr hlk (Nat.le_of_ble_eq_true rfl) (Nat.le_of_ble_eq_true rfl) (congrArg (fun z => some (Value.int (J z))) (show ((-1) : Int) = if (0 ≤ w_ ∧ w_ ≤ 3) ∧ (0 ≤ k ∧ k ≤ 2) ∧ (0 ≤ t ∧ t ≤ 5) ∧ (1 ≤ z ∧ z ≤ 500) ∧ 0 ≤ r ∧ r ≤ 100000 then (if V 0 0 = 40 then -3 else V 0 0) else -1 from (if_neg (by omega)).symm)) hL0 (WX.eq (WX.of hF0 hRW hA) (if_neg (by omega))) dX8_house_49
  · refine lv_iload_n hx hb dX8_house_8 rfl (lv_at hl 2 rfl) ?_
    refine j_const hx hb dX8_house_9 ?_
    refine k_S (As := [.int (J k), .int (J 3)]) (rest := []) (v := .int (J (pI (0 ≤ k ∧ k < 3)))) hx hb hml hown hts hK hl.1 (c_X8_isOf l G k 3 (by omega) (by omega)) (va_cwS 2 hts gX8_house_X8_isOf rfl rfl rfl (by decide +kernel) ⟨Nat.le_of_ble_eq_true rfl, Nat.le_of_ble_eq_true rfl⟩) trivial rfl rfl (Nat.le_of_ble_eq_true rfl) dX8_house_10 ⟨Nat.zero_le _, Nat.zero_le _⟩ ?_
    refine j_eqP (tgt := 48) hx hb dX8_house_13 (by decide) (fun c13 => ?_) (fun c13 => ?_)
    · refine j_const hx hb dX8_house_48 ?_
      exact r_iE hx hb hr hlk (Nat.le_of_ble_eq_true rfl) (Nat.le_of_ble_eq_true rfl) (congrArg (fun z => some (Value.int (J z))) (show ((-1) : Int) = if (0 ≤ w_ ∧ w_ ≤ 3) ∧ (0 ≤ k ∧ k ≤ 2) ∧ (0 ≤ t ∧ t ≤ 5) ∧ (1 ≤ z ∧ z ≤ 500) ∧ 0 ≤ r ∧ r ≤ 100000 then (if V 0 0 = 40 then -3 else V 0 0) else -1 from (if_neg (by omega)).symm)) hL0 (WX.eq (WX.of hF0 hRW hA) (if_neg (by omega))) dX8_house_49
    · refine lv_iload_n hx hb dX8_house_16 rfl (lv_at hl 3 rfl) ?_
      refine j_bi hx hb dX8_house_17 (by decide +kernel) ?_
      refine k_S (As := [.int (J t), .int (J 6)]) (rest := []) (v := .int (J (pI (0 ≤ t ∧ t < 6)))) hx hb hml hown hts hK hl.1 (c_X8_isOf l G t 6 (by omega) (by omega)) (va_cwS 2 hts gX8_house_X8_isOf rfl rfl rfl (by decide +kernel) ⟨Nat.le_of_ble_eq_true rfl, Nat.le_of_ble_eq_true rfl⟩) trivial rfl rfl (Nat.le_of_ble_eq_true rfl) dX8_house_19 ⟨Nat.zero_le _, Nat.zero_le _⟩ ?_
      refine j_eqP (tgt := 48) hx hb dX8_house_22 (by decide) (fun c22 => ?_) (fun c22 => ?_)
      · refine j_const hx hb dX8_house_48 ?_
        exact r_iE hx hb hr hlk (Nat.le_of_ble_eq_true rfl) (Nat.le_of_ble_eq_true rfl) (congrArg (fun z => some (Value.int (J z))) (show ((-1) : Int) = if (0 ≤ w_ ∧ w_ ≤ 3) ∧ (0 ≤ k ∧ k ≤ 2) ∧ (0 ≤ t ∧ t ≤ 5) ∧ (1 ≤ z ∧ z ≤ 500) ∧ 0 ≤ r ∧ r ≤ 100000 then (if V 0 0 = 40 then -3 else V 0 0) else -1 from (if_neg (by omega)).symm)) hL0 (WX.eq (WX.of hF0 hRW hA) (if_neg (by omega))) dX8_house_49
      · refine lv_iload hx hb dX8_house_25 (lv_at hl 4 rfl) ?_
        refine j_const hx hb dX8_house_27 ?_
        refine j_si hx hb dX8_house_28 (by decide +kernel) ?_
        refine k_S (As := [.int (J z), .int (J 1), .int (J 500)]) (rest := []) (v := .int (J (pI (1 ≤ z ∧ z ≤ 500)))) hx hb hml hown hts hK hl.1 (c_X8_isWithin l G z 1 500 (by omega) (by omega) (by omega)) (va_cwS 3 hts gX8_house_X8_isWithin rfl rfl rfl (by decide +kernel) ⟨Nat.le_of_ble_eq_true rfl, Nat.le_of_ble_eq_true rfl⟩) trivial rfl rfl (Nat.le_of_ble_eq_true rfl) dX8_house_31 ⟨Nat.zero_le _, Nat.zero_le _⟩ ?_
        refine j_eqP (tgt := 48) hx hb dX8_house_34 (by decide) (fun c34 => ?_) (fun c34 => ?_)
        · refine j_const hx hb dX8_house_48 ?_
          exact r_iE hx hb hr hlk (Nat.le_of_ble_eq_true rfl) (Nat.le_of_ble_eq_true rfl) (congrArg (fun z => some (Value.int (J z))) (show ((-1) : Int) = if (0 ≤ w_ ∧ w_ ≤ 3) ∧ (0 ≤ k ∧ k ≤ 2) ∧ (0 ≤ t ∧ t ≤ 5) ∧ (1 ≤ z ∧ z ≤ 500) ∧ 0 ≤ r ∧ r ≤ 100000 then (if V 0 0 = 40 then -3 else V 0 0) else -1 from (if_neg (by omega)).symm)) hL0 (WX.eq (WX.of hF0 hRW hA) (if_neg (by omega))) dX8_house_49
        · refine lv_iload hx hb dX8_house_37 (lv_at hl 5 rfl) ?_
          refine j_const hx hb dX8_house_39 ?_
          refine j_ldc hx hb hown lk0 (z := 100000) rfl dX8_house_40 ?_
          refine k_S (As := [.int (J r), .int (J 0), .int (J 100000)]) (rest := []) (v := .int (J (pI (0 ≤ r ∧ r ≤ 100000)))) hx hb hml hown hts hK hl.1 (c_X8_isWithin l G r 0 100000 (by omega) (by omega) (by omega)) (va_cwS 3 hts gX8_house_X8_isWithin rfl rfl rfl (by decide +kernel) ⟨Nat.le_of_ble_eq_true rfl, Nat.le_of_ble_eq_true rfl⟩) trivial rfl rfl (Nat.le_of_ble_eq_true rfl) dX8_house_42 ⟨Nat.zero_le _, Nat.zero_le _⟩ ?_
          refine j_neP (tgt := 50) hx hb dX8_house_45 (by decide) (fun c45 => ?_) (fun c45 => ?_)
          · refine lv_aload_n hx hb dX8_house_50 rfl (lv_at hl 0 rfl) ?_
            refine j_get (ci := 8) (v := .ref (a 1)) hx hb hts inX8_ hown hK hX rfl 0 (by decide) lk1 (fun _ h9 => h9) rfl dX8_house_51 ?_
            refine lv_iload_n hx hb dX8_house_54 rfl (lv_at hl 1 rfl) ?_
            refine lv_iload_n hx hb dX8_house_55 rfl (lv_at hl 2 rfl) ?_
            refine lv_iload_n hx hb dX8_house_56 rfl (lv_at hl 3 rfl) ?_
            refine lv_iload hx hb dX8_house_57 (lv_at hl 4 rfl) ?_
            refine lv_iload hx hb dX8_house_59 (lv_at hl 5 rfl) ?_
            by_cases hfu : V 0 0 = 40
            ·
              refine k_V (ci := 5) (b := a 1) (As := [.int (J w_), .int (J k), .int (J t), .int (J z), .int (J r)]) (rest := []) (v := .int (J (-3))) hx hb hml hown hts hK hl.1 (c_X5_addF l G (a 1) (a 2) (qN (V 0 0) (f 0)) (V 0 0) w_ k t z r hfu) (cwV 5 hts gX8_house_X5_add rfl rfl rfl (by decide +kernel) ⟨Nat.le_of_ble_eq_true rfl, Nat.le_of_ble_eq_true rfl⟩) hT2 rfl (⟨hT2, hT3⟩) rfl rfl (Nat.le_of_ble_eq_true rfl) dX8_house_61 ⟨Nat.zero_le _, Nat.zero_le _⟩ ?_
              exact r_iE hx hb hr hlk (Nat.le_of_ble_eq_true rfl) (Nat.le_of_ble_eq_true rfl) (congrArg (fun z => some (Value.int (J z))) (show (-3 : Int) = if (0 ≤ w_ ∧ w_ ≤ 3) ∧ (0 ≤ k ∧ k ≤ 2) ∧ (0 ≤ t ∧ t ≤ 5) ∧ (1 ≤ z ∧ z ≤ 500) ∧ 0 ≤ r ∧ r ≤ 100000 then (if V 0 0 = 40 then -3 else V 0 0) else -1 from by rw [if_pos (by omega), if_pos (by omega)])) hL0 (WX.eq (WX.of hF0 hRW hA) (if_neg (by omega))) dX8_house_64
            ·
              refine e_V (A := A) (ci := 5) (b := a 1) (As := [.int (J w_), .int (J k), .int (J t), .int (J z), .int (J r)]) (rest := []) hx hb hml hown hts hK hl.1 (c_X5_add l G (a 1) (a 2) (qN (V 0 0) (f 0)) (V 0 0) w_ k t z r sz (by omega) (fun z => absurd (hRW.2.2.2 1 0 2 0 (dA 1 (by omega)) (dA 2 (by omega)) z).1 (by omega))) (cwV 5 hts gX8_house_X5_add rfl rfl rfl (by decide +kernel) ⟨Nat.le_of_ble_eq_true rfl, Nat.le_of_ble_eq_true rfl⟩) hT2 rfl (⟨by have z1 := hF0.1; omega, ⟨hT2, hT3⟩⟩) rfl rfl (Nat.le_of_ble_eq_true rfl) dX8_house_61 ⟨Nat.le_of_ble_eq_true rfl, Nat.le_of_ble_eq_true rfl⟩ hL0 (fun x hx => hx.elim (fun z => z.elim (fun z => by rw [z]; exact (hA 1 0 (dA 1 (by omega)))) (fun z => by rw [z]; exact (hA 2 0 (dA 2 (by omega))))) (fun z => hAn x (by omega))) (fun H_1 lo_2 hp_3 hL_4 => ?_)
              show W p l e (headSpec wsX8_house rmX8_house).room s m ([.ref (a 0), .int (J w_), .int (J k), .int (J t), .int (J z), .int (J r)] : List Value).toArray below meth c H_1 lo_2 (0 + 3) (0 + 21) (MQ below (QE (some (.int (J (if (0 ≤ w_ ∧ w_ ≤ 3) ∧ (0 ≤ k ∧ k ≤ 2) ∧ (0 ≤ t ∧ t ≤ 5) ∧ (1 ≤ z ∧ z ≤ 500) ∧ 0 ≤ r ∧ r ≤ 100000 then (if V 0 0 = 40 then -3 else V 0 0) else -1))) : Option Value) (fun H H1 => WX G A a (if ((0 ≤ w_ ∧ w_ ≤ 3) ∧ (0 ≤ k ∧ k ≤ 2) ∧ (0 ≤ t ∧ t ≤ 5) ∧ (1 ≤ z ∧ z ≤ 500) ∧ 0 ≤ r ∧ r ≤ 100000) ∧ V 0 0 ≠ 40 then sHo V w_ k t z r else V) H H1)) ([.ref (a 0), .int (J w_), .int (J k), .int (J t), .int (J z), .int (J r)] : List Value).toArray s 3 21 A) (F0 m 64 ls [.int (J (V 0 0))])
              have hf_6 : Fr s.heap H_1 (fun x => x = (a 1) ∨ x = (a 2)) 3 := hp_3.1
              have hF_5 : Fr s.heap H_1 A 3 := hF0.f hf_6 (fun x hx z => z.elim (fun z => by rw [z] at hx ⊢; exact (fun _ => (hA 1 0 (dA 1 (by omega)))) hx) (fun z => by rw [z] at hx ⊢; exact (fun _ => (hA 2 0 (dA 2 (by omega)))) hx))
              exact r_iE hx hb hr hlk (Nat.le_of_ble_eq_true rfl) (Nat.le_of_ble_eq_true rfl) (congrArg (fun z => some (Value.int (J z))) (show (V 0 0 : Int) = if (0 ≤ w_ ∧ w_ ≤ 3) ∧ (0 ≤ k ∧ k ≤ 2) ∧ (0 ≤ t ∧ t ≤ 5) ∧ (1 ≤ z ∧ z ≤ 500) ∧ 0 ≤ r ∧ r ≤ 100000 then (if V 0 0 = 40 then -3 else V 0 0) else -1 from by rw [if_pos (by omega), if_neg (by omega)])) hL_4 (WX.eq (WX.of hF_5 (hRW.ho (w := w_) (k := k) (t := t) (z := z) (r := r) (q := sz) hfu hZ (by omega) (by omega) (by omega) (by omega) (by omega) hsz.symm hp_3.1 hp_3.2.1 hp_3.2.2.1 hp_3.2.2.2.1 hp_3.2.2.2.2.1 hp_3.2.2.2.2.2) (domHo hZ hA hAn)) (if_pos (by omega))) dX8_house_64
          · refine j_const hx hb dX8_house_48 ?_
            exact r_iE hx hb hr hlk (Nat.le_of_ble_eq_true rfl) (Nat.le_of_ble_eq_true rfl) (congrArg (fun z => some (Value.int (J z))) (show ((-1) : Int) = if (0 ≤ w_ ∧ w_ ≤ 3) ∧ (0 ≤ k ∧ k ≤ 2) ∧ (0 ≤ t ∧ t ≤ 5) ∧ (1 ≤ z ∧ z ≤ 500) ∧ 0 ≤ r ∧ r ≤ 100000 then (if V 0 0 = 40 then -3 else V 0 0) else -1 from (if_neg (by omega)).symm)) hL0 (WX.eq (WX.of hF0 hRW hA) (if_neg (by omega))) dX8_house_49

abbrev rmX8_list : Room := { frames := 6, cells := 20, slots := 92, locals := 150 }
set_option maxHeartbeats 4000000 in
set_option maxRecDepth 100000 in
theorem c_X8_list (l : Launch) (G : GG) (A : Nat → Prop) (a : Nat → Nat) (f : Nat → Int → Nat) (N : Int → List Int) (u : Nat → Int → Int) (ys : Int → Int) (V : St) (d : Int) (sz : Nat) (hA : ∀ t i, dom V t i → A (adr a f t i)) (hAn : ∀ x, sz ≤ x → A x) (hU : UA V) (g_d : -2147483648 ≤ d ∧ d < 2147483648) : ME l G yX8_list wsX8_list rmX8_list [.ref (a 0), .int (J d)] (fun H => H.size = sz ∧ (RW G H a f N u ys V)) (some (.int (J (if 0 ≤ d ∧ d < 3650 then (if 0 < V 0 1 ∧ d ≤ V 10 (V 0 1 - 1) then -2 else if V 0 1 = 10 then -3 else V 0 1) else -1))) : Option Value) A (fun H H1 => WX G A a (if (0 ≤ d ∧ d < 3650) ∧ ¬ (0 < V 0 1 ∧ d ≤ V 10 (V 0 1 - 1)) ∧ V 0 1 ≠ 10 then sLi V d else V) H H1) 20 92 := by
  refine ME.of (cc := cX8_list) (maxL := 2) (ret := (some .int)) (by decide) rfl (Nat.le_of_ble_eq_true rfl) ?_
  intro p e s m below meth c hx hb hr hml hown hts hlk hin hK hP ls hl
  have hL0 : ∀ z9 ∈ ([] : List Loc), A z9.base := fun z9 h => absurd h List.not_mem_nil
  have hown : s.vm.findClass RX8 = some m.cls := hown
  have hl : lv_has ls 2 [(0, .ref (a 0)), (1, .int (J d))] := hl
  have inX8_ : ∀ w ∈ u_ws RX8 TX8 4, w ∈ wsX8_list := by decide +kernel
  have lk0 := hts (.fieldLink RX8 19 "RateBook" "lists" "LRateBook$Lists;") (by decide +kernel)
  have lk1 := hts (.fieldLink RX8 12 "RateBook" "town" "LRateBook$Town;") (by decide +kernel)
  obtain ⟨hsz, hP⟩ := hP
  have hF0 : Fr s.heap s.heap A 0 := Fr.rf
  have hRW : RW G s.heap a f N u ys V := hP
  have hN := hRW.2.2.1
  obtain ⟨L, hLe⟩ : ∃ L : Int → List EvT, L = fun h => mkL V (f 9) h (N h) := ⟨_, rfl⟩
  have hRB : RB G s.heap a f L u V := hLe ▸ hRW.1
  obtain ⟨hV, hX, hT, hE, hLi, hBa, hBk⟩ := id hRB
  obtain ⟨hT1, hT2, hT3, hT4⟩ := id hT
  obtain ⟨hL1, hL2, hL3, hL4, hL5, hL6⟩ := id hLi
  have hn := hV.n
  have hnl := hV.l
  have hLl : ∀ h, 0 ≤ h → h < V 0 0 → ((L h).length : Int) = V 6 h := fun h z1 z2 => by rw [hLe]; exact (congrArg Int.ofNat (mkL_len _ _ _ _)).trans (hN h z1 z2).1
  have hMe : ∀ h, 0 ≤ h → h < V 0 0 → ∀ e ∈ L h, eAd e ≠ f 1 h ∧ eAd e ≠ f 2 h := fun h z1 z2 e he => by
    rw [hLe] at he
    obtain ⟨j, hj, rfl⟩ := mkL_mem he
    have w := (hN h z1 z2).2.1 j hj
    exact ⟨fun z => absurd (hRW.2.2.2 19 _ 11 h (dE z1 z2 w.1 w.2) (dH 11 (by omega) (by omega) z1 z2) z).1 (by omega), fun z => absurd (hRW.2.2.2 19 _ 12 h (dE z1 z2 w.1 w.2) (dH 12 (by omega) (by omega) z1 z2) z).1 (by omega)⟩
  have hM12 : ∀ h, 0 ≤ h → h < V 0 0 → f 1 h ≠ f 2 h := fun h z1 z2 z => absurd (hRW.2.2.2 11 h 12 h (dH 11 (by omega) (by omega) z1 z2) (dH 12 (by omega) (by omega) z1 z2) z).1 (by omega)
  have hlt_0 := (hX).lt
  have hlt_1 := (hT2).lt
  have hlt_2 := (hT3).lt
  have hlt_3 := (hL2).lt
  have hlt_4 := (hL3).lt
  have hlt_5 := (hBa).lt
  refine lv_iload_n hx hb dX8_list_0 rfl (lv_at hl 1 rfl) ?_
  refine j_si hx hb dX8_list_1 (by decide +kernel) ?_
  refine k_S (As := [.int (J d), .int (J 3650)]) (rest := []) (v := .int (J (pI (0 ≤ d ∧ d < 3650)))) hx hb hml hown hts hK hl.1 (c_X8_isOf l G d 3650 (by omega) (by omega)) (va_cwS 2 hts gX8_list_X8_isOf rfl rfl rfl (by decide +kernel) ⟨Nat.le_of_ble_eq_true rfl, Nat.le_of_ble_eq_true rfl⟩) trivial rfl rfl (Nat.le_of_ble_eq_true rfl) dX8_list_4 ⟨Nat.zero_le _, Nat.zero_le _⟩ ?_
  refine j_neP (tgt := 12) hx hb dX8_list_7 (by decide) (fun c7 => ?_) (fun c7 => ?_)
  · refine lv_aload_n hx hb dX8_list_12 rfl (lv_at hl 0 rfl) ?_
    refine j_get (ci := 8) (v := .ref (a 3)) hx hb hts inX8_ hown hK hX rfl 1 (by decide) lk0 (fun _ h9 => h9) rfl dX8_list_13 ?_
    refine lv_iload_n hx hb dX8_list_16 rfl (lv_at hl 1 rfl) ?_
    refine k_V (ci := 3) (b := a 3) (As := [.int (J d)]) (rest := []) (v := .int (J (pI (0 < V 0 1 ∧ d ≤ V 10 (V 0 1 - 1))))) hx hb hml hown hts hK hl.1 (c_X3_reach l G (a 3) (a 4) (f 3) (f 4) (f 5) (u 0) (u 1) V d (by omega)) (cwV 1 hts gX8_list_X3_reach rfl rfl rfl (by decide +kernel) ⟨Nat.le_of_ble_eq_true rfl, Nat.le_of_ble_eq_true rfl⟩) hL2 rfl hLi rfl rfl (Nat.le_of_ble_eq_true rfl) dX8_list_17 ⟨Nat.zero_le _, Nat.zero_le _⟩ ?_
    refine j_eqP (tgt := 26) hx hb dX8_list_20 (by decide) (fun c20 => ?_) (fun c20 => ?_)
    · refine lv_aload_n hx hb dX8_list_26 rfl (lv_at hl 0 rfl) ?_
      refine j_get (ci := 8) (v := .ref (a 3)) hx hb hts inX8_ hown hK hX rfl 1 (by decide) lk0 (fun _ h9 => h9) rfl dX8_list_27 ?_
      refine k_V (ci := 3) (b := a 3) (As := []) (rest := []) (v := .int (J (pI (10 ≤ V 0 1)))) hx hb hml hown hts hK hl.1 (c_X3_isFull l G (a 3) (a 4) (f 3) (f 4) (f 5) (u 0) (u 1) V) (cwV 0 hts gX8_list_X3_isFull rfl rfl rfl (by decide +kernel) ⟨Nat.le_of_ble_eq_true rfl, Nat.le_of_ble_eq_true rfl⟩) hL2 rfl hLi rfl rfl (Nat.le_of_ble_eq_true rfl) dX8_list_30 ⟨Nat.zero_le _, Nat.zero_le _⟩ ?_
      refine j_eqP (tgt := 41) hx hb dX8_list_33 (by decide) (fun c33 => ?_) (fun c33 => ?_)
      · refine lv_aload_n hx hb dX8_list_41 rfl (lv_at hl 0 rfl) ?_
        refine j_get (ci := 8) (v := .ref (a 3)) hx hb hts inX8_ hown hK hX rfl 1 (by decide) lk0 (fun _ h9 => h9) rfl dX8_list_42 ?_
        refine lv_iload_n hx hb dX8_list_45 rfl (lv_at hl 1 rfl) ?_
        refine lv_aload_n hx hb dX8_list_46 rfl (lv_at hl 0 rfl) ?_
        refine j_get (ci := 8) (v := .ref (a 1)) hx hb hts inX8_ hown hK hX rfl 0 (by decide) lk1 (fun _ h9 => h9) rfl dX8_list_47 ?_
        refine e_V (A := A) (ci := 3) (b := a 3) (As := [.int (J d), .ref (a 1)]) (rest := []) hx hb hml hown hts hK hl.1 (c_X3_add l G (a 3) (a 4) (qN (V 0 1) (f 3)) (V 0 1) d (a 1) (a 2) (f 0) (f 1) V sz (by omega) (fun z => absurd (hRW.2.2.2 3 0 4 0 (dA 3 (by omega)) (dA 4 (by omega)) z).1 (by omega))) (cwV 2 hts gX8_list_X3_add rfl rfl rfl (by decide +kernel) ⟨Nat.le_of_ble_eq_true rfl, Nat.le_of_ble_eq_true rfl⟩) hL2 rfl (⟨by have z1 := hF0.1; omega, ⟨⟨hL2, hL3⟩, hT⟩⟩) rfl rfl (Nat.le_of_ble_eq_true rfl) dX8_list_50 ⟨Nat.le_of_ble_eq_true rfl, Nat.le_of_ble_eq_true rfl⟩ hL0 (fun x hx => hx.elim (fun z => z.elim (fun z => by rw [z]; exact (hA 3 0 (dA 3 (by omega)))) (fun z => by rw [z]; exact (hA 4 0 (dA 4 (by omega))))) (fun z => hAn x (by omega))) (fun H_1 lo_2 hp_3 hL_4 => ?_)
        show W p l e (headSpec wsX8_list rmX8_list).room s m ([.ref (a 0), .int (J d)] : List Value).toArray below meth c H_1 lo_2 (0 + 20) (0 + 92) (MQ below (QE (some (.int (J (if 0 ≤ d ∧ d < 3650 then (if 0 < V 0 1 ∧ d ≤ V 10 (V 0 1 - 1) then -2 else if V 0 1 = 10 then -3 else V 0 1) else -1))) : Option Value) (fun H H1 => WX G A a (if (0 ≤ d ∧ d < 3650) ∧ ¬ (0 < V 0 1 ∧ d ≤ V 10 (V 0 1 - 1)) ∧ V 0 1 ≠ 10 then sLi V d else V) H H1)) ([.ref (a 0), .int (J d)] : List Value).toArray s 20 92 A) (F0 m 53 ls [.int (J (V 0 1))])
        have hf_6 : Fr s.heap H_1 (fun x => x = (a 3) ∨ x = (a 4)) 20 := hp_3.1
        have hF_5 : Fr s.heap H_1 A 20 := hF0.f hf_6 (fun x hx z => z.elim (fun z => by rw [z] at hx ⊢; exact (fun _ => (hA 3 0 (dA 3 (by omega)))) hx) (fun z => by rw [z] at hx ⊢; exact (fun _ => (hA 4 0 (dA 4 (by omega)))) hx))
        exact r_iE hx hb hr hlk (Nat.le_of_ble_eq_true rfl) (Nat.le_of_ble_eq_true rfl) (congrArg (fun z => some (Value.int (J z))) (show (V 0 1 : Int) = if 0 ≤ d ∧ d < 3650 then (if 0 < V 0 1 ∧ d ≤ V 10 (V 0 1 - 1) then -2 else if V 0 1 = 10 then -3 else V 0 1) else -1 from by rw [if_pos (by omega), if_neg (fun z => c20 z), if_neg (by omega)])) hL_4 (WX.eq (WX.of hF_5 (hRW.li (d := d) (q := sz) (by omega) (by omega) hU hsz.symm hp_3.1 hp_3.2.1 hp_3.2.2.1 hp_3.2.2.2.1 hp_3.2.2.2.2.1 hp_3.2.2.2.2.2) (domLi hA hAn)) (if_pos ⟨by omega, c20, by omega⟩)) dX8_list_53
      · refine j_bi hx hb dX8_list_36 (by decide +kernel) ?_
        refine lv_goto (tgt := 53) hx hb dX8_list_38 (by decide) ?_
        exact r_iE hx hb hr hlk (Nat.le_of_ble_eq_true rfl) (Nat.le_of_ble_eq_true rfl) (congrArg (fun z => some (Value.int (J z))) (show ((-3) : Int) = if 0 ≤ d ∧ d < 3650 then (if 0 < V 0 1 ∧ d ≤ V 10 (V 0 1 - 1) then -2 else if V 0 1 = 10 then -3 else V 0 1) else -1 from by rw [if_pos (by omega), if_neg (fun z => c20 z), if_pos (by omega)])) hL0 (WX.eq (WX.of hF0 hRW hA) (if_neg (by omega))) dX8_list_53
    · refine j_bi hx hb dX8_list_23 (by decide +kernel) ?_
      exact r_iE hx hb hr hlk (Nat.le_of_ble_eq_true rfl) (Nat.le_of_ble_eq_true rfl) (congrArg (fun z => some (Value.int (J z))) (show ((-2) : Int) = if 0 ≤ d ∧ d < 3650 then (if 0 < V 0 1 ∧ d ≤ V 10 (V 0 1 - 1) then -2 else if V 0 1 = 10 then -3 else V 0 1) else -1 from by rw [if_pos (by omega), if_pos c20])) hL0 (WX.eq (WX.of hF0 hRW hA) (if_neg (fun z => z.2.1 c20))) dX8_list_25
  · refine j_const hx hb dX8_list_10 ?_
    exact r_iE hx hb hr hlk (Nat.le_of_ble_eq_true rfl) (Nat.le_of_ble_eq_true rfl) (congrArg (fun z => some (Value.int (J z))) (show ((-1) : Int) = if 0 ≤ d ∧ d < 3650 then (if 0 < V 0 1 ∧ d ≤ V 10 (V 0 1 - 1) then -2 else if V 0 1 = 10 then -3 else V 0 1) else -1 from (if_neg (by omega)).symm)) hL0 (WX.eq (WX.of hF0 hRW hA) (if_neg (by omega))) dX8_list_11

abbrev rmX8_unit : Room := { frames := 4, cells := 1, slots := 4, locals := 104 }
set_option maxHeartbeats 4000000 in
set_option maxRecDepth 100000 in
theorem c_X8_unit (l : Launch) (G : GG) (A : Nat → Prop) (a : Nat → Nat) (f : Nat → Int → Nat) (N : Int → List Int) (u : Nat → Int → Int) (ys : Int → Int) (V : St) (k s_ q : Int) (sz : Nat) (hA : ∀ t i, dom V t i → A (adr a f t i)) (hAn : ∀ x, sz ≤ x → A x) (g_k : -2147483648 ≤ k ∧ k < 2147483648) (g_s_ : -2147483648 ≤ s_ ∧ s_ < 2147483648) (g_q : -2147483648 ≤ q ∧ q < 2147483648) : ME l G yX8_unit wsX8_unit rmX8_unit [.ref (a 0), .int (J k), .int (J s_), .int (J q)] (fun H => H.size = sz ∧ (RW G H a f N u ys V)) (some (.int (J (if (0 ≤ k ∧ k ≤ 2) ∧ (0 ≤ s_ ∧ s_ ≤ 5) ∧ 0 ≤ q ∧ q ≤ 3 then (if q = 0 then unA V k s_ (-1) else if q = 1 then unB V k s_ (-1) else if q = 2 then unC V k s_ (-1) else unD V k s_ (-1)) else -1))) : Option Value) A (fun H H1 => WX G A a V H H1) 1 4 := by
  refine ME.of (cc := cX8_unit) (maxL := 5) (ret := (some .int)) (by decide) rfl (Nat.le_of_ble_eq_true rfl) ?_
  intro p e s m below meth c hx hb hr hml hown hts hlk hin hK hP ls hl
  have hL0 : ∀ z9 ∈ ([] : List Loc), A z9.base := fun z9 h => absurd h List.not_mem_nil
  have hown : s.vm.findClass RX8 = some m.cls := hown
  have hl : lv_has ls 5 [(0, .ref (a 0)), (1, .int (J k)), (2, .int (J s_)), (3, .int (J q))] := hl
  have inX6_ : ∀ w ∈ u_ws RX6 TX6 4, w ∈ wsX8_unit := by decide +kernel
  have inX8_ : ∀ w ∈ u_ws RX8 TX8 4, w ∈ wsX8_unit := by decide +kernel
  have lk0 := hts (.fieldLink RX8 12 "RateBook" "town" "LRateBook$Town;") (by decide +kernel)
  have lk1 := hts (.fieldLink RX8 61 "RateBook$Unit" "above" "I") (by decide +kernel)
  have lk2 := hts (.fieldLink RX8 66 "RateBook$Unit" "below" "I") (by decide +kernel)
  have lk3 := hts (.fieldLink RX8 69 "RateBook$Unit" "rents" "I") (by decide +kernel)
  have lk4 := hts (.fieldLink RX8 72 "RateBook$Unit" "house" "I") (by decide +kernel)
  obtain ⟨hsz, hP⟩ := hP
  have hF0 : Fr s.heap s.heap A 0 := Fr.rf
  have hRW : RW G s.heap a f N u ys V := hP
  have hN := hRW.2.2.1
  obtain ⟨L, hLe⟩ : ∃ L : Int → List EvT, L = fun h => mkL V (f 9) h (N h) := ⟨_, rfl⟩
  have hRB : RB G s.heap a f L u V := hLe ▸ hRW.1
  obtain ⟨hV, hX, hT, hE, hLi, hBa, hBk⟩ := id hRB
  obtain ⟨hT1, hT2, hT3, hT4⟩ := id hT
  obtain ⟨hL1, hL2, hL3, hL4, hL5, hL6⟩ := id hLi
  have hn := hV.n
  have hnl := hV.l
  have hLl : ∀ h, 0 ≤ h → h < V 0 0 → ((L h).length : Int) = V 6 h := fun h z1 z2 => by rw [hLe]; exact (congrArg Int.ofNat (mkL_len _ _ _ _)).trans (hN h z1 z2).1
  have hMe : ∀ h, 0 ≤ h → h < V 0 0 → ∀ e ∈ L h, eAd e ≠ f 1 h ∧ eAd e ≠ f 2 h := fun h z1 z2 e he => by
    rw [hLe] at he
    obtain ⟨j, hj, rfl⟩ := mkL_mem he
    have w := (hN h z1 z2).2.1 j hj
    exact ⟨fun z => absurd (hRW.2.2.2 19 _ 11 h (dE z1 z2 w.1 w.2) (dH 11 (by omega) (by omega) z1 z2) z).1 (by omega), fun z => absurd (hRW.2.2.2 19 _ 12 h (dE z1 z2 w.1 w.2) (dH 12 (by omega) (by omega) z1 z2) z).1 (by omega)⟩
  have hM12 : ∀ h, 0 ≤ h → h < V 0 0 → f 1 h ≠ f 2 h := fun h z1 z2 z => absurd (hRW.2.2.2 11 h 12 h (dH 11 (by omega) (by omega) z1 z2) (dH 12 (by omega) (by omega) z1 z2) z).1 (by omega)
  have hlt_0 := (hX).lt
  have hlt_1 := (hT2).lt
  have hlt_2 := (hT3).lt
  have hlt_3 := (hL2).lt
  have hlt_4 := (hL3).lt
  have hlt_5 := (hBa).lt
  refine lv_iload_n hx hb dX8_unit_0 rfl (lv_at hl 1 rfl) ?_
  refine j_const hx hb dX8_unit_1 ?_
  refine k_S (As := [.int (J k), .int (J 3)]) (rest := []) (v := .int (J (pI (0 ≤ k ∧ k < 3)))) hx hb hml hown hts hK hl.1 (c_X8_isOf l G k 3 (by omega) (by omega)) (va_cwS 2 hts gX8_unit_X8_isOf rfl rfl rfl (by decide +kernel) ⟨Nat.le_of_ble_eq_true rfl, Nat.le_of_ble_eq_true rfl⟩) trivial rfl rfl (Nat.le_of_ble_eq_true rfl) dX8_unit_2 ⟨Nat.zero_le _, Nat.zero_le _⟩ ?_
  refine j_eqP (tgt := 17) hx hb dX8_unit_5 (by decide) (fun c5 => ?_) (fun c5 => ?_)
  · refine j_const hx hb dX8_unit_17 ?_
    exact r_iE hx hb hr hlk (Nat.le_of_ble_eq_true rfl) (Nat.le_of_ble_eq_true rfl) (congrArg (fun z => some (Value.int (J z))) (show ((-1) : Int) = if (0 ≤ k ∧ k ≤ 2) ∧ (0 ≤ s_ ∧ s_ ≤ 5) ∧ 0 ≤ q ∧ q ≤ 3 then (if q = 0 then unA V k s_ (-1) else if q = 1 then unB V k s_ (-1) else if q = 2 then unC V k s_ (-1) else unD V k s_ (-1)) else -1 from by rw [if_neg (by omega)])) hL0 (WX.of hF0 hRW hA) dX8_unit_18
  · refine lv_iload_n hx hb dX8_unit_8 rfl (lv_at hl 2 rfl) ?_
    refine j_bi hx hb dX8_unit_9 (by decide +kernel) ?_
    refine k_S (As := [.int (J s_), .int (J 6)]) (rest := []) (v := .int (J (pI (0 ≤ s_ ∧ s_ < 6)))) hx hb hml hown hts hK hl.1 (c_X8_isOf l G s_ 6 (by omega) (by omega)) (va_cwS 2 hts gX8_unit_X8_isOf rfl rfl rfl (by decide +kernel) ⟨Nat.le_of_ble_eq_true rfl, Nat.le_of_ble_eq_true rfl⟩) trivial rfl rfl (Nat.le_of_ble_eq_true rfl) dX8_unit_11 ⟨Nat.zero_le _, Nat.zero_le _⟩ ?_
    refine j_neP (tgt := 19) hx hb dX8_unit_14 (by decide) (fun c14 => ?_) (fun c14 => ?_)
    · refine lv_aload_n hx hb dX8_unit_19 rfl (lv_at hl 0 rfl) ?_
      refine j_get (ci := 8) (v := .ref (a 1)) hx hb hts inX8_ hown hK hX rfl 0 (by decide) lk0 (fun _ h9 => h9) rfl dX8_unit_20 ?_
      refine lv_iload_n hx hb dX8_unit_23 rfl (lv_at hl 1 rfl) ?_
      refine lv_iload_n hx hb dX8_unit_24 rfl (lv_at hl 2 rfl) ?_
      refine j_const hx hb dX8_unit_25 ?_
      refine e_V (A := A) (ci := 5) (b := a 1) (As := [.int (J k), .int (J s_), .int (J (-1))]) (rest := []) hx hb hml hown hts hK hl.1 (c_X5_unitOf l G (a 1) (a 2) (f 0) (f 1) V k s_ (-1) sz (by omega) (by omega) (by omega)) (cwV 3 hts gX8_unit_X5_unitOf rfl rfl rfl (by decide +kernel) ⟨Nat.le_of_ble_eq_true rfl, Nat.le_of_ble_eq_true rfl⟩) hT2 rfl (⟨by have z1 := hF0.1; omega, hT⟩) rfl rfl (Nat.le_of_ble_eq_true rfl) dX8_unit_26 ⟨Nat.le_of_ble_eq_true rfl, Nat.le_of_ble_eq_true rfl⟩ hL0 (fun x hx => hx.elim (fun z => z.elim) (fun z => hAn x (by omega))) (fun H_1 lo_2 hp_3 hL_4 => ?_)
      show W p l e (headSpec wsX8_unit rmX8_unit).room s m ([.ref (a 0), .int (J k), .int (J s_), .int (J q)] : List Value).toArray below meth c H_1 lo_2 (0 + 1) (0 + 4) (MQ below (QE (some (.int (J (if (0 ≤ k ∧ k ≤ 2) ∧ (0 ≤ s_ ∧ s_ ≤ 5) ∧ 0 ≤ q ∧ q ≤ 3 then (if q = 0 then unA V k s_ (-1) else if q = 1 then unB V k s_ (-1) else if q = 2 then unC V k s_ (-1) else unD V k s_ (-1)) else -1))) : Option Value) (fun H H1 => WX G A a V H H1)) ([.ref (a 0), .int (J k), .int (J s_), .int (J q)] : List Value).toArray s 1 4 A) (F0 m 29 ls [.ref sz])
      have hf_6 : Fr s.heap H_1 (fun _ => False) 1 := hp_3.1
      have hF_5 : Fr s.heap H_1 A 1 := hF0.f hf_6 (fun x hx z => z.elim)
      have hun := hp_3.2
      have hF1 : Fr s.heap H_1 (fun _ => False) 1 := hp_3.1
      refine lv_astore (lv' := [(4, .ref sz), (0, .ref (a 0)), (1, .int (J k)), (2, .int (J s_)), (3, .int (J q))]) hx hb dX8_unit_29 hl (by decide) rfl (fun ls hl => ?_)
      refine lv_iload_n hx hb dX8_unit_31 rfl (lv_at hl 4 rfl) ?_
      rcases (show q = 0 ∨ q = 1 ∨ q = 2 ∨ q = 3 ∨ (q < 0 ∨ 3 < q) by omega) with c32 | c32 | c32 | c32 | c32
      · refine j_tabIn (tgt := 64) hx hb 0 c32 (by decide) (by decide) dX8_unit_32 (by decide) (by decide) rfl (by decide) ?_
        refine lv_aload hx hb dX8_unit_64 (lv_at hl 0 rfl) ?_
        refine j_get (ci := 6) (v := .int (J (unA V k s_ (-1)))) hx hb hts inX6_ hown hK hun rfl 0 (by decide) lk1 (fun _ h9 => h9) rfl dX8_unit_66 ?_
        exact r_iE hx hb hr hlk (Nat.le_of_ble_eq_true rfl) (Nat.le_of_ble_eq_true rfl) (congrArg (fun z => some (Value.int (J z))) (show (unA V k s_ (-1) : Int) = if (0 ≤ k ∧ k ≤ 2) ∧ (0 ≤ s_ ∧ s_ ≤ 5) ∧ 0 ≤ q ∧ q ≤ 3 then (if q = 0 then unA V k s_ (-1) else if q = 1 then unB V k s_ (-1) else if q = 2 then unC V k s_ (-1) else unD V k s_ (-1)) else -1 from by rw [if_pos (by omega)]; rw [if_pos (by omega)])) hL_4 (WX.of hF_5 (hRW.fr hF1 (fun _ _ _ z => z)) hA) dX8_unit_69
      · refine j_tabIn (tgt := 70) hx hb 1 c32 (by decide) (by decide) dX8_unit_32 (by decide) (by decide) rfl (by decide) ?_
        refine lv_aload hx hb dX8_unit_70 (lv_at hl 0 rfl) ?_
        refine j_get (ci := 6) (v := .int (J (unB V k s_ (-1)))) hx hb hts inX6_ hown hK hun rfl 1 (by decide) lk2 (fun _ h9 => h9) rfl dX8_unit_72 ?_
        exact r_iE hx hb hr hlk (Nat.le_of_ble_eq_true rfl) (Nat.le_of_ble_eq_true rfl) (congrArg (fun z => some (Value.int (J z))) (show (unB V k s_ (-1) : Int) = if (0 ≤ k ∧ k ≤ 2) ∧ (0 ≤ s_ ∧ s_ ≤ 5) ∧ 0 ≤ q ∧ q ≤ 3 then (if q = 0 then unA V k s_ (-1) else if q = 1 then unB V k s_ (-1) else if q = 2 then unC V k s_ (-1) else unD V k s_ (-1)) else -1 from by rw [if_pos (by omega)]; rw [if_neg (by omega)]; rw [if_pos (by omega)])) hL_4 (WX.of hF_5 (hRW.fr hF1 (fun _ _ _ z => z)) hA) dX8_unit_75
      · refine j_tabIn (tgt := 76) hx hb 2 c32 (by decide) (by decide) dX8_unit_32 (by decide) (by decide) rfl (by decide) ?_
        refine lv_aload hx hb dX8_unit_76 (lv_at hl 0 rfl) ?_
        refine j_get (ci := 6) (v := .int (J (unC V k s_ (-1)))) hx hb hts inX6_ hown hK hun rfl 2 (by decide) lk3 (fun _ h9 => h9) rfl dX8_unit_78 ?_
        exact r_iE hx hb hr hlk (Nat.le_of_ble_eq_true rfl) (Nat.le_of_ble_eq_true rfl) (congrArg (fun z => some (Value.int (J z))) (show (unC V k s_ (-1) : Int) = if (0 ≤ k ∧ k ≤ 2) ∧ (0 ≤ s_ ∧ s_ ≤ 5) ∧ 0 ≤ q ∧ q ≤ 3 then (if q = 0 then unA V k s_ (-1) else if q = 1 then unB V k s_ (-1) else if q = 2 then unC V k s_ (-1) else unD V k s_ (-1)) else -1 from by rw [if_pos (by omega)]; rw [if_neg (by omega)]; rw [if_neg (by omega)]; rw [if_pos (by omega)])) hL_4 (WX.of hF_5 (hRW.fr hF1 (fun _ _ _ z => z)) hA) dX8_unit_81
      · refine j_tabIn (tgt := 82) hx hb 3 c32 (by decide) (by decide) dX8_unit_32 (by decide) (by decide) rfl (by decide) ?_
        refine lv_aload hx hb dX8_unit_82 (lv_at hl 0 rfl) ?_
        refine j_get (ci := 6) (v := .int (J (unD V k s_ (-1)))) hx hb hts inX6_ hown hK hun rfl 3 (by decide) lk4 (fun _ h9 => h9) rfl dX8_unit_84 ?_
        exact r_iE hx hb hr hlk (Nat.le_of_ble_eq_true rfl) (Nat.le_of_ble_eq_true rfl) (congrArg (fun z => some (Value.int (J z))) (show (unD V k s_ (-1) : Int) = if (0 ≤ k ∧ k ≤ 2) ∧ (0 ≤ s_ ∧ s_ ≤ 5) ∧ 0 ≤ q ∧ q ≤ 3 then (if q = 0 then unA V k s_ (-1) else if q = 1 then unB V k s_ (-1) else if q = 2 then unC V k s_ (-1) else unD V k s_ (-1)) else -1 from by rw [if_pos (by omega)]; rw [if_neg (by omega)]; rw [if_neg (by omega)]; rw [if_neg (by omega)])) hL_4 (WX.of hF_5 (hRW.fr hF1 (fun _ _ _ z => z)) hA) dX8_unit_87
      · refine j_tabOut (tgt := 88) hx hb (by omega) (by omega) dX8_unit_32 c32 (by decide) ?_
        refine j_const hx hb dX8_unit_88 ?_
        exact r_iE hx hb hr hlk (Nat.le_of_ble_eq_true rfl) (Nat.le_of_ble_eq_true rfl) (congrArg (fun z => some (Value.int (J z))) (show ((-1) : Int) = if (0 ≤ k ∧ k ≤ 2) ∧ (0 ≤ s_ ∧ s_ ≤ 5) ∧ 0 ≤ q ∧ q ≤ 3 then (if q = 0 then unA V k s_ (-1) else if q = 1 then unB V k s_ (-1) else if q = 2 then unC V k s_ (-1) else unD V k s_ (-1)) else -1 from by rw [if_neg (by omega)])) hL_4 (WX.of hF_5 (hRW.fr hF1 (fun _ _ _ z => z)) hA) dX8_unit_89
    · refine j_const hx hb dX8_unit_17 ?_
      exact r_iE hx hb hr hlk (Nat.le_of_ble_eq_true rfl) (Nat.le_of_ble_eq_true rfl) (congrArg (fun z => some (Value.int (J z))) (show ((-1) : Int) = if (0 ≤ k ∧ k ≤ 2) ∧ (0 ≤ s_ ∧ s_ ≤ 5) ∧ 0 ≤ q ∧ q ≤ 3 then (if q = 0 then unA V k s_ (-1) else if q = 1 then unB V k s_ (-1) else if q = 2 then unC V k s_ (-1) else unD V k s_ (-1)) else -1 from by rw [if_neg (by omega)])) hL0 (WX.of hF0 hRW hA) dX8_unit_18

abbrev rmX8_tested : Room := { frames := 4, cells := 1, slots := 4, locals := 104 }
set_option maxHeartbeats 4000000 in
set_option maxRecDepth 100000 in
theorem c_X8_tested (l : Launch) (G : GG) (A : Nat → Prop) (a : Nat → Nat) (f : Nat → Int → Nat) (N : Int → List Int) (u : Nat → Int → Int) (ys : Int → Int) (V : St) (h : Int) (sz : Nat) (hA : ∀ t i, dom V t i → A (adr a f t i)) (hAn : ∀ x, sz ≤ x → A x) (g_h : -2147483648 ≤ h ∧ h < 2147483648) : ME l G yX8_tested wsX8_tested rmX8_tested [.ref (a 0), .int (J h)] (fun H => H.size = sz ∧ (RW G H a f N u ys V)) (some (.int (J (if 0 ≤ h ∧ h < V 0 0 then V 4 h * unA V (V 2 h) (V 3 h) h / unB V (V 2 h) (V 3 h) h else -1))) : Option Value) A (fun H H1 => WX G A a V H H1) 1 4 := by
  refine ME.of (cc := cX8_tested) (maxL := 3) (ret := (some .int)) (by decide) rfl (Nat.le_of_ble_eq_true rfl) ?_
  intro p e s m below meth c hx hb hr hml hown hts hlk hin hK hP ls hl
  have hL0 : ∀ z9 ∈ ([] : List Loc), A z9.base := fun z9 h => absurd h List.not_mem_nil
  have hown : s.vm.findClass RX8 = some m.cls := hown
  have hl : lv_has ls 3 [(0, .ref (a 0)), (1, .int (J h))] := hl
  have inX2_ : ∀ w ∈ u_ws RX2 TX2 7, w ∈ wsX8_tested := by decide +kernel
  have inX8_ : ∀ w ∈ u_ws RX8 TX8 4, w ∈ wsX8_tested := by decide +kernel
  have lk0 := hts (.fieldLink RX8 12 "RateBook" "town" "LRateBook$Town;") (by decide +kernel)
  have lk1 := hts (.fieldLink RX8 75 "RateBook$House" "kind" "I") (by decide +kernel)
  have lk2 := hts (.fieldLink RX8 78 "RateBook$House" "street" "I") (by decide +kernel)
  have lk3 := hts (.fieldLink RX8 81 "RateBook$House" "number" "I") (by decide +kernel)
  have lk4 := hts (.fieldLink RX8 84 "RateBook$House" "size" "I") (by decide +kernel)
  obtain ⟨hsz, hP⟩ := hP
  have hF0 : Fr s.heap s.heap A 0 := Fr.rf
  have hRW : RW G s.heap a f N u ys V := hP
  have hN := hRW.2.2.1
  obtain ⟨L, hLe⟩ : ∃ L : Int → List EvT, L = fun h => mkL V (f 9) h (N h) := ⟨_, rfl⟩
  have hRB : RB G s.heap a f L u V := hLe ▸ hRW.1
  obtain ⟨hV, hX, hT, hE, hLi, hBa, hBk⟩ := id hRB
  obtain ⟨hT1, hT2, hT3, hT4⟩ := id hT
  obtain ⟨hL1, hL2, hL3, hL4, hL5, hL6⟩ := id hLi
  have hn := hV.n
  have hnl := hV.l
  have hLl : ∀ h, 0 ≤ h → h < V 0 0 → ((L h).length : Int) = V 6 h := fun h z1 z2 => by rw [hLe]; exact (congrArg Int.ofNat (mkL_len _ _ _ _)).trans (hN h z1 z2).1
  have hMe : ∀ h, 0 ≤ h → h < V 0 0 → ∀ e ∈ L h, eAd e ≠ f 1 h ∧ eAd e ≠ f 2 h := fun h z1 z2 e he => by
    rw [hLe] at he
    obtain ⟨j, hj, rfl⟩ := mkL_mem he
    have w := (hN h z1 z2).2.1 j hj
    exact ⟨fun z => absurd (hRW.2.2.2 19 _ 11 h (dE z1 z2 w.1 w.2) (dH 11 (by omega) (by omega) z1 z2) z).1 (by omega), fun z => absurd (hRW.2.2.2 19 _ 12 h (dE z1 z2 w.1 w.2) (dH 12 (by omega) (by omega) z1 z2) z).1 (by omega)⟩
  have hM12 : ∀ h, 0 ≤ h → h < V 0 0 → f 1 h ≠ f 2 h := fun h z1 z2 z => absurd (hRW.2.2.2 11 h 12 h (dH 11 (by omega) (by omega) z1 z2) (dH 12 (by omega) (by omega) z1 z2) z).1 (by omega)
  have hlt_0 := (hX).lt
  have hlt_1 := (hT2).lt
  have hlt_2 := (hT3).lt
  have hlt_3 := (hL2).lt
  have hlt_4 := (hL3).lt
  have hlt_5 := (hBa).lt
  refine lv_aload_n hx hb dX8_tested_0 rfl (lv_at hl 0 rfl) ?_
  refine j_get (ci := 8) (v := .ref (a 1)) hx hb hts inX8_ hown hK hX rfl 0 (by decide) lk0 (fun _ h9 => h9) rfl dX8_tested_1 ?_
  refine lv_iload_n hx hb dX8_tested_4 rfl (lv_at hl 1 rfl) ?_
  refine k_V (ci := 5) (b := a 1) (As := [.int (J h)]) (rest := []) (v := va_rf (qN (V 0 0) (f 0) h)) hx hb hml hown hts hK hl.1 (c_X5_at l G (a 1) (a 2) (f 0) (f 1) V h (by omega)) (cwV 1 hts gX8_tested_X5_at rfl rfl rfl (by decide +kernel) ⟨Nat.le_of_ble_eq_true rfl, Nat.le_of_ble_eq_true rfl⟩) hT2 rfl hT rfl rfl (Nat.le_of_ble_eq_true rfl) dX8_tested_5 ⟨Nat.zero_le _, Nat.zero_le _⟩ ?_
  by_cases sp5 : 0 ≤ h ∧ h < V 0 0
  · refine j_qs (b := f 0 h) (qN_s sp5) ?_
    have hce_1 : At G s.heap (f 0 h) (eHo V (f 1) h) := hT4 h sp5.1 sp5.2
    have hih_2 := hT1.h sp5.1 sp5.2
    refine lv_astore_n (lv' := [(2, .ref (f 0 h)), (0, .ref (a 0)), (1, .int (J h))]) hx hb dX8_tested_8 rfl hl (by decide) rfl (fun ls hl => ?_)
    refine lv_aload_n hx hb dX8_tested_9 rfl (lv_at hl 0 rfl) ?_
    refine lv_ifnonnull (tgt := 15) hx hb dX8_tested_10 (by decide) ?_
    have hrh := hV.h (i := h) (by omega) (by omega)
    refine lv_aload_n hx hb dX8_tested_15 rfl (lv_at hl 1 rfl) ?_
    refine j_get (ci := 8) (v := .ref (a 1)) hx hb hts inX8_ hown hK hX rfl 0 (by decide) lk0 (fun _ h9 => h9) rfl dX8_tested_16 ?_
    refine lv_aload_n hx hb dX8_tested_19 rfl (lv_at hl 0 rfl) ?_
    refine j_get (ci := 2) (v := .int (J (V 2 h))) hx hb hts inX2_ hown hK hce_1 rfl 2 (by decide) lk1 (fun _ h9 => h9) rfl dX8_tested_20 ?_
    refine lv_aload_n hx hb dX8_tested_23 rfl (lv_at hl 0 rfl) ?_
    refine j_get (ci := 2) (v := .int (J (V 3 h))) hx hb hts inX2_ hown hK hce_1 rfl 3 (by decide) lk2 (fun _ h9 => h9) rfl dX8_tested_24 ?_
    refine lv_aload_n hx hb dX8_tested_27 rfl (lv_at hl 0 rfl) ?_
    refine j_get (ci := 2) (v := .int (J h)) hx hb hts inX2_ hown hK hce_1 rfl 0 (by decide) lk3 (fun _ h9 => h9) rfl dX8_tested_28 ?_
    refine e_V (A := A) (ci := 5) (b := a 1) (As := [.int (J (V 2 h)), .int (J (V 3 h)), .int (J h)]) (rest := []) hx hb hml hown hts hK hl.1 (c_X5_unitOf l G (a 1) (a 2) (f 0) (f 1) V (V 2 h) (V 3 h) h sz (by omega) (by omega) (by omega)) (cwV 3 hts gX8_tested_X5_unitOf rfl rfl rfl (by decide +kernel) ⟨Nat.le_of_ble_eq_true rfl, Nat.le_of_ble_eq_true rfl⟩) hT2 rfl (⟨by have z1 := hF0.1; omega, hT⟩) rfl rfl (Nat.le_of_ble_eq_true rfl) dX8_tested_31 ⟨Nat.le_of_ble_eq_true rfl, Nat.le_of_ble_eq_true rfl⟩ hL0 (fun x hx => hx.elim (fun z => z.elim) (fun z => hAn x (by omega))) (fun H_3 lo_4 hp_5 hL_6 => ?_)
    show W p l e (headSpec wsX8_tested rmX8_tested).room s m ([.ref (a 0), .int (J h)] : List Value).toArray below meth c H_3 lo_4 (0 + 1) (0 + 4) (MQ below (QE (some (.int (J (if 0 ≤ h ∧ h < V 0 0 then V 4 h * unA V (V 2 h) (V 3 h) h / unB V (V 2 h) (V 3 h) h else -1))) : Option Value) (fun H H1 => WX G A a V H H1)) ([.ref (a 0), .int (J h)] : List Value).toArray s 1 4 A) (F0 m 34 ls [.ref sz])
    have hf_8 : Fr s.heap H_3 (fun _ => False) 1 := hp_5.1
    have hF_7 : Fr s.heap H_3 A 1 := hF0.f hf_8 (fun x hx z => z.elim)
    have hun := hp_5.2
    have hF1 : Fr s.heap H_3 (fun _ => False) 1 := hp_5.1
    have hc0 : At G H_3 (f 0 h) (eHo V (f 1) h) := (hT4 h (by omega) (by omega)).f hF1 (fun z => z)
    refine lv_aload_n hx hb dX8_tested_34 rfl (lv_at hl 0 rfl) ?_
    refine j_get (ci := 2) (v := .int (J (V 4 h))) hx hb hts inX2_ hown hK hc0 rfl 4 (by decide) lk4 (fun _ h9 => h9) rfl dX8_tested_35 ?_
    have hur := un_rng hV (V 2 h) (V 3 h) h
    refine k_V (ci := 6) (b := sz) (As := [.int (J (V 4 h))]) (rest := []) (v := .long (JL ((V 4 h) * (unA V (V 2 h) (V 3 h) h) / (unB V (V 2 h) (V 3 h) h)))) hx hb hml hown hts hK hl.1 (c_X6_times l G sz (unA V (V 2 h) (V 3 h) h) (unB V (V 2 h) (V 3 h) h) (unC V (V 2 h) (V 3 h) h) (unD V (V 2 h) (V 3 h) h) (V 4 h) hur.1 hur.2 hrh.2.2.2.1) (cwV 1 hts gX8_tested_X6_times rfl rfl rfl (by decide +kernel) ⟨Nat.le_of_ble_eq_true rfl, Nat.le_of_ble_eq_true rfl⟩) hun rfl hun rfl rfl (Nat.le_of_ble_eq_true rfl) dX8_tested_38 ⟨Nat.le_of_ble_eq_true rfl, Nat.le_of_ble_eq_true rfl⟩ ?_
    refine j_l2i hx hb dX8_tested_41 ?_
    exact r_iE hx hb hr hlk (Nat.le_of_ble_eq_true rfl) (Nat.le_of_ble_eq_true rfl) (congrArg (fun z => some (Value.int (J z))) (show ((V 4 h) * (unA V (V 2 h) (V 3 h) h) / (unB V (V 2 h) (V 3 h) h) : Int) = if 0 ≤ h ∧ h < V 0 0 then V 4 h * unA V (V 2 h) (V 3 h) h / unB V (V 2 h) (V 3 h) h else -1 from by rw [if_pos (by omega)])) hL_6 (WX.of hF_7 (hRW.fr hF1 (fun _ _ _ z => z)) hA) dX8_tested_42
  · refine j_qn (qN_n sp5) ?_
    refine lv_astore_nN (lv' := [(2, .null), (0, .ref (a 0)), (1, .int (J h))]) hx hb dX8_tested_8 rfl hl (by decide) rfl (fun ls hl => ?_)
    refine lv_aload_nN hx hb dX8_tested_9 rfl (lv_at hl 0 rfl) ?_
    refine lv_ifnonnullN hx hb dX8_tested_10 ?_
    refine j_const hx hb dX8_tested_13 ?_
    exact r_iE hx hb hr hlk (Nat.le_of_ble_eq_true rfl) (Nat.le_of_ble_eq_true rfl) (congrArg (fun z => some (Value.int (J z))) (show ((-1) : Int) = if 0 ≤ h ∧ h < V 0 0 then V 4 h * unA V (V 2 h) (V 3 h) h / unB V (V 2 h) (V 3 h) h else -1 from by rw [if_neg (by omega)])) hL0 (WX.of hF0 hRW hA) dX8_tested_14
