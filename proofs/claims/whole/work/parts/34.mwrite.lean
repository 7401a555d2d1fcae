abbrev rmX9_adds : Room := { frames := 0, cells := 0, slots := 0, locals := 0 }
set_option maxHeartbeats 4000000 in
set_option maxRecDepth 100000 in
theorem c_X9_adds (l : Launch) (G : GG) (ad : Nat → Nat) (V : St) (fo am : Int) (ys : Int → Int) (h d k v : Int) (sz : Nat) (hD : Dj ad) (h_h : 0 ≤ h ∧ h < 40) (h_6 : 0 ≤ V 6 h ∧ V 6 h < 12) : ME l G yX9_adds wsX9_adds rmX9_adds [.ref (ad 0), .int (J h), .int (J d), .int (J k), .int (J v)] (fun H => H.size = sz ∧ (MW G H ad V fo am ys)) (none : Option Value) (fun x => (mS ad) x ∨ sz ≤ x) (fun H H1 => Fr H H1 (mS ad) 0 ∧ MW G H1 ad (sAd V h d k v) fo am ys) 0 0 := by
  refine ME.of (cc := cX9_adds) (maxL := 6) (ret := none) (by decide) rfl (Nat.le_of_ble_eq_true rfl) ?_
  intro p e s m below meth c hx hb hr hml hown hts hlk hin hK hP ls hl
  have hL0 : ∀ z9 ∈ ([] : List Loc), (fun x => (mS ad) x ∨ sz ≤ x) z9.base := fun z9 h => absurd h List.not_mem_nil
  have hown : s.vm.findClass RX9 = some m.cls := hown
  have hl : lv_has ls 6 [(0, .ref (ad 0)), (1, .int (J h)), (2, .int (J d)), (3, .int (J k)), (4, .int (J v))] := hl
  have inX9_ : ∀ w ∈ u_ws RX9 TX9 22, w ∈ wsX9_adds := by decide +kernel
  have lk0 := hts (.fieldLink RX9 25 "RateBookModel" "events" "[I") (by decide +kernel)
  have lk1 := hts (.fieldLink RX9 28 "RateBookModel" "eventDay" "[I") (by decide +kernel)
  have lk2 := hts (.fieldLink RX9 31 "RateBookModel" "eventKind" "[I") (by decide +kernel)
  have lk3 := hts (.fieldLink RX9 34 "RateBookModel" "eventValue" "[I") (by decide +kernel)
  obtain ⟨hsz, hP⟩ := hP
  have hF0 : Fr s.heap s.heap (mS ad) 0 := Fr.rf
  have hM : MW G s.heap ad V fo am ys := hP
  refine j_bi hx hb dX9_adds_0 (by decide +kernel) ?_
  refine lv_iload_n hx hb dX9_adds_2 rfl (lv_at hl 1 rfl) ?_
  refine j_mul hx hb dX9_adds_3 ?_
  refine lv_aload_n hx hb dX9_adds_4 rfl (lv_at hl 0 rfl) ?_
  have ce_1 : At G s.heap (ad 0) (eO 9 [.int (J (V 0 0)), .ref (ad 1), .ref (ad 2), .ref (ad 3), .ref (ad 4), .ref (ad 5), .ref (ad 6), .ref (ad 7), .ref (ad 8), .ref (ad 9), .int (J (V 0 1)), .ref (ad 10), .ref (ad 11), .ref (ad 12), .ref (ad 13), .ref (ad 14), .ref (ad 15), .ref (ad 16), .ref (ad 17), .int (J fo), .int (J am), .ref (ad 18)]) := hM.1
  refine j_get (ci := 9) (v := .ref (ad 6)) hx hb hts inX9_ hown hK ce_1 rfl 6 (by decide) lk0 (fun _ h9 => h9) rfl dX9_adds_5 ?_
  refine lv_iload_n hx hb dX9_adds_8 rfl (lv_at hl 1 rfl) ?_
  have ce_2 : At G s.heap (ad 6) (eI G 40 (V 6)) := (hM.2.1 6 (by decide) (by decide))
  refine j_iald hx hb hK ce_2 (by omega) (by omega) (by decide) dX9_adds_9 ?_
  refine j_add hx hb dX9_adds_10 ?_
  refine lv_istore (lv' := [(5, .int (J ((12 * h) + ((V 6) h)))), (0, .ref (ad 0)), (1, .int (J h)), (2, .int (J d)), (3, .int (J k)), (4, .int (J v))]) hx hb dX9_adds_11 hl (by decide) rfl (fun ls hl => ?_)
  refine lv_aload_n hx hb dX9_adds_13 rfl (lv_at hl 1 rfl) ?_
  refine j_get (ci := 9) (v := .ref (ad 7)) hx hb hts inX9_ hown hK ce_1 rfl 7 (by decide) lk1 (fun _ h9 => h9) rfl dX9_adds_14 ?_
  refine lv_iload hx hb dX9_adds_17 (lv_at hl 0 rfl) ?_
  refine lv_iload_n hx hb dX9_adds_19 rfl (lv_at hl 3 rfl) ?_
  have ce_3 : At G s.heap (ad 7) (eI G 480 (V 7)) := (hM.2.1 7 (by decide) (by decide))
  refine j_iast (A := (fun x => (mS ad) x ∨ sz ≤ x)) hx hb hK ce_3 (by omega) (by omega) (by decide) hL0 (Or.inl ⟨7, by decide, rfl⟩) dX9_adds_20 (fun H_4 lo_5 hc_6 hx_7 hL_8 => ?_)
  have hc_6 : At G H_4 (ad 7) (eI G 480 (uf (V 7) ((12 * h) + ((V 6) h)) d)) := hc_6
  have hM_11 : MW G H_4 ad (vu V 7 ((12 * h) + ((V 6) h)) d) fo am ys := MW.upd (k := 7) hD hM hx_7 (by decide) (by decide) hc_6 (fun c hc => vu_n _ _ _ hc)
  have hF_12 : Fr s.heap H_4 (mS ad) 0 := hF0.x hx_7 (fun _ => ⟨7, by decide, rfl⟩)
  refine lv_aload_n hx hb dX9_adds_21 rfl (lv_at hl 1 rfl) ?_
  have ce_13 : At G H_4 (ad 0) (eO 9 [.int (J (V 0 0)), .ref (ad 1), .ref (ad 2), .ref (ad 3), .ref (ad 4), .ref (ad 5), .ref (ad 6), .ref (ad 7), .ref (ad 8), .ref (ad 9), .int (J (V 0 1)), .ref (ad 10), .ref (ad 11), .ref (ad 12), .ref (ad 13), .ref (ad 14), .ref (ad 15), .ref (ad 16), .ref (ad 17), .int (J fo), .int (J am), .ref (ad 18)]) := hM_11.1
  refine j_get (ci := 9) (v := .ref (ad 8)) hx hb hts inX9_ hown hK ce_13 rfl 8 (by decide) lk2 (fun _ h9 => h9) rfl dX9_adds_22 ?_
  refine lv_iload hx hb dX9_adds_25 (lv_at hl 0 rfl) ?_
  refine lv_iload_n hx hb dX9_adds_27 rfl (lv_at hl 4 rfl) ?_
  have ce_14 : At G H_4 (ad 8) (eI G 480 (V 8)) := (hM_11.2.1 8 (by decide) (by decide))
  refine j_iast (A := (fun x => (mS ad) x ∨ sz ≤ x)) hx hb hK ce_14 (by omega) (by omega) (by decide) hL_8 (Or.inl ⟨8, by decide, rfl⟩) dX9_adds_28 (fun H_15 lo_16 hc_17 hx_18 hL_19 => ?_)
  have hc_17 : At G H_15 (ad 8) (eI G 480 (uf (V 8) ((12 * h) + ((V 6) h)) k)) := hc_17
  have hM_21 : MW G H_15 ad (vu (vu V 7 ((12 * h) + ((V 6) h)) d) 8 ((12 * h) + ((V 6) h)) k) fo am ys := MW.upd (k := 8) hD hM_11 hx_18 (by decide) (by decide) hc_17 (fun c hc => vu_n _ _ _ hc)
  have hF_22 : Fr s.heap H_15 (mS ad) 0 := hF_12.x hx_18 (fun _ => ⟨8, by decide, rfl⟩)
  refine lv_aload_n hx hb dX9_adds_29 rfl (lv_at hl 1 rfl) ?_
  have ce_23 : At G H_15 (ad 0) (eO 9 [.int (J (V 0 0)), .ref (ad 1), .ref (ad 2), .ref (ad 3), .ref (ad 4), .ref (ad 5), .ref (ad 6), .ref (ad 7), .ref (ad 8), .ref (ad 9), .int (J (V 0 1)), .ref (ad 10), .ref (ad 11), .ref (ad 12), .ref (ad 13), .ref (ad 14), .ref (ad 15), .ref (ad 16), .ref (ad 17), .int (J fo), .int (J am), .ref (ad 18)]) := hM_21.1
  refine j_get (ci := 9) (v := .ref (ad 9)) hx hb hts inX9_ hown hK ce_23 rfl 9 (by decide) lk3 (fun _ h9 => h9) rfl dX9_adds_30 ?_
  refine lv_iload hx hb dX9_adds_33 (lv_at hl 0 rfl) ?_
  refine lv_iload hx hb dX9_adds_35 (lv_at hl 5 rfl) ?_
  have ce_24 : At G H_15 (ad 9) (eI G 480 (V 9)) := (hM_21.2.1 9 (by decide) (by decide))
  refine j_iast (A := (fun x => (mS ad) x ∨ sz ≤ x)) hx hb hK ce_24 (by omega) (by omega) (by decide) hL_19 (Or.inl ⟨9, by decide, rfl⟩) dX9_adds_37 (fun H_25 lo_26 hc_27 hx_28 hL_29 => ?_)
  have hc_27 : At G H_25 (ad 9) (eI G 480 (uf (V 9) ((12 * h) + ((V 6) h)) v)) := hc_27
  have hM_31 : MW G H_25 ad (vu (vu (vu V 7 ((12 * h) + ((V 6) h)) d) 8 ((12 * h) + ((V 6) h)) k) 9 ((12 * h) + ((V 6) h)) v) fo am ys := MW.upd (k := 9) hD hM_21 hx_28 (by decide) (by decide) hc_27 (fun c hc => vu_n _ _ _ hc)
  have hF_32 : Fr s.heap H_25 (mS ad) 0 := hF_22.x hx_28 (fun _ => ⟨9, by decide, rfl⟩)
  refine lv_aload_n hx hb dX9_adds_38 rfl (lv_at hl 1 rfl) ?_
  have ce_33 : At G H_25 (ad 0) (eO 9 [.int (J (V 0 0)), .ref (ad 1), .ref (ad 2), .ref (ad 3), .ref (ad 4), .ref (ad 5), .ref (ad 6), .ref (ad 7), .ref (ad 8), .ref (ad 9), .int (J (V 0 1)), .ref (ad 10), .ref (ad 11), .ref (ad 12), .ref (ad 13), .ref (ad 14), .ref (ad 15), .ref (ad 16), .ref (ad 17), .int (J fo), .int (J am), .ref (ad 18)]) := hM_31.1
  refine j_get (ci := 9) (v := .ref (ad 6)) hx hb hts inX9_ hown hK ce_33 rfl 6 (by decide) lk0 (fun _ h9 => h9) rfl dX9_adds_39 ?_
  refine lv_iload_n hx hb dX9_adds_42 rfl (lv_at hl 2 rfl) ?_
  refine lv_dup2_11 hx hb dX9_adds_43 rfl rfl ?_
  have ce_34 : At G H_25 (ad 6) (eI G 40 (V 6)) := (hM_31.2.1 6 (by decide) (by decide))
  refine j_iald hx hb hK ce_34 (by omega) (by omega) (by decide) dX9_adds_44 ?_
  refine j_const hx hb dX9_adds_45 ?_
  refine j_add hx hb dX9_adds_46 ?_
  refine j_iast (A := (fun x => (mS ad) x ∨ sz ≤ x)) hx hb hK ce_34 (by omega) (by omega) (by decide) hL_29 (Or.inl ⟨6, by decide, rfl⟩) dX9_adds_47 (fun H_35 lo_36 hc_37 hx_38 hL_39 => ?_)
  have hc_37 : At G H_35 (ad 6) (eI G 40 (uf (V 6) h (((V 6) h) + 1))) := hc_37
  have hM_41 : MW G H_35 ad (vu (vu (vu (vu V 7 ((12 * h) + ((V 6) h)) d) 8 ((12 * h) + ((V 6) h)) k) 9 ((12 * h) + ((V 6) h)) v) 6 h (((V 6) h) + 1)) fo am ys := MW.upd (k := 6) hD hM_31 hx_38 (by decide) (by decide) hc_37 (fun c hc => vu_n _ _ _ hc)
  have hF_42 : Fr s.heap H_35 (mS ad) 0 := hF_32.x hx_38 (fun _ => ⟨6, by decide, rfl⟩)
  exact r_vE hx hb hr hlk (Nat.le_of_ble_eq_true rfl) (Nat.le_of_ble_eq_true rfl) rfl hL_39 (⟨hF_42, hM_41⟩) dX9_adds_48

abbrev rmX9_rent : Room := { frames := 2, cells := 0, slots := 0, locals := 43 }
set_option maxHeartbeats 4000000 in
set_option maxRecDepth 100000 in
theorem c_X9_rent (l : Launch) (G : GG) (ad : Nat → Nat) (V : St) (fo am : Int) (ys : Int → Int) (h r : Int) (sz : Nat) (hV : Iv V) (hD : Dj ad) (g_h : -2147483648 ≤ h ∧ h < 2147483648) (g_r : -2147483648 ≤ r ∧ r < 2147483648) : ME l G yX9_rent wsX9_rent rmX9_rent [.ref (ad 0), .int (J h), .int (J r)] (fun H => H.size = sz ∧ (MW G H ad V fo am ys)) (some (.int (J (if (0 ≤ h ∧ h < V 0 0) ∧ 0 ≤ r ∧ r ≤ 100000 then V 5 h else -1))) : Option Value) (fun x => (mS ad) x ∨ sz ≤ x) (fun H H1 => Fr H H1 (mS ad) 0 ∧ MX G H1 ad (if (0 ≤ h ∧ h < V 0 0) ∧ 0 ≤ r ∧ r ≤ 100000 then vu V 5 h r else V)) 0 0 := by
  refine ME.of (cc := cX9_rent) (maxL := 4) (ret := (some .int)) (by decide) rfl (Nat.le_of_ble_eq_true rfl) ?_
  intro p e s m below meth c hx hb hr hml hown hts hlk hin hK hP ls hl
  have hL0 : ∀ z9 ∈ ([] : List Loc), (fun x => (mS ad) x ∨ sz ≤ x) z9.base := fun z9 h => absurd h List.not_mem_nil
  have hown : s.vm.findClass RX9 = some m.cls := hown
  have hl : lv_has ls 4 [(0, .ref (ad 0)), (1, .int (J h)), (2, .int (J r))] := hl
  have inX9_ : ∀ w ∈ u_ws RX9 TX9 22, w ∈ wsX9_rent := by decide +kernel
  have lk0 := hts (.constant RX9 74 100000) (by decide +kernel)
  have lk1 := hts (.fieldLink RX9 22 "RateBookModel" "rent" "[I") (by decide +kernel)
  obtain ⟨hsz, hP⟩ := hP
  have hF0 : Fr s.heap s.heap (mS ad) 0 := Fr.rf
  have hM : MW G s.heap ad V fo am ys := hP
  have hn := hV.n
  have hnl := hV.l
  refine lv_aload_n hx hb dX9_rent_0 rfl (lv_at hl 0 rfl) ?_
  refine lv_iload_n hx hb dX9_rent_1 rfl (lv_at hl 1 rfl) ?_
  have ce_1 : At G s.heap (ad 0) (eO 9 [.int (J (V 0 0)), .ref (ad 1), .ref (ad 2), .ref (ad 3), .ref (ad 4), .ref (ad 5), .ref (ad 6), .ref (ad 7), .ref (ad 8), .ref (ad 9), .int (J (V 0 1)), .ref (ad 10), .ref (ad 11), .ref (ad 12), .ref (ad 13), .ref (ad 14), .ref (ad 15), .ref (ad 16), .ref (ad 17), .int (J fo), .int (J am), .ref (ad 18)]) := hM.1
  refine k_V (ci := 9) (b := ad 0) (As := [.int (J h)]) (rest := []) (v := .int (J (pI (0 ≤ h ∧ h ≤ V 0 0 - 1)))) hx hb hml hown hts hK hl.1 (c_X9_isHouse l G ad V fo am ys h hV (by omega)) (cwV 1 hts gX9_rent_X9_isHouse rfl rfl rfl (by decide +kernel) ⟨Nat.le_of_ble_eq_true rfl, Nat.le_of_ble_eq_true rfl⟩) ce_1 rfl hM rfl rfl (Nat.le_of_ble_eq_true rfl) dX9_rent_2 ⟨Nat.zero_le _, Nat.zero_le _⟩ ?_
  refine j_eqP (tgt := 18) hx hb dX9_rent_5 (by decide) (fun c5 => ?_) (fun c5 => ?_)
  · refine j_const hx hb dX9_rent_18 ?_
    exact r_iE hx hb hr hlk (Nat.le_of_ble_eq_true rfl) (Nat.le_of_ble_eq_true rfl) (congrArg (fun z => some (Value.int (J z))) (show ((-1) : Int) = if (0 ≤ h ∧ h < V 0 0) ∧ 0 ≤ r ∧ r ≤ 100000 then V 5 h else -1 from by rw [if_neg (by omega)])) hL0 (⟨hF0, by rw [if_neg (by omega)]; exact ⟨_, _, _, hM⟩⟩) dX9_rent_19
  · refine lv_iload_n hx hb dX9_rent_8 rfl (lv_at hl 2 rfl) ?_
    refine j_const hx hb dX9_rent_9 ?_
    refine j_ldc hx hb hown lk0 (z := 100000) rfl dX9_rent_10 ?_
    refine k_S (As := [.int (J r), .int (J 0), .int (J 100000)]) (rest := []) (v := .int (J (pI (0 ≤ r ∧ r ≤ 100000)))) hx hb hml hown hts hK hl.1 (c_X9_in l G r 0 100000 (by omega) (by omega) (by omega)) (va_cwS 3 hts gX9_rent_X9_in rfl rfl rfl (by decide +kernel) ⟨Nat.le_of_ble_eq_true rfl, Nat.le_of_ble_eq_true rfl⟩) trivial rfl rfl (Nat.le_of_ble_eq_true rfl) dX9_rent_12 ⟨Nat.zero_le _, Nat.zero_le _⟩ ?_
    refine j_neP (tgt := 20) hx hb dX9_rent_15 (by decide) (fun c15 => ?_) (fun c15 => ?_)
    · refine lv_aload_n hx hb dX9_rent_20 rfl (lv_at hl 0 rfl) ?_
      refine j_get (ci := 9) (v := .ref (ad 5)) hx hb hts inX9_ hown hK ce_1 rfl 5 (by decide) lk1 (fun _ h9 => h9) rfl dX9_rent_21 ?_
      refine lv_iload_n hx hb dX9_rent_24 rfl (lv_at hl 1 rfl) ?_
      have ce_2 : At G s.heap (ad 5) (eI G 40 (V 5)) := (hM.2.1 5 (by decide) (by decide))
      refine j_iald hx hb hK ce_2 (by omega) (by omega) (by decide) dX9_rent_25 ?_
      have hr_3 := hV.h (i := h) (by omega) (by omega)
      refine lv_istore_n (lv' := [(3, .int (J ((V 5) h))), (0, .ref (ad 0)), (1, .int (J h)), (2, .int (J r))]) hx hb dX9_rent_26 rfl hl (by decide) rfl (fun ls hl => ?_)
      refine lv_aload_n hx hb dX9_rent_27 rfl (lv_at hl 1 rfl) ?_
      refine j_get (ci := 9) (v := .ref (ad 5)) hx hb hts inX9_ hown hK ce_1 rfl 5 (by decide) lk1 (fun _ h9 => h9) rfl dX9_rent_28 ?_
      refine lv_iload_n hx hb dX9_rent_31 rfl (lv_at hl 2 rfl) ?_
      refine lv_iload_n hx hb dX9_rent_32 rfl (lv_at hl 3 rfl) ?_
      refine j_iast (A := (fun x => (mS ad) x ∨ sz ≤ x)) hx hb hK ce_2 (by omega) (by omega) (by decide) hL0 (Or.inl ⟨5, by decide, rfl⟩) dX9_rent_33 (fun H_4 lo_5 hc_6 hx_7 hL_8 => ?_)
      have hc_6 : At G H_4 (ad 5) (eI G 40 (uf (V 5) h r)) := hc_6
      have hM_10 : MW G H_4 ad (vu V 5 h r) fo am ys := MW.upd (k := 5) hD hM hx_7 (by decide) (by decide) hc_6 (fun c hc => vu_n _ _ _ hc)
      have hF_11 : Fr s.heap H_4 (mS ad) 0 := hF0.x hx_7 (fun _ => ⟨5, by decide, rfl⟩)
      refine lv_iload_n hx hb dX9_rent_34 rfl (lv_at hl 0 rfl) ?_
      exact r_iE hx hb hr hlk (Nat.le_of_ble_eq_true rfl) (Nat.le_of_ble_eq_true rfl) (congrArg (fun z => some (Value.int (J z))) (show ((V 5) h : Int) = if (0 ≤ h ∧ h < V 0 0) ∧ 0 ≤ r ∧ r ≤ 100000 then V 5 h else -1 from by rw [if_pos (by omega)])) hL_8 (⟨hF_11, by rw [if_pos (by omega)]; exact ⟨_, _, _, hM_10⟩⟩) dX9_rent_35
    · refine j_const hx hb dX9_rent_18 ?_
      exact r_iE hx hb hr hlk (Nat.le_of_ble_eq_true rfl) (Nat.le_of_ble_eq_true rfl) (congrArg (fun z => some (Value.int (J z))) (show ((-1) : Int) = if (0 ≤ h ∧ h < V 0 0) ∧ 0 ≤ r ∧ r ≤ 100000 then V 5 h else -1 from by rw [if_neg (by omega)])) hL0 (⟨hF0, by rw [if_neg (by omega)]; exact ⟨_, _, _, hM⟩⟩) dX9_rent_19

abbrev rmX9_middle : Room := { frames := 1, cells := 0, slots := 0, locals := 24 }
set_option maxHeartbeats 4000000 in
set_option maxRecDepth 100000 in
theorem c_X9_middle (l : Launch) (G : GG) (ad : Nat → Nat) (V : St) (fo am : Int) (ys : Int → Int) (k s_ out : Int) (sz : Nat) (hV : Iv V) (hD : Dj ad) (h_s : -1 ≤ s_) (g_k : -2147483648 ≤ k ∧ k < 2147483648) (g_s_ : -2147483648 ≤ s_ ∧ s_ < 2147483648) (g_out : -2147483648 ≤ out ∧ out < 2147483648) : ME l G yX9_middle wsX9_middle rmX9_middle [.ref (ad 0), .int (J k), .int (J s_), .int (J out)] (fun H => H.size = sz ∧ (MW G H ad V fo am ys)) (none : Option Value) (fun x => (mS ad) x ∨ sz ≤ x) (fun H H1 => Fr H H1 (mS ad) 0 ∧ MW G H1 ad V (mFo V k s_ out) (among V k s_ out) ys) 0 0 := by
  refine ME.of (cc := cX9_middle) (maxL := 7) (ret := none) (by decide) rfl (Nat.le_of_ble_eq_true rfl) ?_
  intro p e s m below meth c hx hb hr hml hown hts hlk hin hK hP ls hl
  have hL0 : ∀ z9 ∈ ([] : List Loc), (fun x => (mS ad) x ∨ sz ≤ x) z9.base := fun z9 h => absurd h List.not_mem_nil
  have hown : s.vm.findClass RX9 = some m.cls := hown
  have hl : lv_has ls 7 [(0, .ref (ad 0)), (1, .int (J k)), (2, .int (J s_)), (3, .int (J out))] := hl
  have inX9_ : ∀ w ∈ u_ws RX9 TX9 22, w ∈ wsX9_middle := by decide +kernel
  have lk0 := hts (.fieldLink RX9 79 "RateBookModel" "found" "I") (by decide +kernel)
  have lk1 := hts (.fieldLink RX9 82 "RateBookModel" "among" "I") (by decide +kernel)
  have lk2 := hts (.fieldLink RX9 66 "RateBookModel" "houses" "I") (by decide +kernel)
  obtain ⟨hsz, hP⟩ := hP
  have hF0 : Fr s.heap s.heap (mS ad) 0 := Fr.rf
  have hM : MW G s.heap ad V fo am ys := hP
  have hn := hV.n
  have hnl := hV.l
  refine lv_aload_n hx hb dX9_middle_0 rfl (lv_at hl 0 rfl) ?_
  refine j_const hx hb dX9_middle_1 ?_
  have ce_1 : At G s.heap (ad 0) (eO 9 [.int (J (V 0 0)), .ref (ad 1), .ref (ad 2), .ref (ad 3), .ref (ad 4), .ref (ad 5), .ref (ad 6), .ref (ad 7), .ref (ad 8), .ref (ad 9), .int (J (V 0 1)), .ref (ad 10), .ref (ad 11), .ref (ad 12), .ref (ad 13), .ref (ad 14), .ref (ad 15), .ref (ad 16), .ref (ad 17), .int (J fo), .int (J am), .ref (ad 18)]) := hM.1
  refine j_put (ci := 9) (A := (fun x => (mS ad) x ∨ sz ≤ x)) (ty := .int) hx hb hts inX9_ tyX9 tyX9_ok nmX9 hown hK ce_1 rfl 19 (by decide) lk0 (fun _ h9 => h9) rfl (by decide +kernel) rfl rfl (Nat.le_of_ble_eq_true rfl) hL0 (Or.inl ⟨0, by decide, rfl⟩) dX9_middle_2 (fun H_2 lo_3 hc_4 hx_5 hL_6 => ?_)
  have hc_4 : At G H_2 (ad 0) (eO 9 [.int (J (V 0 0)), .ref (ad 1), .ref (ad 2), .ref (ad 3), .ref (ad 4), .ref (ad 5), .ref (ad 6), .ref (ad 7), .ref (ad 8), .ref (ad 9), .int (J (V 0 1)), .ref (ad 10), .ref (ad 11), .ref (ad 12), .ref (ad 13), .ref (ad 14), .ref (ad 15), .ref (ad 16), .ref (ad 17), .int (J (-1)), .int (J am), .ref (ad 18)]) := hc_4
  have hM_7 : MW G H_2 ad V (-1) am ys := MW.upd0 hD hM hx_5 hc_4 (fun _ _ => rfl)
  have hF_8 : Fr s.heap H_2 (mS ad) 0 := hF0.x hx_5 (fun _ => ⟨0, by decide, rfl⟩)
  refine lv_aload_n hx hb dX9_middle_5 rfl (lv_at hl 0 rfl) ?_
  refine j_const hx hb dX9_middle_6 ?_
  have ce_9 : At G H_2 (ad 0) (eO 9 [.int (J (V 0 0)), .ref (ad 1), .ref (ad 2), .ref (ad 3), .ref (ad 4), .ref (ad 5), .ref (ad 6), .ref (ad 7), .ref (ad 8), .ref (ad 9), .int (J (V 0 1)), .ref (ad 10), .ref (ad 11), .ref (ad 12), .ref (ad 13), .ref (ad 14), .ref (ad 15), .ref (ad 16), .ref (ad 17), .int (J (-1)), .int (J am), .ref (ad 18)]) := hM_7.1
  refine j_put (ci := 9) (A := (fun x => (mS ad) x ∨ sz ≤ x)) (ty := .int) hx hb hts inX9_ tyX9 tyX9_ok nmX9 hown hK ce_9 rfl 20 (by decide) lk1 (fun _ h9 => h9) rfl (by decide +kernel) rfl rfl (Nat.le_of_ble_eq_true rfl) hL_6 (Or.inl ⟨0, by decide, rfl⟩) dX9_middle_7 (fun H_10 lo_11 hc_12 hx_13 hL_14 => ?_)
  have hc_12 : At G H_10 (ad 0) (eO 9 [.int (J (V 0 0)), .ref (ad 1), .ref (ad 2), .ref (ad 3), .ref (ad 4), .ref (ad 5), .ref (ad 6), .ref (ad 7), .ref (ad 8), .ref (ad 9), .int (J (V 0 1)), .ref (ad 10), .ref (ad 11), .ref (ad 12), .ref (ad 13), .ref (ad 14), .ref (ad 15), .ref (ad 16), .ref (ad 17), .int (J (-1)), .int (J 0), .ref (ad 18)]) := hc_12
  have hM_15 : MW G H_10 ad V (-1) 0 ys := MW.upd0 hD hM_7 hx_13 hc_12 (fun _ _ => rfl)
  have hF_16 : Fr s.heap H_10 (mS ad) 0 := hF_8.x hx_13 (fun _ => ⟨0, by decide, rfl⟩)
  refine j_const hx hb dX9_middle_10 ?_
  refine lv_istore (lv' := [(4, .int (J 0)), (0, .ref (ad 0)), (1, .int (J k)), (2, .int (J s_)), (3, .int (J out))]) hx hb dX9_middle_11 hl (by decide) rfl (fun ls hl => ?_)
  have lp13 : ∀ (n : Nat) (i : Int) (H13 : Heap) (lo13 : List Loc) (hL13 : ∀ z9 ∈ lo13, (fun x => (mS ad) x ∨ sz ≤ x) z9.base) (i0 : 0 ≤ i ∧ i ≤ V 0 0) (hFl : Fr s.heap H13 (mS ad) 0) (hMl : MW G H13 ad V (-1) (lo (fun x h => x + pI (asked V k s_ out h)) 0 i) ys) (hm : V 0 0 - i < (n : Int)) (ls : Array Slot) (hl : lv_has ls 7 [(4, .int (J i)), (0, .ref (ad 0)), (1, .int (J k)), (2, .int (J s_)), (3, .int (J out))]), W p l e (headSpec wsX9_middle rmX9_middle).room s m ([.ref (ad 0), .int (J k), .int (J s_), .int (J out)] : List Value).toArray below meth c H13 lo13 0 0 (MQ below (QE (none : Option Value) (fun H H1 => Fr H H1 (mS ad) 0 ∧ MW G H1 ad V (mFo V k s_ out) (among V k s_ out) ys)) ([.ref (ad 0), .int (J k), .int (J s_), .int (J out)] : List Value).toArray s 0 0 (fun x => (mS ad) x ∨ sz ≤ x)) (F0 m 13 ls []) := by
    intro n
    induction n with
    | zero =>
      intro i H13 lo13 hL13 i0 hFl hMl hm ls hl
      exact absurd hm (by omega)
    | succ n ih13 =>
      intro i H13 lo13 hL13 i0 hFl hMl hm ls hl
      refine lv_iload hx hb dX9_middle_13 (lv_at hl 0 rfl) ?_
      refine lv_aload_n hx hb dX9_middle_15 rfl (lv_at hl 1 rfl) ?_
      have ce_17 : At G H13 (ad 0) (eO 9 [.int (J (V 0 0)), .ref (ad 1), .ref (ad 2), .ref (ad 3), .ref (ad 4), .ref (ad 5), .ref (ad 6), .ref (ad 7), .ref (ad 8), .ref (ad 9), .int (J (V 0 1)), .ref (ad 10), .ref (ad 11), .ref (ad 12), .ref (ad 13), .ref (ad 14), .ref (ad 15), .ref (ad 16), .ref (ad 17), .int (J (-1)), .int (J (lo (fun x h => x + pI (asked V k s_ out h)) 0 i)), .ref (ad 18)]) := hMl.1
      refine j_get (ci := 9) (v := .int (J (V 0 0))) hx hb hts inX9_ hown hK ce_17 rfl 0 (by decide) lk2 (fun _ h9 => h9) rfl dX9_middle_16 ?_
      refine j_cge (tgt := 54) hx hb (by omega) (by omega) (by omega) (by omega) dX9_middle_19 (by decide) (fun c19 => ?_) (fun c19 => ?_)
      · refine j_const hx hb dX9_middle_54 ?_
        refine lv_istore (lv' := [(4, .int (J 0)), (0, .ref (ad 0)), (1, .int (J k)), (2, .int (J s_)), (3, .int (J out))]) hx hb dX9_middle_55 hl (by decide) rfl (fun ls hl => ?_)
        have hna : i = V 0 0 := by omega
        have hMa : MW G H13 ad V (-1) (among V k s_ out) ys := by rw [hna] at hMl; exact hMl
        have lp57 : ∀ (n : Nat) (i : Int) (H57 : Heap) (lo57 : List Loc) (hL57 : ∀ z9 ∈ lo57, (fun x => (mS ad) x ∨ sz ≤ x) z9.base) (i0 : 0 ≤ i ∧ i ≤ V 0 0) (hFm : Fr s.heap H57 (mS ad) 0) (hMm : MW G H57 ad V (lo (fun x h => if asked V k s_ out h ∧ rank V k s_ out h = (among V k s_ out - 1).tdiv 2 then h else x) (-1) i) (among V k s_ out) ys) (hm : V 0 0 - i < (n : Int)) (ls : Array Slot) (hl : lv_has ls 7 [(4, .int (J i)), (0, .ref (ad 0)), (1, .int (J k)), (2, .int (J s_)), (3, .int (J out))]), W p l e (headSpec wsX9_middle rmX9_middle).room s m ([.ref (ad 0), .int (J k), .int (J s_), .int (J out)] : List Value).toArray below meth c H57 lo57 0 0 (MQ below (QE (none : Option Value) (fun H H1 => Fr H H1 (mS ad) 0 ∧ MW G H1 ad V (mFo V k s_ out) (among V k s_ out) ys)) ([.ref (ad 0), .int (J k), .int (J s_), .int (J out)] : List Value).toArray s 0 0 (fun x => (mS ad) x ∨ sz ≤ x)) (F0 m 57 ls []) := by
          intro n
          induction n with
          | zero =>
            intro i H57 lo57 hL57 i0 hFm hMm hm ls hl
            exact absurd hm (by omega)
          | succ n ih57 =>
            intro i H57 lo57 hL57 i0 hFm hMm hm ls hl
            have hra := among_rng hV k s_ out
            have htd := tdv (x := among V k s_ out - 1) (by omega)
            refine lv_iload hx hb dX9_middle_57 (lv_at hl 0 rfl) ?_
            refine lv_aload_n hx hb dX9_middle_59 rfl (lv_at hl 1 rfl) ?_
            have ce_18 : At G H57 (ad 0) (eO 9 [.int (J (V 0 0)), .ref (ad 1), .ref (ad 2), .ref (ad 3), .ref (ad 4), .ref (ad 5), .ref (ad 6), .ref (ad 7), .ref (ad 8), .ref (ad 9), .int (J (V 0 1)), .ref (ad 10), .ref (ad 11), .ref (ad 12), .ref (ad 13), .ref (ad 14), .ref (ad 15), .ref (ad 16), .ref (ad 17), .int (J (lo (fun x h => if asked V k s_ out h ∧ rank V k s_ out h = (among V k s_ out - 1).tdiv 2 then h else x) (-1) i)), .int (J (among V k s_ out)), .ref (ad 18)]) := hMm.1
            refine j_get (ci := 9) (v := .int (J (V 0 0))) hx hb hts inX9_ hown hK ce_18 rfl 0 (by decide) lk2 (fun _ h9 => h9) rfl dX9_middle_60 ?_
            refine j_cge (tgt := 164) hx hb (by omega) (by omega) (by omega) (by omega) dX9_middle_63 (by decide) (fun c63 => ?_) (fun c63 => ?_)
            · exact r_vE hx hb hr hlk (Nat.le_of_ble_eq_true rfl) (Nat.le_of_ble_eq_true rfl) rfl hL57 (⟨hFm, by rw [show i = V 0 0 by omega] at hMm; exact hMm⟩) dX9_middle_164
            · refine j_const hx hb dX9_middle_66 ?_
              refine lv_istore (lv' := [(5, .int (J 0)), (4, .int (J i)), (0, .ref (ad 0)), (1, .int (J k)), (2, .int (J s_)), (3, .int (J out))]) hx hb dX9_middle_67 hl (by decide) rfl (fun ls hl => ?_)
              refine j_const hx hb dX9_middle_69 ?_
              refine lv_istore (lv' := [(6, .int (J 0)), (5, .int (J 0)), (4, .int (J i)), (0, .ref (ad 0)), (1, .int (J k)), (2, .int (J s_)), (3, .int (J out))]) hx hb dX9_middle_70 hl (by decide) rfl (fun ls hl => ?_)
              have lp72 : ∀ (n : Nat) (j : Int) (j0 : 0 ≤ j ∧ j ≤ V 0 0) (hm : V 0 0 - j < (n : Int)) (ls : Array Slot) (hl : lv_has ls 7 [(6, .int (J j)), (5, .int (J (lo (fun x o => x + pI (asked V k s_ out o ∧ less V o i)) 0 j))), (4, .int (J i)), (0, .ref (ad 0)), (1, .int (J k)), (2, .int (J s_)), (3, .int (J out))]), W p l e (headSpec wsX9_middle rmX9_middle).room s m ([.ref (ad 0), .int (J k), .int (J s_), .int (J out)] : List Value).toArray below meth c H57 lo57 0 0 (MQ below (QE (none : Option Value) (fun H H1 => Fr H H1 (mS ad) 0 ∧ MW G H1 ad V (mFo V k s_ out) (among V k s_ out) ys)) ([.ref (ad 0), .int (J k), .int (J s_), .int (J out)] : List Value).toArray s 0 0 (fun x => (mS ad) x ∨ sz ≤ x)) (F0 m 72 ls []) := by
                intro n
                induction n with
                | zero =>
                  intro j j0 hm ls hl
                  exact absurd hm (by omega)
                | succ n ih72 =>
                  intro j j0 hm ls hl
                  refine lv_iload hx hb dX9_middle_72 (lv_at hl 0 rfl) ?_
                  refine lv_aload_n hx hb dX9_middle_74 rfl (lv_at hl 3 rfl) ?_
                  refine j_get (ci := 9) (v := .int (J (V 0 0))) hx hb hts inX9_ hown hK ce_18 rfl 0 (by decide) lk2 (fun _ h9 => h9) rfl dX9_middle_75 ?_
                  refine j_cge (tgt := 120) hx hb (by omega) (by omega) (by omega) (by omega) dX9_middle_78 (by decide) (fun c78 => ?_) (fun c78 => ?_)
                  · have hrk : lo (fun x o => x + pI (asked V k s_ out o ∧ less V o i)) 0 j = rank V k s_ out i := by rw [show j = V 0 0 by omega]; rfl
                    rw [hrk] at hl
                    have hrr := rank_rng hV k s_ out i
                    refine lv_aload_n hx hb dX9_middle_120 rfl (lv_at hl 3 rfl) ?_
                    refine lv_aload_n hx hb dX9_middle_121 rfl (lv_at hl 3 rfl) ?_
                    refine lv_iload hx hb dX9_middle_122 (lv_at hl 2 rfl) ?_
                    refine lv_iload_n hx hb dX9_middle_124 rfl (lv_at hl 4 rfl) ?_
                    refine lv_iload_n hx hb dX9_middle_125 rfl (lv_at hl 5 rfl) ?_
                    refine lv_iload_n hx hb dX9_middle_126 rfl (lv_at hl 6 rfl) ?_
                    refine k_V (ci := 9) (b := ad 0) (As := [.int (J i), .int (J k), .int (J s_), .int (J out)]) (rest := [.ref (ad 0)]) (v := .int (J (pI (asked V k s_ out i)))) hx hb hml hown hts hK hl.1 (c_X9_isAsked l G ad V (lo (fun x h => if asked V k s_ out h ∧ rank V k s_ out h = (among V k s_ out - 1).tdiv 2 then h else x) (-1) i) (among V k s_ out) ys i k s_ out hV (by omega) (by omega) (by omega) (by omega) (by omega)) (cwV 4 hts gX9_middle_X9_isAsked rfl rfl rfl (by decide +kernel) ⟨Nat.le_of_ble_eq_true rfl, Nat.le_of_ble_eq_true rfl⟩) ce_18 rfl hMm rfl rfl (Nat.le_of_ble_eq_true rfl) dX9_middle_127 ⟨Nat.zero_le _, Nat.zero_le _⟩ ?_
                    refine j_eqP (tgt := 151) hx hb dX9_middle_130 (by decide) (fun c130 => ?_) (fun c130 => ?_)
                    · refine lv_aload_n hx hb dX9_middle_151 rfl (lv_at hl 3 rfl) ?_
                      refine j_get (ci := 9) (v := .int (J (lo (fun x h => if asked V k s_ out h ∧ rank V k s_ out h = (among V k s_ out - 1).tdiv 2 then h else x) (-1) i))) hx hb hts inX9_ hown hK ce_18 rfl 19 (by decide) lk0 (fun _ h9 => h9) rfl dX9_middle_152 ?_
                      refine j_put (ci := 9) (A := (fun x => (mS ad) x ∨ sz ≤ x)) (ty := .int) hx hb hts inX9_ tyX9 tyX9_ok nmX9 hown hK ce_18 rfl 19 (by decide) lk0 (fun _ h9 => h9) rfl (by decide +kernel) rfl rfl (Nat.le_of_ble_eq_true rfl) hL57 (Or.inl ⟨0, by decide, rfl⟩) dX9_middle_155 (fun H_19 lo_20 hc_21 hx_22 hL_23 => ?_)
                      have hc_21 : At G H_19 (ad 0) (eO 9 [.int (J (V 0 0)), .ref (ad 1), .ref (ad 2), .ref (ad 3), .ref (ad 4), .ref (ad 5), .ref (ad 6), .ref (ad 7), .ref (ad 8), .ref (ad 9), .int (J (V 0 1)), .ref (ad 10), .ref (ad 11), .ref (ad 12), .ref (ad 13), .ref (ad 14), .ref (ad 15), .ref (ad 16), .ref (ad 17), .int (J (lo (fun x h => if asked V k s_ out h ∧ rank V k s_ out h = (among V k s_ out - 1).tdiv 2 then h else x) (-1) i)), .int (J (among V k s_ out)), .ref (ad 18)]) := hc_21
                      have hM_24 : MW G H_19 ad V (lo (fun x h => if asked V k s_ out h ∧ rank V k s_ out h = (among V k s_ out - 1).tdiv 2 then h else x) (-1) i) (among V k s_ out) ys := MW.upd0 hD hMm hx_22 hc_21 (fun _ _ => rfl)
                      have hF_25 : Fr s.heap H_19 (mS ad) 0 := hFm.x hx_22 (fun _ => ⟨0, by decide, rfl⟩)
                      refine lv_iinc (v := J (i + 1)) (lv' := [(4, .int (J (i + 1))), (6, .int (J j)), (5, .int (J (rank V k s_ out i))), (0, .ref (ad 0)), (1, .int (J k)), (2, .int (J s_)), (3, .int (J out))]) hx hb dX9_middle_158 hl (k := 2) rfl (J_add _ _) (by decide) rfl (fun ls hl => ?_)
                      refine lv_goto (tgt := 57) hx hb dX9_middle_161 (by decide) ?_
                      exact ih57 (i + 1) H_19 lo_20 hL_23 (by omega) hF_25 (by rw [show (lo (fun x h => if asked V k s_ out h ∧ rank V k s_ out h = (among V k s_ out - 1).tdiv 2 then h else x) (-1) (i + 1) : Int) = lo (fun x h => if asked V k s_ out h ∧ rank V k s_ out h = (among V k s_ out - 1).tdiv 2 then h else x) (-1) i from (by rw [lo_s _ _ (by omega)]; (try simp only [ge_iff_le]) <;> (repeat' split) <;> first | rfl | omega | (exfalso; omega) | (exfalso; contradiction) | (exfalso; simp_all))]; exact hM_24) (by omega) _ (lv_sub hl [0, 3, 4, 5, 6] rfl)
                    · refine lv_iload hx hb dX9_middle_133 (lv_at hl 1 rfl) ?_
                      refine lv_aload_n hx hb dX9_middle_135 rfl (lv_at hl 3 rfl) ?_
                      refine j_get (ci := 9) (v := .int (J (among V k s_ out))) hx hb hts inX9_ hown hK ce_18 rfl 20 (by decide) lk1 (fun _ h9 => h9) rfl dX9_middle_136 ?_
                      refine j_const hx hb dX9_middle_139 ?_
                      refine j_sub hx hb dX9_middle_140 ?_
                      refine j_const hx hb dX9_middle_141 ?_
                      refine j_tdiv hx hb (by omega) (by omega) (by decide) (by decide) dX9_middle_142 ?_
                      refine j_cne (tgt := 151) hx hb (by omega) (by omega) (by omega) (by omega) dX9_middle_143 (by decide) (fun c143 => ?_) (fun c143 => ?_)
                      · refine lv_aload_n hx hb dX9_middle_151 rfl (lv_at hl 3 rfl) ?_
                        refine j_get (ci := 9) (v := .int (J (lo (fun x h => if asked V k s_ out h ∧ rank V k s_ out h = (among V k s_ out - 1).tdiv 2 then h else x) (-1) i))) hx hb hts inX9_ hown hK ce_18 rfl 19 (by decide) lk0 (fun _ h9 => h9) rfl dX9_middle_152 ?_
                        refine j_put (ci := 9) (A := (fun x => (mS ad) x ∨ sz ≤ x)) (ty := .int) hx hb hts inX9_ tyX9 tyX9_ok nmX9 hown hK ce_18 rfl 19 (by decide) lk0 (fun _ h9 => h9) rfl (by decide +kernel) rfl rfl (Nat.le_of_ble_eq_true rfl) hL57 (Or.inl ⟨0, by decide, rfl⟩) dX9_middle_155 (fun H_26 lo_27 hc_28 hx_29 hL_30 => ?_)
                        have hc_28 : At G H_26 (ad 0) (eO 9 [.int (J (V 0 0)), .ref (ad 1), .ref (ad 2), .ref (ad 3), .ref (ad 4), .ref (ad 5), .ref (ad 6), .ref (ad 7), .ref (ad 8), .ref (ad 9), .int (J (V 0 1)), .ref (ad 10), .ref (ad 11), .ref (ad 12), .ref (ad 13), .ref (ad 14), .ref (ad 15), .ref (ad 16), .ref (ad 17), .int (J (lo (fun x h => if asked V k s_ out h ∧ rank V k s_ out h = (among V k s_ out - 1).tdiv 2 then h else x) (-1) i)), .int (J (among V k s_ out)), .ref (ad 18)]) := hc_28
                        have hM_31 : MW G H_26 ad V (lo (fun x h => if asked V k s_ out h ∧ rank V k s_ out h = (among V k s_ out - 1).tdiv 2 then h else x) (-1) i) (among V k s_ out) ys := MW.upd0 hD hMm hx_29 hc_28 (fun _ _ => rfl)
                        have hF_32 : Fr s.heap H_26 (mS ad) 0 := hFm.x hx_29 (fun _ => ⟨0, by decide, rfl⟩)
                        refine lv_iinc (v := J (i + 1)) (lv' := [(4, .int (J (i + 1))), (6, .int (J j)), (5, .int (J (rank V k s_ out i))), (0, .ref (ad 0)), (1, .int (J k)), (2, .int (J s_)), (3, .int (J out))]) hx hb dX9_middle_158 hl (k := 2) rfl (J_add _ _) (by decide) rfl (fun ls hl => ?_)
                        refine lv_goto (tgt := 57) hx hb dX9_middle_161 (by decide) ?_
                        exact ih57 (i + 1) H_26 lo_27 hL_30 (by omega) hF_32 (by rw [show (lo (fun x h => if asked V k s_ out h ∧ rank V k s_ out h = (among V k s_ out - 1).tdiv 2 then h else x) (-1) (i + 1) : Int) = lo (fun x h => if asked V k s_ out h ∧ rank V k s_ out h = (among V k s_ out - 1).tdiv 2 then h else x) (-1) i from (by rw [lo_s _ _ (by omega)]; (try simp only [ge_iff_le]) <;> (repeat' split) <;> first | rfl | omega | (exfalso; omega) | (exfalso; contradiction) | (exfalso; simp_all))]; exact hM_31) (by omega) _ (lv_sub hl [0, 3, 4, 5, 6] rfl)
                      · refine lv_iload hx hb dX9_middle_146 (lv_at hl 2 rfl) ?_
                        refine lv_goto (tgt := 155) hx hb dX9_middle_148 (by decide) ?_
                        refine j_put (ci := 9) (A := (fun x => (mS ad) x ∨ sz ≤ x)) (ty := .int) hx hb hts inX9_ tyX9 tyX9_ok nmX9 hown hK ce_18 rfl 19 (by decide) lk0 (fun _ h9 => h9) rfl (by decide +kernel) rfl rfl (Nat.le_of_ble_eq_true rfl) hL57 (Or.inl ⟨0, by decide, rfl⟩) dX9_middle_155 (fun H_33 lo_34 hc_35 hx_36 hL_37 => ?_)
                        have hc_35 : At G H_33 (ad 0) (eO 9 [.int (J (V 0 0)), .ref (ad 1), .ref (ad 2), .ref (ad 3), .ref (ad 4), .ref (ad 5), .ref (ad 6), .ref (ad 7), .ref (ad 8), .ref (ad 9), .int (J (V 0 1)), .ref (ad 10), .ref (ad 11), .ref (ad 12), .ref (ad 13), .ref (ad 14), .ref (ad 15), .ref (ad 16), .ref (ad 17), .int (J i), .int (J (among V k s_ out)), .ref (ad 18)]) := hc_35
                        have hM_38 : MW G H_33 ad V i (among V k s_ out) ys := MW.upd0 hD hMm hx_36 hc_35 (fun _ _ => rfl)
                        have hF_39 : Fr s.heap H_33 (mS ad) 0 := hFm.x hx_36 (fun _ => ⟨0, by decide, rfl⟩)
                        refine lv_iinc (v := J (i + 1)) (lv' := [(4, .int (J (i + 1))), (6, .int (J j)), (5, .int (J (rank V k s_ out i))), (0, .ref (ad 0)), (1, .int (J k)), (2, .int (J s_)), (3, .int (J out))]) hx hb dX9_middle_158 hl (k := 2) rfl (J_add _ _) (by decide) rfl (fun ls hl => ?_)
                        refine lv_goto (tgt := 57) hx hb dX9_middle_161 (by decide) ?_
                        exact ih57 (i + 1) H_33 lo_34 hL_37 (by omega) hF_39 (by rw [show (lo (fun x h => if asked V k s_ out h ∧ rank V k s_ out h = (among V k s_ out - 1).tdiv 2 then h else x) (-1) (i + 1) : Int) = i from (by rw [lo_s _ _ (by omega)]; (try simp only [ge_iff_le]) <;> (repeat' split) <;> first | rfl | omega | (exfalso; omega) | (exfalso; contradiction) | (exfalso; simp_all))]; exact hM_38) (by omega) _ (lv_sub hl [0, 3, 4, 5, 6] rfl)
                  · refine lv_iload hx hb dX9_middle_81 (lv_at hl 1 rfl) ?_
                    refine lv_aload_n hx hb dX9_middle_83 rfl (lv_at hl 3 rfl) ?_
                    refine lv_iload hx hb dX9_middle_84 (lv_at hl 0 rfl) ?_
                    refine lv_iload_n hx hb dX9_middle_86 rfl (lv_at hl 4 rfl) ?_
                    refine lv_iload_n hx hb dX9_middle_87 rfl (lv_at hl 5 rfl) ?_
                    refine lv_iload_n hx hb dX9_middle_88 rfl (lv_at hl 6 rfl) ?_
                    refine k_V (ci := 9) (b := ad 0) (As := [.int (J j), .int (J k), .int (J s_), .int (J out)]) (rest := [.int (J (lo (fun x o => x + pI (asked V k s_ out o ∧ less V o i)) 0 j))]) (v := .int (J (pI (asked V k s_ out j)))) hx hb hml hown hts hK hl.1 (c_X9_isAsked l G ad V (lo (fun x h => if asked V k s_ out h ∧ rank V k s_ out h = (among V k s_ out - 1).tdiv 2 then h else x) (-1) i) (among V k s_ out) ys j k s_ out hV (by omega) (by omega) (by omega) (by omega) (by omega)) (cwV 4 hts gX9_middle_X9_isAsked rfl rfl rfl (by decide +kernel) ⟨Nat.le_of_ble_eq_true rfl, Nat.le_of_ble_eq_true rfl⟩) ce_18 rfl hMm rfl rfl (Nat.le_of_ble_eq_true rfl) dX9_middle_89 ⟨Nat.zero_le _, Nat.zero_le _⟩ ?_
                    refine j_eqP (tgt := 110) hx hb dX9_middle_92 (by decide) (fun c92 => ?_) (fun c92 => ?_)
                    · refine j_const hx hb dX9_middle_110 ?_
                      refine j_add hx hb dX9_middle_111 ?_
                      refine lv_istore (lv' := [(5, .int (J ((lo (fun x o => x + pI (asked V k s_ out o ∧ less V o i)) 0 j) + 0))), (6, .int (J j)), (4, .int (J i)), (0, .ref (ad 0)), (1, .int (J k)), (2, .int (J s_)), (3, .int (J out))]) hx hb dX9_middle_112 hl (by decide) rfl (fun ls hl => ?_)
                      refine lv_iinc (v := J (j + 1)) (lv' := [(6, .int (J (j + 1))), (5, .int (J ((lo (fun x o => x + pI (asked V k s_ out o ∧ less V o i)) 0 j) + 0))), (4, .int (J i)), (0, .ref (ad 0)), (1, .int (J k)), (2, .int (J s_)), (3, .int (J out))]) hx hb dX9_middle_114 hl (k := 1) rfl (J_add _ _) (by decide) rfl (fun ls hl => ?_)
                      refine lv_goto (tgt := 72) hx hb dX9_middle_117 (by decide) ?_
                      exact ih72 (j + 1) (by omega) (by omega) _ (lv_sub hl [0, 1, 2, 3, 4, 5, 6] (by rw [show (lo (fun x o => x + pI (asked V k s_ out o ∧ less V o i)) 0 (j + 1) : Int) = (lo (fun x o => x + pI (asked V k s_ out o ∧ less V o i)) 0 j) + 0 from (by rw [lo_s _ _ (by omega)]; (try simp only [pI]) <;> (repeat' split) <;> first | rfl | omega | (exfalso; omega) | (exfalso; contradiction) | (exfalso; simp_all))]; try rfl))
                    · refine lv_aload_n hx hb dX9_middle_95 rfl (lv_at hl 3 rfl) ?_
                      refine lv_iload hx hb dX9_middle_96 (lv_at hl 0 rfl) ?_
                      refine lv_iload hx hb dX9_middle_98 (lv_at hl 2 rfl) ?_
                      refine k_V (ci := 9) (b := ad 0) (As := [.int (J j), .int (J i)]) (rest := [.int (J (lo (fun x o => x + pI (asked V k s_ out o ∧ less V o i)) 0 j))]) (v := .int (J (pI (less V j i)))) hx hb hml hown hts hK hl.1 (c_X9_isLess l G ad V (lo (fun x h => if asked V k s_ out h ∧ rank V k s_ out h = (among V k s_ out - 1).tdiv 2 then h else x) (-1) i) (among V k s_ out) ys j i hV (by omega) (by omega)) (cwV 2 hts gX9_middle_X9_isLess rfl rfl rfl (by decide +kernel) ⟨Nat.le_of_ble_eq_true rfl, Nat.le_of_ble_eq_true rfl⟩) ce_18 rfl hMm rfl rfl (Nat.le_of_ble_eq_true rfl) dX9_middle_100 ⟨Nat.zero_le _, Nat.zero_le _⟩ ?_
                      refine j_eqP (tgt := 110) hx hb dX9_middle_103 (by decide) (fun c103 => ?_) (fun c103 => ?_)
                      · refine j_const hx hb dX9_middle_110 ?_
                        refine j_add hx hb dX9_middle_111 ?_
                        refine lv_istore (lv' := [(5, .int (J ((lo (fun x o => x + pI (asked V k s_ out o ∧ less V o i)) 0 j) + 0))), (6, .int (J j)), (4, .int (J i)), (0, .ref (ad 0)), (1, .int (J k)), (2, .int (J s_)), (3, .int (J out))]) hx hb dX9_middle_112 hl (by decide) rfl (fun ls hl => ?_)
                        refine lv_iinc (v := J (j + 1)) (lv' := [(6, .int (J (j + 1))), (5, .int (J ((lo (fun x o => x + pI (asked V k s_ out o ∧ less V o i)) 0 j) + 0))), (4, .int (J i)), (0, .ref (ad 0)), (1, .int (J k)), (2, .int (J s_)), (3, .int (J out))]) hx hb dX9_middle_114 hl (k := 1) rfl (J_add _ _) (by decide) rfl (fun ls hl => ?_)
                        refine lv_goto (tgt := 72) hx hb dX9_middle_117 (by decide) ?_
                        exact ih72 (j + 1) (by omega) (by omega) _ (lv_sub hl [0, 1, 2, 3, 4, 5, 6] (by rw [show (lo (fun x o => x + pI (asked V k s_ out o ∧ less V o i)) 0 (j + 1) : Int) = (lo (fun x o => x + pI (asked V k s_ out o ∧ less V o i)) 0 j) + 0 from (by rw [lo_s _ _ (by omega)]; (try simp only [pI]) <;> (repeat' split) <;> first | rfl | omega | (exfalso; omega) | (exfalso; contradiction) | (exfalso; simp_all))]; try rfl))
                      · refine j_const hx hb dX9_middle_106 ?_
                        refine lv_goto (tgt := 111) hx hb dX9_middle_107 (by decide) ?_
                        refine j_add hx hb dX9_middle_111 ?_
                        refine lv_istore (lv' := [(5, .int (J ((lo (fun x o => x + pI (asked V k s_ out o ∧ less V o i)) 0 j) + 1))), (6, .int (J j)), (4, .int (J i)), (0, .ref (ad 0)), (1, .int (J k)), (2, .int (J s_)), (3, .int (J out))]) hx hb dX9_middle_112 hl (by decide) rfl (fun ls hl => ?_)
                        refine lv_iinc (v := J (j + 1)) (lv' := [(6, .int (J (j + 1))), (5, .int (J ((lo (fun x o => x + pI (asked V k s_ out o ∧ less V o i)) 0 j) + 1))), (4, .int (J i)), (0, .ref (ad 0)), (1, .int (J k)), (2, .int (J s_)), (3, .int (J out))]) hx hb dX9_middle_114 hl (k := 1) rfl (J_add _ _) (by decide) rfl (fun ls hl => ?_)
                        refine lv_goto (tgt := 72) hx hb dX9_middle_117 (by decide) ?_
                        exact ih72 (j + 1) (by omega) (by omega) _ (lv_sub hl [0, 1, 2, 3, 4, 5, 6] (by rw [show (lo (fun x o => x + pI (asked V k s_ out o ∧ less V o i)) 0 (j + 1) : Int) = (lo (fun x o => x + pI (asked V k s_ out o ∧ less V o i)) 0 j) + 1 from (by rw [lo_s _ _ (by omega)]; (try simp only [pI]) <;> (repeat' split) <;> first | rfl | omega | (exfalso; omega) | (exfalso; contradiction) | (exfalso; simp_all))]; try rfl))
              exact lp72 41 0 (by omega) (by omega) _ (lv_sub hl [0, 1, 2, 3, 4, 5, 6] (by rw [show (lo (fun x o => x + pI (asked V k s_ out o ∧ less V o i)) 0 0 : Int) = 0 from (by rfl)]; try rfl))
        exact lp57 41 0 H13 lo13 hL13 (by omega) hFl hMa (by omega) _ (lv_sub hl [0, 1, 2, 3, 4] rfl)
      · refine lv_aload_n hx hb dX9_middle_22 rfl (lv_at hl 1 rfl) ?_
        refine lv_dup hx hb dX9_middle_23 rfl ?_
        refine j_get (ci := 9) (v := .int (J (lo (fun x h => x + pI (asked V k s_ out h)) 0 i))) hx hb hts inX9_ hown hK ce_17 rfl 20 (by decide) lk1 (fun _ h9 => h9) rfl dX9_middle_24 ?_
        refine lv_aload_n hx hb dX9_middle_27 rfl (lv_at hl 1 rfl) ?_
        refine lv_iload hx hb dX9_middle_28 (lv_at hl 0 rfl) ?_
        refine lv_iload_n hx hb dX9_middle_30 rfl (lv_at hl 2 rfl) ?_
        refine lv_iload_n hx hb dX9_middle_31 rfl (lv_at hl 3 rfl) ?_
        refine lv_iload_n hx hb dX9_middle_32 rfl (lv_at hl 4 rfl) ?_
        refine k_V (ci := 9) (b := ad 0) (As := [.int (J i), .int (J k), .int (J s_), .int (J out)]) (rest := [.int (J (lo (fun x h => x + pI (asked V k s_ out h)) 0 i)), .ref (ad 0)]) (v := .int (J (pI (asked V k s_ out i)))) hx hb hml hown hts hK hl.1 (c_X9_isAsked l G ad V (-1) (lo (fun x h => x + pI (asked V k s_ out h)) 0 i) ys i k s_ out hV (by omega) (by omega) (by omega) (by omega) (by omega)) (cwV 4 hts gX9_middle_X9_isAsked rfl rfl rfl (by decide +kernel) ⟨Nat.le_of_ble_eq_true rfl, Nat.le_of_ble_eq_true rfl⟩) ce_17 rfl hMl rfl rfl (Nat.le_of_ble_eq_true rfl) dX9_middle_33 ⟨Nat.zero_le _, Nat.zero_le _⟩ ?_
        refine j_eqP (tgt := 43) hx hb dX9_middle_36 (by decide) (fun c36 => ?_) (fun c36 => ?_)
        · refine j_const hx hb dX9_middle_43 ?_
          refine j_add hx hb dX9_middle_44 ?_
          refine j_put (ci := 9) (A := (fun x => (mS ad) x ∨ sz ≤ x)) (ty := .int) hx hb hts inX9_ tyX9 tyX9_ok nmX9 hown hK ce_17 rfl 20 (by decide) lk1 (fun _ h9 => h9) rfl (by decide +kernel) rfl rfl (Nat.le_of_ble_eq_true rfl) hL13 (Or.inl ⟨0, by decide, rfl⟩) dX9_middle_45 (fun H_40 lo_41 hc_42 hx_43 hL_44 => ?_)
          have hc_42 : At G H_40 (ad 0) (eO 9 [.int (J (V 0 0)), .ref (ad 1), .ref (ad 2), .ref (ad 3), .ref (ad 4), .ref (ad 5), .ref (ad 6), .ref (ad 7), .ref (ad 8), .ref (ad 9), .int (J (V 0 1)), .ref (ad 10), .ref (ad 11), .ref (ad 12), .ref (ad 13), .ref (ad 14), .ref (ad 15), .ref (ad 16), .ref (ad 17), .int (J (-1)), .int (J ((lo (fun x h => x + pI (asked V k s_ out h)) 0 i) + 0)), .ref (ad 18)]) := hc_42
          have hM_45 : MW G H_40 ad V (-1) ((lo (fun x h => x + pI (asked V k s_ out h)) 0 i) + 0) ys := MW.upd0 hD hMl hx_43 hc_42 (fun _ _ => rfl)
          have hF_46 : Fr s.heap H_40 (mS ad) 0 := hFl.x hx_43 (fun _ => ⟨0, by decide, rfl⟩)
          refine lv_iinc (v := J (i + 1)) (lv' := [(4, .int (J (i + 1))), (0, .ref (ad 0)), (1, .int (J k)), (2, .int (J s_)), (3, .int (J out))]) hx hb dX9_middle_48 hl (k := 0) rfl (J_add _ _) (by decide) rfl (fun ls hl => ?_)
          refine lv_goto (tgt := 13) hx hb dX9_middle_51 (by decide) ?_
          exact ih13 (i + 1) H_40 lo_41 hL_44 (by omega) hF_46 (by rw [show (lo (fun x h => x + pI (asked V k s_ out h)) 0 (i + 1) : Int) = (lo (fun x h => x + pI (asked V k s_ out h)) 0 i) + 0 from (by rw [lo_s _ _ (by omega)]; (try simp only [pI]) <;> (repeat' split) <;> first | rfl | omega | (exfalso; omega) | (exfalso; contradiction) | (exfalso; simp_all))]; exact hM_45) (by omega) _ (lv_sub hl [0, 1, 2, 3, 4] rfl)
        · refine j_const hx hb dX9_middle_39 ?_
          refine lv_goto (tgt := 44) hx hb dX9_middle_40 (by decide) ?_
          refine j_add hx hb dX9_middle_44 ?_
          refine j_put (ci := 9) (A := (fun x => (mS ad) x ∨ sz ≤ x)) (ty := .int) hx hb hts inX9_ tyX9 tyX9_ok nmX9 hown hK ce_17 rfl 20 (by decide) lk1 (fun _ h9 => h9) rfl (by decide +kernel) rfl rfl (Nat.le_of_ble_eq_true rfl) hL13 (Or.inl ⟨0, by decide, rfl⟩) dX9_middle_45 (fun H_47 lo_48 hc_49 hx_50 hL_51 => ?_)
          have hc_49 : At G H_47 (ad 0) (eO 9 [.int (J (V 0 0)), .ref (ad 1), .ref (ad 2), .ref (ad 3), .ref (ad 4), .ref (ad 5), .ref (ad 6), .ref (ad 7), .ref (ad 8), .ref (ad 9), .int (J (V 0 1)), .ref (ad 10), .ref (ad 11), .ref (ad 12), .ref (ad 13), .ref (ad 14), .ref (ad 15), .ref (ad 16), .ref (ad 17), .int (J (-1)), .int (J ((lo (fun x h => x + pI (asked V k s_ out h)) 0 i) + 1)), .ref (ad 18)]) := hc_49
          have hM_52 : MW G H_47 ad V (-1) ((lo (fun x h => x + pI (asked V k s_ out h)) 0 i) + 1) ys := MW.upd0 hD hMl hx_50 hc_49 (fun _ _ => rfl)
          have hF_53 : Fr s.heap H_47 (mS ad) 0 := hFl.x hx_50 (fun _ => ⟨0, by decide, rfl⟩)
          refine lv_iinc (v := J (i + 1)) (lv' := [(4, .int (J (i + 1))), (0, .ref (ad 0)), (1, .int (J k)), (2, .int (J s_)), (3, .int (J out))]) hx hb dX9_middle_48 hl (k := 0) rfl (J_add _ _) (by decide) rfl (fun ls hl => ?_)
          refine lv_goto (tgt := 13) hx hb dX9_middle_51 (by decide) ?_
          exact ih13 (i + 1) H_47 lo_48 hL_51 (by omega) hF_53 (by rw [show (lo (fun x h => x + pI (asked V k s_ out h)) 0 (i + 1) : Int) = (lo (fun x h => x + pI (asked V k s_ out h)) 0 i) + 1 from (by rw [lo_s _ _ (by omega)]; (try simp only [pI]) <;> (repeat' split) <;> first | rfl | omega | (exfalso; omega) | (exfalso; contradiction) | (exfalso; simp_all))]; exact hM_52) (by omega) _ (lv_sub hl [0, 1, 2, 3, 4] rfl)
  exact lp13 41 0 H_10 lo_11 hL_14 (by omega) hF_16 hM_15 (by omega) _ (lv_sub hl [0, 1, 2, 3, 4] rfl)

abbrev rmX9_finds : Room := { frames := 2, cells := 0, slots := 0, locals := 50 }
set_option maxHeartbeats 4000000 in
set_option maxRecDepth 100000 in
theorem c_X9_finds (l : Launch) (G : GG) (ad : Nat → Nat) (V : St) (fo am : Int) (ys : Int → Int) (k s_ out : Int) (sz : Nat) (hV : Iv V) (hD : Dj ad) (h_s : -1 ≤ s_) (g_k : -2147483648 ≤ k ∧ k < 2147483648) (g_s_ : -2147483648 ≤ s_ ∧ s_ < 2147483648) (g_out : -2147483648 ≤ out ∧ out < 2147483648) : ME l G yX9_finds wsX9_finds rmX9_finds [.ref (ad 0), .int (J k), .int (J s_), .int (J out)] (fun H => H.size = sz ∧ (MW G H ad V fo am ys)) (none : Option Value) (fun x => (mS ad) x ∨ sz ≤ x) (fun H H1 => Fr H H1 (mS ad) 0 ∧ MW G H1 ad V (fFo V k s_ out) (fAm V k s_ out) ys) 0 0 := by
  refine ME.of (cc := cX9_finds) (maxL := 4) (ret := none) (by decide) rfl (Nat.le_of_ble_eq_true rfl) ?_
  intro p e s m below meth c hx hb hr hml hown hts hlk hin hK hP ls hl
  have hL0 : ∀ z9 ∈ ([] : List Loc), (fun x => (mS ad) x ∨ sz ≤ x) z9.base := fun z9 h => absurd h List.not_mem_nil
  have hown : s.vm.findClass RX9 = some m.cls := hown
  have hl : lv_has ls 4 [(0, .ref (ad 0)), (1, .int (J k)), (2, .int (J s_)), (3, .int (J out))] := hl
  have inX9_ : ∀ w ∈ u_ws RX9 TX9 22, w ∈ wsX9_finds := by decide +kernel
  have lk0 := hts (.fieldLink RX9 79 "RateBookModel" "found" "I") (by decide +kernel)
  obtain ⟨hsz, hP⟩ := hP
  have hF0 : Fr s.heap s.heap (mS ad) 0 := Fr.rf
  have hM : MW G s.heap ad V fo am ys := hP
  have hn := hV.n
  have hnl := hV.l
  refine lv_aload_n hx hb dX9_finds_0 rfl (lv_at hl 0 rfl) ?_
  refine lv_iload_n hx hb dX9_finds_1 rfl (lv_at hl 1 rfl) ?_
  refine lv_iload_n hx hb dX9_finds_2 rfl (lv_at hl 2 rfl) ?_
  refine lv_iload_n hx hb dX9_finds_3 rfl (lv_at hl 3 rfl) ?_
  have ce_5 : At G s.heap (ad 0) (eO 9 [.int (J (V 0 0)), .ref (ad 1), .ref (ad 2), .ref (ad 3), .ref (ad 4), .ref (ad 5), .ref (ad 6), .ref (ad 7), .ref (ad 8), .ref (ad 9), .int (J (V 0 1)), .ref (ad 10), .ref (ad 11), .ref (ad 12), .ref (ad 13), .ref (ad 14), .ref (ad 15), .ref (ad 16), .ref (ad 17), .int (J fo), .int (J am), .ref (ad 18)]) := hM.1
  refine e_V (A := (fun x => (mS ad) x ∨ sz ≤ x)) (ci := 9) (b := ad 0) (As := [.int (J k), .int (J s_), .int (J out)]) (rest := []) hx hb hml hown hts hK hl.1 (c_X9_middle l G ad V fo am ys k s_ out sz hV (by omega) (by omega) (by omega) (by omega) (by omega)) (cwV 3 hts gX9_finds_X9_middle rfl rfl rfl (by decide +kernel) ⟨Nat.le_of_ble_eq_true rfl, Nat.le_of_ble_eq_true rfl⟩) ce_5 rfl (⟨by have z1 := hF0.1; omega, hM⟩) rfl rfl (Nat.le_of_ble_eq_true rfl) dX9_finds_4 ⟨Nat.le_of_ble_eq_true rfl, Nat.le_of_ble_eq_true rfl⟩ hL0 (fun x hx => hx) (fun H_1 lo_2 hp_3 hL_4 => ?_)
  show W p l e (headSpec wsX9_finds rmX9_finds).room s m ([.ref (ad 0), .int (J k), .int (J s_), .int (J out)] : List Value).toArray below meth c H_1 lo_2 (0 + 0) (0 + 0) (MQ below (QE (none : Option Value) (fun H H1 => Fr H H1 (mS ad) 0 ∧ MW G H1 ad V (fFo V k s_ out) (fAm V k s_ out) ys)) ([.ref (ad 0), .int (J k), .int (J s_), .int (J out)] : List Value).toArray s 0 0 (fun x => (mS ad) x ∨ sz ≤ x)) (F0 m 7 ls [])
  have hf_7 : Fr s.heap H_1 (mS ad) 0 := hp_3.1
  have hF_6 : Fr s.heap H_1 (mS ad) 0 := hF0.f hf_7 (fun x hx z => z)
  have hM_8 : MW G H_1 ad V (mFo V k s_ out) (among V k s_ out) ys := hp_3.2
  refine lv_aload_n hx hb dX9_finds_7 rfl (lv_at hl 0 rfl) ?_
  have hfr : mFo V k s_ out = -1 ∨ (0 ≤ mFo V k s_ out ∧ mFo V k s_ out < V 0 0) := mFo_rng hV k s_ out hn.1
  have ce_9 : At G H_1 (ad 0) (eO 9 [.int (J (V 0 0)), .ref (ad 1), .ref (ad 2), .ref (ad 3), .ref (ad 4), .ref (ad 5), .ref (ad 6), .ref (ad 7), .ref (ad 8), .ref (ad 9), .int (J (V 0 1)), .ref (ad 10), .ref (ad 11), .ref (ad 12), .ref (ad 13), .ref (ad 14), .ref (ad 15), .ref (ad 16), .ref (ad 17), .int (J (mFo V k s_ out)), .int (J (among V k s_ out)), .ref (ad 18)]) := hM_8.1
  refine j_get (ci := 9) (v := .int (J (mFo V k s_ out))) hx hb hts inX9_ hown hK ce_9 rfl 19 (by decide) lk0 (fun _ h9 => h9) rfl dX9_finds_8 ?_
  refine j_ge0 (tgt := 21) hx hb (by omega) (by omega) dX9_finds_11 (by decide) (fun c11 => ?_) (fun c11 => ?_)
  · exact r_vE hx hb hr hlk (Nat.le_of_ble_eq_true rfl) (Nat.le_of_ble_eq_true rfl) rfl hL_4 (⟨hF_6, by unfold fFo fAm; rw [if_neg (by omega), if_neg (by omega)]; exact hM_8⟩) dX9_finds_21
  · refine lv_aload_n hx hb dX9_finds_14 rfl (lv_at hl 0 rfl) ?_
    refine lv_iload_n hx hb dX9_finds_15 rfl (lv_at hl 1 rfl) ?_
    refine j_const hx hb dX9_finds_16 ?_
    refine lv_iload_n hx hb dX9_finds_17 rfl (lv_at hl 3 rfl) ?_
    refine e_V (A := (fun x => (mS ad) x ∨ sz ≤ x)) (ci := 9) (b := ad 0) (As := [.int (J k), .int (J (-1)), .int (J out)]) (rest := []) hx hb hml hown hts hK hl.1 (c_X9_middle l G ad V (mFo V k s_ out) (among V k s_ out) ys k (-1) out sz hV (by omega) (by omega) (by omega) (by omega) (by omega)) (cwV 3 hts gX9_finds_X9_middle rfl rfl rfl (by decide +kernel) ⟨Nat.le_of_ble_eq_true rfl, Nat.le_of_ble_eq_true rfl⟩) ce_9 rfl (⟨by have z1 := hF_6.1; omega, hM_8⟩) rfl rfl (Nat.le_of_ble_eq_true rfl) dX9_finds_18 ⟨Nat.le_of_ble_eq_true rfl, Nat.le_of_ble_eq_true rfl⟩ hL_4 (fun x hx => hx) (fun H_10 lo_11 hp_12 hL_13 => ?_)
    show W p l e (headSpec wsX9_finds rmX9_finds).room s m ([.ref (ad 0), .int (J k), .int (J s_), .int (J out)] : List Value).toArray below meth c H_10 lo_11 (0 + 0) (0 + 0) (MQ below (QE (none : Option Value) (fun H H1 => Fr H H1 (mS ad) 0 ∧ MW G H1 ad V (fFo V k s_ out) (fAm V k s_ out) ys)) ([.ref (ad 0), .int (J k), .int (J s_), .int (J out)] : List Value).toArray s 0 0 (fun x => (mS ad) x ∨ sz ≤ x)) (F0 m 21 ls [])
    have hf_15 : Fr H_1 H_10 (mS ad) 0 := hp_12.1
    have hF_14 : Fr s.heap H_10 (mS ad) 0 := hF_6.f hf_15 (fun x hx z => z)
    have hM_16 : MW G H_10 ad V (mFo V k (-1) out) (among V k (-1) out) ys := hp_12.2
    exact r_vE hx hb hr hlk (Nat.le_of_ble_eq_true rfl) (Nat.le_of_ble_eq_true rfl) rfl hL_13 (⟨hF_14, by unfold fFo fAm; rw [if_pos (by omega), if_pos (by omega)]; exact hM_16⟩) dX9_finds_21

abbrev rmX9_unit : Room := { frames := 3, cells := 0, slots := 0, locals := 73 }
set_option maxHeartbeats 4000000 in
set_option maxRecDepth 100000 in
theorem c_X9_unit (l : Launch) (G : GG) (ad : Nat → Nat) (V : St) (fo am : Int) (ys : Int → Int) (k s_ q : Int) (sz : Nat) (hV : Iv V) (hD : Dj ad) (g_k : -2147483648 ≤ k ∧ k < 2147483648) (g_s_ : -2147483648 ≤ s_ ∧ s_ < 2147483648) (g_q : -2147483648 ≤ q ∧ q < 2147483648) : ME l G yX9_unit wsX9_unit rmX9_unit [.ref (ad 0), .int (J k), .int (J s_), .int (J q)] (fun H => H.size = sz ∧ (MW G H ad V fo am ys)) (some (.int (J (if (0 ≤ k ∧ k ≤ 2) ∧ (0 ≤ s_ ∧ s_ ≤ 5) ∧ 0 ≤ q ∧ q ≤ 3 then (if q = 0 then mUa V k s_ (-1) else if q = 1 then mUb V k s_ (-1) else if q = 2 then fAm V k s_ (-1) else if fFo V k s_ (-1) < 0 then -4 else fFo V k s_ (-1)) else -1))) : Option Value) (fun x => (mS ad) x ∨ sz ≤ x) (fun H H1 => Fr H H1 (mS ad) 0 ∧ MX G H1 ad V) 0 0 := by
  refine ME.of (cc := cX9_unit) (maxL := 4) (ret := (some .int)) (by decide) rfl (Nat.le_of_ble_eq_true rfl) ?_
  intro p e s m below meth c hx hb hr hml hown hts hlk hin hK hP ls hl
  have hL0 : ∀ z9 ∈ ([] : List Loc), (fun x => (mS ad) x ∨ sz ≤ x) z9.base := fun z9 h => absurd h List.not_mem_nil
  have hown : s.vm.findClass RX9 = some m.cls := hown
  have hl : lv_has ls 4 [(0, .ref (ad 0)), (1, .int (J k)), (2, .int (J s_)), (3, .int (J q))] := hl
  have inX9_ : ∀ w ∈ u_ws RX9 TX9 22, w ∈ wsX9_unit := by decide +kernel
  have lk0 := hts (.fieldLink RX9 79 "RateBookModel" "found" "I") (by decide +kernel)
  have lk1 := hts (.fieldLink RX9 22 "RateBookModel" "rent" "[I") (by decide +kernel)
  have lk2 := hts (.fieldLink RX9 19 "RateBookModel" "size" "[I") (by decide +kernel)
  have lk3 := hts (.fieldLink RX9 82 "RateBookModel" "among" "I") (by decide +kernel)
  obtain ⟨hsz, hP⟩ := hP
  have hF0 : Fr s.heap s.heap (mS ad) 0 := Fr.rf
  have hM : MW G s.heap ad V fo am ys := hP
  have hn := hV.n
  have hnl := hV.l
  refine lv_iload_n hx hb dX9_unit_0 rfl (lv_at hl 1 rfl) ?_
  refine j_const hx hb dX9_unit_1 ?_
  refine j_const hx hb dX9_unit_2 ?_
  refine k_S (As := [.int (J k), .int (J 0), .int (J 2)]) (rest := []) (v := .int (J (pI (0 ≤ k ∧ k ≤ 2)))) hx hb hml hown hts hK hl.1 (c_X9_in l G k 0 2 (by omega) (by omega) (by omega)) (va_cwS 3 hts gX9_unit_X9_in rfl rfl rfl (by decide +kernel) ⟨Nat.le_of_ble_eq_true rfl, Nat.le_of_ble_eq_true rfl⟩) trivial rfl rfl (Nat.le_of_ble_eq_true rfl) dX9_unit_3 ⟨Nat.zero_le _, Nat.zero_le _⟩ ?_
  refine j_eqP (tgt := 27) hx hb dX9_unit_6 (by decide) (fun c6 => ?_) (fun c6 => ?_)
  · refine j_const hx hb dX9_unit_27 ?_
    exact r_iE hx hb hr hlk (Nat.le_of_ble_eq_true rfl) (Nat.le_of_ble_eq_true rfl) (congrArg (fun z => some (Value.int (J z))) (show ((-1) : Int) = if (0 ≤ k ∧ k ≤ 2) ∧ (0 ≤ s_ ∧ s_ ≤ 5) ∧ 0 ≤ q ∧ q ≤ 3 then (if q = 0 then mUa V k s_ (-1) else if q = 1 then mUb V k s_ (-1) else if q = 2 then fAm V k s_ (-1) else if fFo V k s_ (-1) < 0 then -4 else fFo V k s_ (-1)) else -1 from by rw [if_neg (by omega)])) hL0 (⟨hF0, ⟨_, _, _, hM⟩⟩) dX9_unit_28
  · refine lv_iload_n hx hb dX9_unit_9 rfl (lv_at hl 2 rfl) ?_
    refine j_const hx hb dX9_unit_10 ?_
    refine j_const hx hb dX9_unit_11 ?_
    refine k_S (As := [.int (J s_), .int (J 0), .int (J 5)]) (rest := []) (v := .int (J (pI (0 ≤ s_ ∧ s_ ≤ 5)))) hx hb hml hown hts hK hl.1 (c_X9_in l G s_ 0 5 (by omega) (by omega) (by omega)) (va_cwS 3 hts gX9_unit_X9_in rfl rfl rfl (by decide +kernel) ⟨Nat.le_of_ble_eq_true rfl, Nat.le_of_ble_eq_true rfl⟩) trivial rfl rfl (Nat.le_of_ble_eq_true rfl) dX9_unit_12 ⟨Nat.zero_le _, Nat.zero_le _⟩ ?_
    refine j_eqP (tgt := 27) hx hb dX9_unit_15 (by decide) (fun c15 => ?_) (fun c15 => ?_)
    · refine j_const hx hb dX9_unit_27 ?_
      exact r_iE hx hb hr hlk (Nat.le_of_ble_eq_true rfl) (Nat.le_of_ble_eq_true rfl) (congrArg (fun z => some (Value.int (J z))) (show ((-1) : Int) = if (0 ≤ k ∧ k ≤ 2) ∧ (0 ≤ s_ ∧ s_ ≤ 5) ∧ 0 ≤ q ∧ q ≤ 3 then (if q = 0 then mUa V k s_ (-1) else if q = 1 then mUb V k s_ (-1) else if q = 2 then fAm V k s_ (-1) else if fFo V k s_ (-1) < 0 then -4 else fFo V k s_ (-1)) else -1 from by rw [if_neg (by omega)])) hL0 (⟨hF0, ⟨_, _, _, hM⟩⟩) dX9_unit_28
    · refine lv_iload_n hx hb dX9_unit_18 rfl (lv_at hl 3 rfl) ?_
      refine j_const hx hb dX9_unit_19 ?_
      refine j_const hx hb dX9_unit_20 ?_
      refine k_S (As := [.int (J q), .int (J 0), .int (J 3)]) (rest := []) (v := .int (J (pI (0 ≤ q ∧ q ≤ 3)))) hx hb hml hown hts hK hl.1 (c_X9_in l G q 0 3 (by omega) (by omega) (by omega)) (va_cwS 3 hts gX9_unit_X9_in rfl rfl rfl (by decide +kernel) ⟨Nat.le_of_ble_eq_true rfl, Nat.le_of_ble_eq_true rfl⟩) trivial rfl rfl (Nat.le_of_ble_eq_true rfl) dX9_unit_21 ⟨Nat.zero_le _, Nat.zero_le _⟩ ?_
      refine j_neP (tgt := 29) hx hb dX9_unit_24 (by decide) (fun c24 => ?_) (fun c24 => ?_)
      · refine lv_aload_n hx hb dX9_unit_29 rfl (lv_at hl 0 rfl) ?_
        refine lv_iload_n hx hb dX9_unit_30 rfl (lv_at hl 1 rfl) ?_
        refine lv_iload_n hx hb dX9_unit_31 rfl (lv_at hl 2 rfl) ?_
        refine j_const hx hb dX9_unit_32 ?_
        have ce_5 : At G s.heap (ad 0) (eO 9 [.int (J (V 0 0)), .ref (ad 1), .ref (ad 2), .ref (ad 3), .ref (ad 4), .ref (ad 5), .ref (ad 6), .ref (ad 7), .ref (ad 8), .ref (ad 9), .int (J (V 0 1)), .ref (ad 10), .ref (ad 11), .ref (ad 12), .ref (ad 13), .ref (ad 14), .ref (ad 15), .ref (ad 16), .ref (ad 17), .int (J fo), .int (J am), .ref (ad 18)]) := hM.1
        refine e_V (A := (fun x => (mS ad) x ∨ sz ≤ x)) (ci := 9) (b := ad 0) (As := [.int (J k), .int (J s_), .int (J (-1))]) (rest := []) hx hb hml hown hts hK hl.1 (c_X9_finds l G ad V fo am ys k s_ (-1) sz hV (by omega) (by omega) (by omega) (by omega) (by omega)) (cwV 3 hts gX9_unit_X9_finds rfl rfl rfl (by decide +kernel) ⟨Nat.le_of_ble_eq_true rfl, Nat.le_of_ble_eq_true rfl⟩) ce_5 rfl (⟨by have z1 := hF0.1; omega, hM⟩) rfl rfl (Nat.le_of_ble_eq_true rfl) dX9_unit_33 ⟨Nat.le_of_ble_eq_true rfl, Nat.le_of_ble_eq_true rfl⟩ hL0 (fun x hx => hx) (fun H_1 lo_2 hp_3 hL_4 => ?_)
        show W p l e (headSpec wsX9_unit rmX9_unit).room s m ([.ref (ad 0), .int (J k), .int (J s_), .int (J q)] : List Value).toArray below meth c H_1 lo_2 (0 + 0) (0 + 0) (MQ below (QE (some (.int (J (if (0 ≤ k ∧ k ≤ 2) ∧ (0 ≤ s_ ∧ s_ ≤ 5) ∧ 0 ≤ q ∧ q ≤ 3 then (if q = 0 then mUa V k s_ (-1) else if q = 1 then mUb V k s_ (-1) else if q = 2 then fAm V k s_ (-1) else if fFo V k s_ (-1) < 0 then -4 else fFo V k s_ (-1)) else -1))) : Option Value) (fun H H1 => Fr H H1 (mS ad) 0 ∧ MX G H1 ad V)) ([.ref (ad 0), .int (J k), .int (J s_), .int (J q)] : List Value).toArray s 0 0 (fun x => (mS ad) x ∨ sz ≤ x)) (F0 m 36 ls [])
        have hf_7 : Fr s.heap H_1 (mS ad) 0 := hp_3.1
        have hF_6 : Fr s.heap H_1 (mS ad) 0 := hF0.f hf_7 (fun x hx z => z)
        have hM_8 : MW G H_1 ad V (fFo V k s_ (-1)) (fAm V k s_ (-1)) ys := hp_3.2
        have hfr := fFo_rng hV k s_ (-1)
        refine lv_iload_n hx hb dX9_unit_36 rfl (lv_at hl 3 rfl) ?_
        rcases (show q = 0 ∨ q = 1 ∨ q = 2 ∨ (q < 0 ∨ 2 < q) by omega) with c37 | c37 | c37 | c37
        · refine j_tabIn (tgt := 64) hx hb 0 c37 (by decide) (by decide) dX9_unit_37 (by decide) (by decide) rfl (by decide) ?_
          refine lv_aload_n hx hb dX9_unit_64 rfl (lv_at hl 0 rfl) ?_
          have ce_9 : At G H_1 (ad 0) (eO 9 [.int (J (V 0 0)), .ref (ad 1), .ref (ad 2), .ref (ad 3), .ref (ad 4), .ref (ad 5), .ref (ad 6), .ref (ad 7), .ref (ad 8), .ref (ad 9), .int (J (V 0 1)), .ref (ad 10), .ref (ad 11), .ref (ad 12), .ref (ad 13), .ref (ad 14), .ref (ad 15), .ref (ad 16), .ref (ad 17), .int (J (fFo V k s_ (-1))), .int (J (fAm V k s_ (-1))), .ref (ad 18)]) := hM_8.1
          refine j_get (ci := 9) (v := .int (J (fFo V k s_ (-1)))) hx hb hts inX9_ hown hK ce_9 rfl 19 (by decide) lk0 (fun _ h9 => h9) rfl dX9_unit_65 ?_
          refine j_ge0 (tgt := 76) hx hb (by omega) (by omega) dX9_unit_68 (by decide) (fun c68 => ?_) (fun c68 => ?_)
          · refine lv_aload_n hx hb dX9_unit_76 rfl (lv_at hl 0 rfl) ?_
            refine j_get (ci := 9) (v := .ref (ad 5)) hx hb hts inX9_ hown hK ce_9 rfl 5 (by decide) lk1 (fun _ h9 => h9) rfl dX9_unit_77 ?_
            refine lv_aload_n hx hb dX9_unit_80 rfl (lv_at hl 0 rfl) ?_
            refine j_get (ci := 9) (v := .int (J (fFo V k s_ (-1)))) hx hb hts inX9_ hown hK ce_9 rfl 19 (by decide) lk0 (fun _ h9 => h9) rfl dX9_unit_81 ?_
            have ce_10 : At G H_1 (ad 5) (eI G 40 (V 5)) := (hM_8.2.1 5 (by decide) (by decide))
            refine j_iald hx hb hK ce_10 (by omega) (by omega) (by decide) dX9_unit_84 ?_
            have hr_11 := hV.h (i := fFo V k s_ (-1)) (by omega) (by omega)
            exact r_iE hx hb hr hlk (Nat.le_of_ble_eq_true rfl) (Nat.le_of_ble_eq_true rfl) (congrArg (fun z => some (Value.int (J z))) (show ((V 5) (fFo V k s_ (-1)) : Int) = if (0 ≤ k ∧ k ≤ 2) ∧ (0 ≤ s_ ∧ s_ ≤ 5) ∧ 0 ≤ q ∧ q ≤ 3 then (if q = 0 then mUa V k s_ (-1) else if q = 1 then mUb V k s_ (-1) else if q = 2 then fAm V k s_ (-1) else if fFo V k s_ (-1) < 0 then -4 else fFo V k s_ (-1)) else -1 from by rw [if_pos (by omega)]; rw [if_pos (by omega)]; unfold mUa; rw [if_neg (by omega)])) hL_4 (⟨hF_6, ⟨_, _, _, hM_8⟩⟩) dX9_unit_85
          · refine j_bi hx hb dX9_unit_71 (by decide +kernel) ?_
            refine lv_goto (tgt := 85) hx hb dX9_unit_73 (by decide) ?_
            exact r_iE hx hb hr hlk (Nat.le_of_ble_eq_true rfl) (Nat.le_of_ble_eq_true rfl) (congrArg (fun z => some (Value.int (J z))) (show (10 : Int) = if (0 ≤ k ∧ k ≤ 2) ∧ (0 ≤ s_ ∧ s_ ≤ 5) ∧ 0 ≤ q ∧ q ≤ 3 then (if q = 0 then mUa V k s_ (-1) else if q = 1 then mUb V k s_ (-1) else if q = 2 then fAm V k s_ (-1) else if fFo V k s_ (-1) < 0 then -4 else fFo V k s_ (-1)) else -1 from by rw [if_pos (by omega)]; rw [if_pos (by omega)]; unfold mUa; rw [if_pos (by omega)])) hL_4 (⟨hF_6, ⟨_, _, _, hM_8⟩⟩) dX9_unit_85
        · refine j_tabIn (tgt := 86) hx hb 1 c37 (by decide) (by decide) dX9_unit_37 (by decide) (by decide) rfl (by decide) ?_
          refine lv_aload_n hx hb dX9_unit_86 rfl (lv_at hl 0 rfl) ?_
          have ce_12 : At G H_1 (ad 0) (eO 9 [.int (J (V 0 0)), .ref (ad 1), .ref (ad 2), .ref (ad 3), .ref (ad 4), .ref (ad 5), .ref (ad 6), .ref (ad 7), .ref (ad 8), .ref (ad 9), .int (J (V 0 1)), .ref (ad 10), .ref (ad 11), .ref (ad 12), .ref (ad 13), .ref (ad 14), .ref (ad 15), .ref (ad 16), .ref (ad 17), .int (J (fFo V k s_ (-1))), .int (J (fAm V k s_ (-1))), .ref (ad 18)]) := hM_8.1
          refine j_get (ci := 9) (v := .int (J (fFo V k s_ (-1)))) hx hb hts inX9_ hown hK ce_12 rfl 19 (by decide) lk0 (fun _ h9 => h9) rfl dX9_unit_87 ?_
          refine j_ge0 (tgt := 97) hx hb (by omega) (by omega) dX9_unit_90 (by decide) (fun c90 => ?_) (fun c90 => ?_)
          · refine lv_aload_n hx hb dX9_unit_97 rfl (lv_at hl 0 rfl) ?_
            refine j_get (ci := 9) (v := .ref (ad 4)) hx hb hts inX9_ hown hK ce_12 rfl 4 (by decide) lk2 (fun _ h9 => h9) rfl dX9_unit_98 ?_
            refine lv_aload_n hx hb dX9_unit_101 rfl (lv_at hl 0 rfl) ?_
            refine j_get (ci := 9) (v := .int (J (fFo V k s_ (-1)))) hx hb hts inX9_ hown hK ce_12 rfl 19 (by decide) lk0 (fun _ h9 => h9) rfl dX9_unit_102 ?_
            have ce_13 : At G H_1 (ad 4) (eI G 40 (V 4)) := (hM_8.2.1 4 (by decide) (by decide))
            refine j_iald hx hb hK ce_13 (by omega) (by omega) (by decide) dX9_unit_105 ?_
            have hr_14 := hV.h (i := fFo V k s_ (-1)) (by omega) (by omega)
            exact r_iE hx hb hr hlk (Nat.le_of_ble_eq_true rfl) (Nat.le_of_ble_eq_true rfl) (congrArg (fun z => some (Value.int (J z))) (show ((V 4) (fFo V k s_ (-1)) : Int) = if (0 ≤ k ∧ k ≤ 2) ∧ (0 ≤ s_ ∧ s_ ≤ 5) ∧ 0 ≤ q ∧ q ≤ 3 then (if q = 0 then mUa V k s_ (-1) else if q = 1 then mUb V k s_ (-1) else if q = 2 then fAm V k s_ (-1) else if fFo V k s_ (-1) < 0 then -4 else fFo V k s_ (-1)) else -1 from by rw [if_pos (by omega)]; rw [if_neg (by omega)]; rw [if_pos (by omega)]; unfold mUb; rw [if_neg (by omega)])) hL_4 (⟨hF_6, ⟨_, _, _, hM_8⟩⟩) dX9_unit_106
          · refine j_const hx hb dX9_unit_93 ?_
            refine lv_goto (tgt := 106) hx hb dX9_unit_94 (by decide) ?_
            exact r_iE hx hb hr hlk (Nat.le_of_ble_eq_true rfl) (Nat.le_of_ble_eq_true rfl) (congrArg (fun z => some (Value.int (J z))) (show (1 : Int) = if (0 ≤ k ∧ k ≤ 2) ∧ (0 ≤ s_ ∧ s_ ≤ 5) ∧ 0 ≤ q ∧ q ≤ 3 then (if q = 0 then mUa V k s_ (-1) else if q = 1 then mUb V k s_ (-1) else if q = 2 then fAm V k s_ (-1) else if fFo V k s_ (-1) < 0 then -4 else fFo V k s_ (-1)) else -1 from by rw [if_pos (by omega)]; rw [if_neg (by omega)]; rw [if_pos (by omega)]; unfold mUb; rw [if_pos (by omega)])) hL_4 (⟨hF_6, ⟨_, _, _, hM_8⟩⟩) dX9_unit_106
        · refine j_tabIn (tgt := 107) hx hb 2 c37 (by decide) (by decide) dX9_unit_37 (by decide) (by decide) rfl (by decide) ?_
          refine lv_aload_n hx hb dX9_unit_107 rfl (lv_at hl 0 rfl) ?_
          have ce_15 : At G H_1 (ad 0) (eO 9 [.int (J (V 0 0)), .ref (ad 1), .ref (ad 2), .ref (ad 3), .ref (ad 4), .ref (ad 5), .ref (ad 6), .ref (ad 7), .ref (ad 8), .ref (ad 9), .int (J (V 0 1)), .ref (ad 10), .ref (ad 11), .ref (ad 12), .ref (ad 13), .ref (ad 14), .ref (ad 15), .ref (ad 16), .ref (ad 17), .int (J (fFo V k s_ (-1))), .int (J (fAm V k s_ (-1))), .ref (ad 18)]) := hM_8.1
          refine j_get (ci := 9) (v := .int (J (fAm V k s_ (-1)))) hx hb hts inX9_ hown hK ce_15 rfl 20 (by decide) lk3 (fun _ h9 => h9) rfl dX9_unit_108 ?_
          exact r_iE hx hb hr hlk (Nat.le_of_ble_eq_true rfl) (Nat.le_of_ble_eq_true rfl) (congrArg (fun z => some (Value.int (J z))) (show (fAm V k s_ (-1) : Int) = if (0 ≤ k ∧ k ≤ 2) ∧ (0 ≤ s_ ∧ s_ ≤ 5) ∧ 0 ≤ q ∧ q ≤ 3 then (if q = 0 then mUa V k s_ (-1) else if q = 1 then mUb V k s_ (-1) else if q = 2 then fAm V k s_ (-1) else if fFo V k s_ (-1) < 0 then -4 else fFo V k s_ (-1)) else -1 from by rw [if_pos (by omega)]; rw [if_neg (by omega)]; rw [if_neg (by omega)]; rw [if_pos (by omega)])) hL_4 (⟨hF_6, ⟨_, _, _, hM_8⟩⟩) dX9_unit_111
        · refine j_tabOut (tgt := 112) hx hb (by omega) (by omega) dX9_unit_37 c37 (by decide) ?_
          refine lv_aload_n hx hb dX9_unit_112 rfl (lv_at hl 0 rfl) ?_
          have ce_16 : At G H_1 (ad 0) (eO 9 [.int (J (V 0 0)), .ref (ad 1), .ref (ad 2), .ref (ad 3), .ref (ad 4), .ref (ad 5), .ref (ad 6), .ref (ad 7), .ref (ad 8), .ref (ad 9), .int (J (V 0 1)), .ref (ad 10), .ref (ad 11), .ref (ad 12), .ref (ad 13), .ref (ad 14), .ref (ad 15), .ref (ad 16), .ref (ad 17), .int (J (fFo V k s_ (-1))), .int (J (fAm V k s_ (-1))), .ref (ad 18)]) := hM_8.1
          refine j_get (ci := 9) (v := .int (J (fFo V k s_ (-1)))) hx hb hts inX9_ hown hK ce_16 rfl 19 (by decide) lk0 (fun _ h9 => h9) rfl dX9_unit_113 ?_
          refine j_ge0 (tgt := 124) hx hb (by omega) (by omega) dX9_unit_116 (by decide) (fun c116 => ?_) (fun c116 => ?_)
          · refine lv_aload_n hx hb dX9_unit_124 rfl (lv_at hl 0 rfl) ?_
            refine j_get (ci := 9) (v := .int (J (fFo V k s_ (-1)))) hx hb hts inX9_ hown hK ce_16 rfl 19 (by decide) lk0 (fun _ h9 => h9) rfl dX9_unit_125 ?_
            exact r_iE hx hb hr hlk (Nat.le_of_ble_eq_true rfl) (Nat.le_of_ble_eq_true rfl) (congrArg (fun z => some (Value.int (J z))) (show (fFo V k s_ (-1) : Int) = if (0 ≤ k ∧ k ≤ 2) ∧ (0 ≤ s_ ∧ s_ ≤ 5) ∧ 0 ≤ q ∧ q ≤ 3 then (if q = 0 then mUa V k s_ (-1) else if q = 1 then mUb V k s_ (-1) else if q = 2 then fAm V k s_ (-1) else if fFo V k s_ (-1) < 0 then -4 else fFo V k s_ (-1)) else -1 from by rw [if_pos (by omega)]; rw [if_neg (by omega)]; rw [if_neg (by omega)]; rw [if_neg (by omega)]; rw [if_neg (by omega)])) hL_4 (⟨hF_6, ⟨_, _, _, hM_8⟩⟩) dX9_unit_128
          · refine j_bi hx hb dX9_unit_119 (by decide +kernel) ?_
            refine lv_goto (tgt := 128) hx hb dX9_unit_121 (by decide) ?_
            exact r_iE hx hb hr hlk (Nat.le_of_ble_eq_true rfl) (Nat.le_of_ble_eq_true rfl) (congrArg (fun z => some (Value.int (J z))) (show ((-4) : Int) = if (0 ≤ k ∧ k ≤ 2) ∧ (0 ≤ s_ ∧ s_ ≤ 5) ∧ 0 ≤ q ∧ q ≤ 3 then (if q = 0 then mUa V k s_ (-1) else if q = 1 then mUb V k s_ (-1) else if q = 2 then fAm V k s_ (-1) else if fFo V k s_ (-1) < 0 then -4 else fFo V k s_ (-1)) else -1 from by rw [if_pos (by omega)]; rw [if_neg (by omega)]; rw [if_neg (by omega)]; rw [if_neg (by omega)]; rw [if_pos (by omega)])) hL_4 (⟨hF_6, ⟨_, _, _, hM_8⟩⟩) dX9_unit_128
      · refine j_const hx hb dX9_unit_27 ?_
        exact r_iE hx hb hr hlk (Nat.le_of_ble_eq_true rfl) (Nat.le_of_ble_eq_true rfl) (congrArg (fun z => some (Value.int (J z))) (show ((-1) : Int) = if (0 ≤ k ∧ k ≤ 2) ∧ (0 ≤ s_ ∧ s_ ≤ 5) ∧ 0 ≤ q ∧ q ≤ 3 then (if q = 0 then mUa V k s_ (-1) else if q = 1 then mUb V k s_ (-1) else if q = 2 then fAm V k s_ (-1) else if fFo V k s_ (-1) < 0 then -4 else fFo V k s_ (-1)) else -1 from by rw [if_neg (by omega)])) hL0 (⟨hF0, ⟨_, _, _, hM⟩⟩) dX9_unit_28

abbrev rmX9_tested : Room := { frames := 3, cells := 0, slots := 0, locals := 73 }
set_option maxHeartbeats 4000000 in
set_option maxRecDepth 100000 in
theorem c_X9_tested (l : Launch) (G : GG) (ad : Nat → Nat) (V : St) (fo am : Int) (ys : Int → Int) (h : Int) (sz : Nat) (hV : Iv V) (hD : Dj ad) (g_h : -2147483648 ≤ h ∧ h < 2147483648) : ME l G yX9_tested wsX9_tested rmX9_tested [.ref (ad 0), .int (J h)] (fun H => H.size = sz ∧ (MW G H ad V fo am ys)) (some (.int (J (if 0 ≤ h ∧ h < V 0 0 then (if fFo V (V 2 h) (V 3 h) h < 0 then 10 * V 4 h else V 4 h * V 5 (fFo V (V 2 h) (V 3 h) h) / V 4 (fFo V (V 2 h) (V 3 h) h)) else -1))) : Option Value) (fun x => (mS ad) x ∨ sz ≤ x) (fun H H1 => Fr H H1 (mS ad) 0 ∧ MX G H1 ad V) 0 0 := by
  refine ME.of (cc := cX9_tested) (maxL := 2) (ret := (some .int)) (by decide) rfl (Nat.le_of_ble_eq_true rfl) ?_
  intro p e s m below meth c hx hb hr hml hown hts hlk hin hK hP ls hl
  have hL0 : ∀ z9 ∈ ([] : List Loc), (fun x => (mS ad) x ∨ sz ≤ x) z9.base := fun z9 h => absurd h List.not_mem_nil
  have hown : s.vm.findClass RX9 = some m.cls := hown
  have hl : lv_has ls 2 [(0, .ref (ad 0)), (1, .int (J h))] := hl
  have inX9_ : ∀ w ∈ u_ws RX9 TX9 22, w ∈ wsX9_tested := by decide +kernel
  have lk0 := hts (.fieldLink RX9 13 "RateBookModel" "kind" "[I") (by decide +kernel)
  have lk1 := hts (.fieldLink RX9 16 "RateBookModel" "street" "[I") (by decide +kernel)
  have lk2 := hts (.fieldLink RX9 79 "RateBookModel" "found" "I") (by decide +kernel)
  have lk3 := hts (.fieldLink RX9 19 "RateBookModel" "size" "[I") (by decide +kernel)
  have lk4 := hts (.fieldLink RX9 22 "RateBookModel" "rent" "[I") (by decide +kernel)
  obtain ⟨hsz, hP⟩ := hP
  have hF0 : Fr s.heap s.heap (mS ad) 0 := Fr.rf
  have hM : MW G s.heap ad V fo am ys := hP
  have hn := hV.n
  have hnl := hV.l
  refine lv_aload_n hx hb dX9_tested_0 rfl (lv_at hl 0 rfl) ?_
  refine lv_iload_n hx hb dX9_tested_1 rfl (lv_at hl 1 rfl) ?_
  have ce_1 : At G s.heap (ad 0) (eO 9 [.int (J (V 0 0)), .ref (ad 1), .ref (ad 2), .ref (ad 3), .ref (ad 4), .ref (ad 5), .ref (ad 6), .ref (ad 7), .ref (ad 8), .ref (ad 9), .int (J (V 0 1)), .ref (ad 10), .ref (ad 11), .ref (ad 12), .ref (ad 13), .ref (ad 14), .ref (ad 15), .ref (ad 16), .ref (ad 17), .int (J fo), .int (J am), .ref (ad 18)]) := hM.1
  refine k_V (ci := 9) (b := ad 0) (As := [.int (J h)]) (rest := []) (v := .int (J (pI (0 ≤ h ∧ h ≤ V 0 0 - 1)))) hx hb hml hown hts hK hl.1 (c_X9_isHouse l G ad V fo am ys h hV (by omega)) (cwV 1 hts gX9_tested_X9_isHouse rfl rfl rfl (by decide +kernel) ⟨Nat.le_of_ble_eq_true rfl, Nat.le_of_ble_eq_true rfl⟩) ce_1 rfl hM rfl rfl (Nat.le_of_ble_eq_true rfl) dX9_tested_2 ⟨Nat.zero_le _, Nat.zero_le _⟩ ?_
  refine j_neP (tgt := 10) hx hb dX9_tested_5 (by decide) (fun c5 => ?_) (fun c5 => ?_)
  · refine lv_aload_n hx hb dX9_tested_10 rfl (lv_at hl 0 rfl) ?_
    refine lv_aload_n hx hb dX9_tested_11 rfl (lv_at hl 0 rfl) ?_
    refine j_get (ci := 9) (v := .ref (ad 2)) hx hb hts inX9_ hown hK ce_1 rfl 2 (by decide) lk0 (fun _ h9 => h9) rfl dX9_tested_12 ?_
    refine lv_iload_n hx hb dX9_tested_15 rfl (lv_at hl 1 rfl) ?_
    have ce_2 : At G s.heap (ad 2) (eI G 40 (V 2)) := (hM.2.1 2 (by decide) (by decide))
    refine j_iald hx hb hK ce_2 (by omega) (by omega) (by decide) dX9_tested_16 ?_
    have hr_3 := hV.h (i := h) (by omega) (by omega)
    refine lv_aload_n hx hb dX9_tested_17 rfl (lv_at hl 0 rfl) ?_
    refine j_get (ci := 9) (v := .ref (ad 3)) hx hb hts inX9_ hown hK ce_1 rfl 3 (by decide) lk1 (fun _ h9 => h9) rfl dX9_tested_18 ?_
    refine lv_iload_n hx hb dX9_tested_21 rfl (lv_at hl 1 rfl) ?_
    have ce_4 : At G s.heap (ad 3) (eI G 40 (V 3)) := (hM.2.1 3 (by decide) (by decide))
    refine j_iald hx hb hK ce_4 (by omega) (by omega) (by decide) dX9_tested_22 ?_
    refine lv_iload_n hx hb dX9_tested_23 rfl (lv_at hl 1 rfl) ?_
    refine e_V (A := (fun x => (mS ad) x ∨ sz ≤ x)) (ci := 9) (b := ad 0) (As := [.int (J ((V 2) h)), .int (J ((V 3) h)), .int (J h)]) (rest := []) hx hb hml hown hts hK hl.1 (c_X9_finds l G ad V fo am ys ((V 2) h) ((V 3) h) h sz hV (by omega) (by omega) (by omega) (by omega) (by omega)) (cwV 3 hts gX9_tested_X9_finds rfl rfl rfl (by decide +kernel) ⟨Nat.le_of_ble_eq_true rfl, Nat.le_of_ble_eq_true rfl⟩) ce_1 rfl (⟨by have z1 := hF0.1; omega, hM⟩) rfl rfl (Nat.le_of_ble_eq_true rfl) dX9_tested_24 ⟨Nat.le_of_ble_eq_true rfl, Nat.le_of_ble_eq_true rfl⟩ hL0 (fun x hx => hx) (fun H_5 lo_6 hp_7 hL_8 => ?_)
    show W p l e (headSpec wsX9_tested rmX9_tested).room s m ([.ref (ad 0), .int (J h)] : List Value).toArray below meth c H_5 lo_6 (0 + 0) (0 + 0) (MQ below (QE (some (.int (J (if 0 ≤ h ∧ h < V 0 0 then (if fFo V (V 2 h) (V 3 h) h < 0 then 10 * V 4 h else V 4 h * V 5 (fFo V (V 2 h) (V 3 h) h) / V 4 (fFo V (V 2 h) (V 3 h) h)) else -1))) : Option Value) (fun H H1 => Fr H H1 (mS ad) 0 ∧ MX G H1 ad V)) ([.ref (ad 0), .int (J h)] : List Value).toArray s 0 0 (fun x => (mS ad) x ∨ sz ≤ x)) (F0 m 27 ls [])
    have hf_10 : Fr s.heap H_5 (mS ad) 0 := hp_7.1
    have hF_9 : Fr s.heap H_5 (mS ad) 0 := hF0.f hf_10 (fun x hx z => z)
    have hM_11 : MW G H_5 ad V (fFo V (V 2 h) (V 3 h) h) (fAm V (V 2 h) (V 3 h) h) ys := hp_7.2
    have hfr := fFo_rng hV (V 2 h) (V 3 h) h
    refine lv_aload_n hx hb dX9_tested_27 rfl (lv_at hl 0 rfl) ?_
    have ce_12 : At G H_5 (ad 0) (eO 9 [.int (J (V 0 0)), .ref (ad 1), .ref (ad 2), .ref (ad 3), .ref (ad 4), .ref (ad 5), .ref (ad 6), .ref (ad 7), .ref (ad 8), .ref (ad 9), .int (J (V 0 1)), .ref (ad 10), .ref (ad 11), .ref (ad 12), .ref (ad 13), .ref (ad 14), .ref (ad 15), .ref (ad 16), .ref (ad 17), .int (J (fFo V (V 2 h) (V 3 h) h)), .int (J (fAm V (V 2 h) (V 3 h) h)), .ref (ad 18)]) := hM_11.1
    refine j_get (ci := 9) (v := .int (J (fFo V (V 2 h) (V 3 h) h))) hx hb hts inX9_ hown hK ce_12 rfl 19 (by decide) lk2 (fun _ h9 => h9) rfl dX9_tested_28 ?_
    refine j_ge0 (tgt := 46) hx hb (by omega) (by omega) dX9_tested_31 (by decide) (fun c31 => ?_) (fun c31 => ?_)
    · refine lv_aload_n hx hb dX9_tested_46 rfl (lv_at hl 0 rfl) ?_
      refine j_get (ci := 9) (v := .ref (ad 4)) hx hb hts inX9_ hown hK ce_12 rfl 4 (by decide) lk3 (fun _ h9 => h9) rfl dX9_tested_47 ?_
      refine lv_iload_n hx hb dX9_tested_50 rfl (lv_at hl 1 rfl) ?_
      have ce_13 : At G H_5 (ad 4) (eI G 40 (V 4)) := (hM_11.2.1 4 (by decide) (by decide))
      refine j_iald hx hb hK ce_13 (by omega) (by omega) (by decide) dX9_tested_51 ?_
      refine lv_aload_n hx hb dX9_tested_52 rfl (lv_at hl 0 rfl) ?_
      refine j_get (ci := 9) (v := .ref (ad 5)) hx hb hts inX9_ hown hK ce_12 rfl 5 (by decide) lk4 (fun _ h9 => h9) rfl dX9_tested_53 ?_
      refine lv_aload_n hx hb dX9_tested_56 rfl (lv_at hl 0 rfl) ?_
      refine j_get (ci := 9) (v := .int (J (fFo V (V 2 h) (V 3 h) h))) hx hb hts inX9_ hown hK ce_12 rfl 19 (by decide) lk2 (fun _ h9 => h9) rfl dX9_tested_57 ?_
      have ce_14 : At G H_5 (ad 5) (eI G 40 (V 5)) := (hM_11.2.1 5 (by decide) (by decide))
      refine j_iald hx hb hK ce_14 (by omega) (by omega) (by decide) dX9_tested_60 ?_
      have hr_15 := hV.h (i := fFo V (V 2 h) (V 3 h) h) (by omega) (by omega)
      refine j_mul hx hb dX9_tested_61 ?_
      refine lv_aload_n hx hb dX9_tested_62 rfl (lv_at hl 0 rfl) ?_
      refine j_get (ci := 9) (v := .ref (ad 4)) hx hb hts inX9_ hown hK ce_12 rfl 4 (by decide) lk3 (fun _ h9 => h9) rfl dX9_tested_63 ?_
      refine lv_aload_n hx hb dX9_tested_66 rfl (lv_at hl 0 rfl) ?_
      refine j_get (ci := 9) (v := .int (J (fFo V (V 2 h) (V 3 h) h))) hx hb hts inX9_ hown hK ce_12 rfl 19 (by decide) lk2 (fun _ h9 => h9) rfl dX9_tested_67 ?_
      refine j_iald hx hb hK ce_13 (by omega) (by omega) (by decide) dX9_tested_70 ?_
      have hmm := mulb (a := V 4 h) (b := V 5 (fFo V (V 2 h) (V 3 h) h)) (A := 500) (B := 100000) (by omega) (by omega) (by omega) (by omega)
      refine j_div hx hb (by omega) (by omega) (by omega) (by omega) dX9_tested_71 ?_
      exact r_iE hx hb hr hlk (Nat.le_of_ble_eq_true rfl) (Nat.le_of_ble_eq_true rfl) (congrArg (fun z => some (Value.int (J z))) (show ((((V 4) h) * ((V 5) (fFo V (V 2 h) (V 3 h) h))) / ((V 4) (fFo V (V 2 h) (V 3 h) h)) : Int) = if 0 ≤ h ∧ h < V 0 0 then (if fFo V (V 2 h) (V 3 h) h < 0 then 10 * V 4 h else V 4 h * V 5 (fFo V (V 2 h) (V 3 h) h) / V 4 (fFo V (V 2 h) (V 3 h) h)) else -1 from by rw [if_pos (by omega), if_neg (by omega)])) hL_8 (⟨hF_9, ⟨_, _, _, hM_11⟩⟩) dX9_tested_72
    · refine j_bi hx hb dX9_tested_34 (by decide +kernel) ?_
      refine lv_aload_n hx hb dX9_tested_36 rfl (lv_at hl 0 rfl) ?_
      refine j_get (ci := 9) (v := .ref (ad 4)) hx hb hts inX9_ hown hK ce_12 rfl 4 (by decide) lk3 (fun _ h9 => h9) rfl dX9_tested_37 ?_
      refine lv_iload_n hx hb dX9_tested_40 rfl (lv_at hl 1 rfl) ?_
      have ce_16 : At G H_5 (ad 4) (eI G 40 (V 4)) := (hM_11.2.1 4 (by decide) (by decide))
      refine j_iald hx hb hK ce_16 (by omega) (by omega) (by decide) dX9_tested_41 ?_
      refine j_mul hx hb dX9_tested_42 ?_
      refine lv_goto (tgt := 72) hx hb dX9_tested_43 (by decide) ?_
      exact r_iE hx hb hr hlk (Nat.le_of_ble_eq_true rfl) (Nat.le_of_ble_eq_true rfl) (congrArg (fun z => some (Value.int (J z))) (show (10 * ((V 4) h) : Int) = if 0 ≤ h ∧ h < V 0 0 then (if fFo V (V 2 h) (V 3 h) h < 0 then 10 * V 4 h else V 4 h * V 5 (fFo V (V 2 h) (V 3 h) h) / V 4 (fFo V (V 2 h) (V 3 h) h)) else -1 from by rw [if_pos (by omega), if_pos (by omega)])) hL_8 (⟨hF_9, ⟨_, _, _, hM_11⟩⟩) dX9_tested_72
  · refine j_const hx hb dX9_tested_8 ?_
    exact r_iE hx hb hr hlk (Nat.le_of_ble_eq_true rfl) (Nat.le_of_ble_eq_true rfl) (congrArg (fun z => some (Value.int (J z))) (show ((-1) : Int) = if 0 ≤ h ∧ h < V 0 0 then (if fFo V (V 2 h) (V 3 h) h < 0 then 10 * V 4 h else V 4 h * V 5 (fFo V (V 2 h) (V 3 h) h) / V 4 (fFo V (V 2 h) (V 3 h) h)) else -1 from by rw [if_neg (by omega)])) hL0 (⟨hF0, ⟨_, _, _, hM⟩⟩) dX9_tested_9

abbrev rmX9_event : Room := { frames := 2, cells := 0, slots := 0, locals := 43 }
set_option maxHeartbeats 4000000 in
set_option maxRecDepth 100000 in
theorem c_X9_event (l : Launch) (G : GG) (ad : Nat → Nat) (V : St) (fo am : Int) (ys : Int → Int) (h d k v : Int) (sz : Nat) (hV : Iv V) (hD : Dj ad) (g_h : -2147483648 ≤ h ∧ h < 2147483648) (g_d : -2147483648 ≤ d ∧ d < 2147483648) (g_k : -2147483648 ≤ k ∧ k < 2147483648) (g_v : -2147483648 ≤ v ∧ v < 2147483648) : ME l G yX9_event wsX9_event rmX9_event [.ref (ad 0), .int (J h), .int (J d), .int (J k), .int (J v)] (fun H => H.size = sz ∧ (MW G H ad V fo am ys)) (some (.int (J (if (0 ≤ h ∧ h < V 0 0) ∧ (0 ≤ d ∧ d < 3650) ∧ ((k = 0 ∧ 1 ≤ v ∧ v ≤ 500) ∨ (k = 1 ∧ 0 ≤ v ∧ v ≤ 3) ∨ (k = 2 ∧ 1 ≤ v ∧ v ≤ 900)) then (if V 6 h = 12 then -3 else V 6 h + 1) else -1))) : Option Value) (fun x => (mS ad) x ∨ sz ≤ x) (fun H H1 => Fr H H1 (mS ad) 0 ∧ MX G H1 ad (if ((0 ≤ h ∧ h < V 0 0) ∧ (0 ≤ d ∧ d < 3650) ∧ ((k = 0 ∧ 1 ≤ v ∧ v ≤ 500) ∨ (k = 1 ∧ 0 ≤ v ∧ v ≤ 3) ∨ (k = 2 ∧ 1 ≤ v ∧ v ≤ 900))) ∧ V 6 h ≠ 12 then sAd V h d k v else V)) 0 0 := by
  refine ME.of (cc := cX9_event) (maxL := 5) (ret := (some .int)) (by decide) rfl (Nat.le_of_ble_eq_true rfl) ?_
  intro p e s m below meth c hx hb hr hml hown hts hlk hin hK hP ls hl
  have hL0 : ∀ z9 ∈ ([] : List Loc), (fun x => (mS ad) x ∨ sz ≤ x) z9.base := fun z9 h => absurd h List.not_mem_nil
  have hown : s.vm.findClass RX9 = some m.cls := hown
  have hl : lv_has ls 5 [(0, .ref (ad 0)), (1, .int (J h)), (2, .int (J d)), (3, .int (J k)), (4, .int (J v))] := hl
  have inX9_ : ∀ w ∈ u_ws RX9 TX9 22, w ∈ wsX9_event := by decide +kernel
  have lk0 := hts (.fieldLink RX9 25 "RateBookModel" "events" "[I") (by decide +kernel)
  obtain ⟨hsz, hP⟩ := hP
  have hF0 : Fr s.heap s.heap (mS ad) 0 := Fr.rf
  have hM : MW G s.heap ad V fo am ys := hP
  have hn := hV.n
  have hnl := hV.l
  refine lv_aload_n hx hb dX9_event_0 rfl (lv_at hl 0 rfl) ?_
  refine lv_iload_n hx hb dX9_event_1 rfl (lv_at hl 1 rfl) ?_
  have ce_1 : At G s.heap (ad 0) (eO 9 [.int (J (V 0 0)), .ref (ad 1), .ref (ad 2), .ref (ad 3), .ref (ad 4), .ref (ad 5), .ref (ad 6), .ref (ad 7), .ref (ad 8), .ref (ad 9), .int (J (V 0 1)), .ref (ad 10), .ref (ad 11), .ref (ad 12), .ref (ad 13), .ref (ad 14), .ref (ad 15), .ref (ad 16), .ref (ad 17), .int (J fo), .int (J am), .ref (ad 18)]) := hM.1
  refine k_V (ci := 9) (b := ad 0) (As := [.int (J h)]) (rest := []) (v := .int (J (pI (0 ≤ h ∧ h ≤ V 0 0 - 1)))) hx hb hml hown hts hK hl.1 (c_X9_isHouse l G ad V fo am ys h hV (by omega)) (cwV 1 hts gX9_event_X9_isHouse rfl rfl rfl (by decide +kernel) ⟨Nat.le_of_ble_eq_true rfl, Nat.le_of_ble_eq_true rfl⟩) ce_1 rfl hM rfl rfl (Nat.le_of_ble_eq_true rfl) dX9_event_2 ⟨Nat.zero_le _, Nat.zero_le _⟩ ?_
  refine j_eqP (tgt := 24) hx hb dX9_event_5 (by decide) (fun c5 => ?_) (fun c5 => ?_)
  · refine j_const hx hb dX9_event_24 ?_
    exact r_iE hx hb hr hlk (Nat.le_of_ble_eq_true rfl) (Nat.le_of_ble_eq_true rfl) (congrArg (fun z => some (Value.int (J z))) (show ((-1) : Int) = if (0 ≤ h ∧ h < V 0 0) ∧ (0 ≤ d ∧ d < 3650) ∧ ((k = 0 ∧ 1 ≤ v ∧ v ≤ 500) ∨ (k = 1 ∧ 0 ≤ v ∧ v ≤ 3) ∨ (k = 2 ∧ 1 ≤ v ∧ v ≤ 900)) then (if V 6 h = 12 then -3 else V 6 h + 1) else -1 from by rw [if_neg (by omega)])) hL0 (⟨hF0, by rw [if_neg (by omega)]; exact ⟨_, _, _, hM⟩⟩) dX9_event_25
  · refine lv_iload_n hx hb dX9_event_8 rfl (lv_at hl 2 rfl) ?_
    refine k_S (As := [.int (J d)]) (rest := []) (v := .int (J (pI (0 ≤ d ∧ d ≤ 3649)))) hx hb hml hown hts hK hl.1 (c_X9_isDay l G d (by omega)) (va_cwS 1 hts gX9_event_X9_isDay rfl rfl rfl (by decide +kernel) ⟨Nat.le_of_ble_eq_true rfl, Nat.le_of_ble_eq_true rfl⟩) trivial rfl rfl (Nat.le_of_ble_eq_true rfl) dX9_event_9 ⟨Nat.zero_le _, Nat.zero_le _⟩ ?_
    refine j_eqP (tgt := 24) hx hb dX9_event_12 (by decide) (fun c12 => ?_) (fun c12 => ?_)
    · refine j_const hx hb dX9_event_24 ?_
      exact r_iE hx hb hr hlk (Nat.le_of_ble_eq_true rfl) (Nat.le_of_ble_eq_true rfl) (congrArg (fun z => some (Value.int (J z))) (show ((-1) : Int) = if (0 ≤ h ∧ h < V 0 0) ∧ (0 ≤ d ∧ d < 3650) ∧ ((k = 0 ∧ 1 ≤ v ∧ v ≤ 500) ∨ (k = 1 ∧ 0 ≤ v ∧ v ≤ 3) ∨ (k = 2 ∧ 1 ≤ v ∧ v ≤ 900)) then (if V 6 h = 12 then -3 else V 6 h + 1) else -1 from by rw [if_neg (by omega)])) hL0 (⟨hF0, by rw [if_neg (by omega)]; exact ⟨_, _, _, hM⟩⟩) dX9_event_25
    · refine lv_iload_n hx hb dX9_event_15 rfl (lv_at hl 3 rfl) ?_
      refine lv_iload hx hb dX9_event_16 (lv_at hl 4 rfl) ?_
      refine k_S (As := [.int (J k), .int (J v)]) (rest := []) (v := .int (J (pI ((k = 0 ∧ 1 ≤ v ∧ v ≤ 500) ∨ (k = 1 ∧ 0 ≤ v ∧ v ≤ 3) ∨ (k = 2 ∧ 1 ≤ v ∧ v ≤ 900))))) hx hb hml hown hts hK hl.1 (c_X9_isValue l G k v (by omega) (by omega)) (va_cwS 2 hts gX9_event_X9_isValue rfl rfl rfl (by decide +kernel) ⟨Nat.le_of_ble_eq_true rfl, Nat.le_of_ble_eq_true rfl⟩) trivial rfl rfl (Nat.le_of_ble_eq_true rfl) dX9_event_18 ⟨Nat.zero_le _, Nat.zero_le _⟩ ?_
      refine j_neP (tgt := 26) hx hb dX9_event_21 (by decide) (fun c21 => ?_) (fun c21 => ?_)
      · refine lv_aload_n hx hb dX9_event_26 rfl (lv_at hl 0 rfl) ?_
        refine j_get (ci := 9) (v := .ref (ad 6)) hx hb hts inX9_ hown hK ce_1 rfl 6 (by decide) lk0 (fun _ h9 => h9) rfl dX9_event_27 ?_
        refine lv_iload_n hx hb dX9_event_30 rfl (lv_at hl 1 rfl) ?_
        have ce_2 : At G s.heap (ad 6) (eI G 40 (V 6)) := (hM.2.1 6 (by decide) (by decide))
        refine j_iald hx hb hK ce_2 (by omega) (by omega) (by decide) dX9_event_31 ?_
        have hr_3 := hV.h (i := h) (by omega) (by omega)
        refine j_bi hx hb dX9_event_32 (by decide +kernel) ?_
        refine j_cne (tgt := 40) hx hb (by omega) (by omega) (by decide) (by decide) dX9_event_34 (by decide) (fun c34 => ?_) (fun c34 => ?_)
        · refine lv_aload_n hx hb dX9_event_40 rfl (lv_at hl 0 rfl) ?_
          refine lv_iload_n hx hb dX9_event_41 rfl (lv_at hl 1 rfl) ?_
          refine lv_iload_n hx hb dX9_event_42 rfl (lv_at hl 2 rfl) ?_
          refine lv_iload_n hx hb dX9_event_43 rfl (lv_at hl 3 rfl) ?_
          refine lv_iload hx hb dX9_event_44 (lv_at hl 4 rfl) ?_
          refine e_V (A := (fun x => (mS ad) x ∨ sz ≤ x)) (ci := 9) (b := ad 0) (As := [.int (J h), .int (J d), .int (J k), .int (J v)]) (rest := []) hx hb hml hown hts hK hl.1 (c_X9_adds l G ad V fo am ys h d k v sz hD (by omega) (by have := hV.h (i := h) (by omega) (by omega); omega)) (cwV 4 hts gX9_event_X9_adds rfl rfl rfl (by decide +kernel) ⟨Nat.le_of_ble_eq_true rfl, Nat.le_of_ble_eq_true rfl⟩) ce_1 rfl (⟨by have z1 := hF0.1; omega, hM⟩) rfl rfl (Nat.le_of_ble_eq_true rfl) dX9_event_46 ⟨Nat.le_of_ble_eq_true rfl, Nat.le_of_ble_eq_true rfl⟩ hL0 (fun x hx => hx) (fun H_4 lo_5 hp_6 hL_7 => ?_)
          show W p l e (headSpec wsX9_event rmX9_event).room s m ([.ref (ad 0), .int (J h), .int (J d), .int (J k), .int (J v)] : List Value).toArray below meth c H_4 lo_5 (0 + 0) (0 + 0) (MQ below (QE (some (.int (J (if (0 ≤ h ∧ h < V 0 0) ∧ (0 ≤ d ∧ d < 3650) ∧ ((k = 0 ∧ 1 ≤ v ∧ v ≤ 500) ∨ (k = 1 ∧ 0 ≤ v ∧ v ≤ 3) ∨ (k = 2 ∧ 1 ≤ v ∧ v ≤ 900)) then (if V 6 h = 12 then -3 else V 6 h + 1) else -1))) : Option Value) (fun H H1 => Fr H H1 (mS ad) 0 ∧ MX G H1 ad (if ((0 ≤ h ∧ h < V 0 0) ∧ (0 ≤ d ∧ d < 3650) ∧ ((k = 0 ∧ 1 ≤ v ∧ v ≤ 500) ∨ (k = 1 ∧ 0 ≤ v ∧ v ≤ 3) ∨ (k = 2 ∧ 1 ≤ v ∧ v ≤ 900))) ∧ V 6 h ≠ 12 then sAd V h d k v else V))) ([.ref (ad 0), .int (J h), .int (J d), .int (J k), .int (J v)] : List Value).toArray s 0 0 (fun x => (mS ad) x ∨ sz ≤ x)) (F0 m 49 ls [])
          have hf_9 : Fr s.heap H_4 (mS ad) 0 := hp_6.1
          have hF_8 : Fr s.heap H_4 (mS ad) 0 := hF0.f hf_9 (fun x hx z => z)
          have hM_10 : MW G H_4 ad (sAd V h d k v) fo am ys := hp_6.2
          refine lv_aload_n hx hb dX9_event_49 rfl (lv_at hl 0 rfl) ?_
          have ce_11 : At G H_4 (ad 0) (eO 9 [.int (J ((sAd V h d k v) 0 0)), .ref (ad 1), .ref (ad 2), .ref (ad 3), .ref (ad 4), .ref (ad 5), .ref (ad 6), .ref (ad 7), .ref (ad 8), .ref (ad 9), .int (J ((sAd V h d k v) 0 1)), .ref (ad 10), .ref (ad 11), .ref (ad 12), .ref (ad 13), .ref (ad 14), .ref (ad 15), .ref (ad 16), .ref (ad 17), .int (J fo), .int (J am), .ref (ad 18)]) := hM_10.1
          refine j_get (ci := 9) (v := .ref (ad 6)) hx hb hts inX9_ hown hK ce_11 rfl 6 (by decide) lk0 (fun _ h9 => h9) rfl dX9_event_50 ?_
          refine lv_iload_n hx hb dX9_event_53 rfl (lv_at hl 1 rfl) ?_
          have ce_12 : At G H_4 (ad 6) (eI G 40 ((sAd V h d k v) 6)) := (hM_10.2.1 6 (by decide) (by decide))
          refine j_iald hx hb hK ce_12 (by omega) (by omega) (by decide) dX9_event_54 ?_
          exact r_iE hx hb hr hlk (Nat.le_of_ble_eq_true rfl) (Nat.le_of_ble_eq_true rfl) (congrArg (fun z => some (Value.int (J z))) (show (((sAd V h d k v) 6) h : Int) = if (0 ≤ h ∧ h < V 0 0) ∧ (0 ≤ d ∧ d < 3650) ∧ ((k = 0 ∧ 1 ≤ v ∧ v ≤ 500) ∨ (k = 1 ∧ 0 ≤ v ∧ v ≤ 3) ∨ (k = 2 ∧ 1 ≤ v ∧ v ≤ 900)) then (if V 6 h = 12 then -3 else V 6 h + 1) else -1 from by rw [if_pos (by omega), if_neg (by omega)]; exact (sAd_6 V h d k v h).trans (if_pos rfl))) hL_7 (⟨hF_8, by rw [if_pos (by omega)]; exact ⟨_, _, _, hM_10⟩⟩) dX9_event_55
        · refine j_bi hx hb dX9_event_37 (by decide +kernel) ?_
          exact r_iE hx hb hr hlk (Nat.le_of_ble_eq_true rfl) (Nat.le_of_ble_eq_true rfl) (congrArg (fun z => some (Value.int (J z))) (show ((-3) : Int) = if (0 ≤ h ∧ h < V 0 0) ∧ (0 ≤ d ∧ d < 3650) ∧ ((k = 0 ∧ 1 ≤ v ∧ v ≤ 500) ∨ (k = 1 ∧ 0 ≤ v ∧ v ≤ 3) ∨ (k = 2 ∧ 1 ≤ v ∧ v ≤ 900)) then (if V 6 h = 12 then -3 else V 6 h + 1) else -1 from by rw [if_pos (by omega), if_pos (by omega)])) hL0 (⟨hF0, by rw [if_neg (by omega)]; exact ⟨_, _, _, hM⟩⟩) dX9_event_39
      · refine j_const hx hb dX9_event_24 ?_
        exact r_iE hx hb hr hlk (Nat.le_of_ble_eq_true rfl) (Nat.le_of_ble_eq_true rfl) (congrArg (fun z => some (Value.int (J z))) (show ((-1) : Int) = if (0 ≤ h ∧ h < V 0 0) ∧ (0 ≤ d ∧ d < 3650) ∧ ((k = 0 ∧ 1 ≤ v ∧ v ≤ 500) ∨ (k = 1 ∧ 0 ≤ v ∧ v ≤ 3) ∨ (k = 2 ∧ 1 ≤ v ∧ v ≤ 900)) then (if V 6 h = 12 then -3 else V 6 h + 1) else -1 from by rw [if_neg (by omega)])) hL0 (⟨hF0, by rw [if_neg (by omega)]; exact ⟨_, _, _, hM⟩⟩) dX9_event_25

abbrev rmX9_strike : Room := { frames := 2, cells := 0, slots := 0, locals := 43 }
set_option maxHeartbeats 4000000 in
set_option maxRecDepth 100000 in
theorem c_X9_strike (l : Launch) (G : GG) (ad : Nat → Nat) (V : St) (fo am : Int) (ys : Int → Int) (h : Int) (sz : Nat) (hV : Iv V) (hD : Dj ad) (g_h : -2147483648 ≤ h ∧ h < 2147483648) : ME l G yX9_strike wsX9_strike rmX9_strike [.ref (ad 0), .int (J h)] (fun H => H.size = sz ∧ (MW G H ad V fo am ys)) (some (.int (J (if 0 ≤ h ∧ h < V 0 0 then (if V 6 h = 0 then -2 else V 6 h - 1) else -1))) : Option Value) (fun x => (mS ad) x ∨ sz ≤ x) (fun H H1 => Fr H H1 (mS ad) 0 ∧ MX G H1 ad (if (0 ≤ h ∧ h < V 0 0) ∧ V 6 h ≠ 0 then sSk V h else V)) 0 0 := by
  refine ME.of (cc := cX9_strike) (maxL := 2) (ret := (some .int)) (by decide) rfl (Nat.le_of_ble_eq_true rfl) ?_
  intro p e s m below meth c hx hb hr hml hown hts hlk hin hK hP ls hl
  have hL0 : ∀ z9 ∈ ([] : List Loc), (fun x => (mS ad) x ∨ sz ≤ x) z9.base := fun z9 h => absurd h List.not_mem_nil
  have hown : s.vm.findClass RX9 = some m.cls := hown
  have hl : lv_has ls 2 [(0, .ref (ad 0)), (1, .int (J h))] := hl
  have inX9_ : ∀ w ∈ u_ws RX9 TX9 22, w ∈ wsX9_strike := by decide +kernel
  have lk0 := hts (.fieldLink RX9 25 "RateBookModel" "events" "[I") (by decide +kernel)
  obtain ⟨hsz, hP⟩ := hP
  have hF0 : Fr s.heap s.heap (mS ad) 0 := Fr.rf
  have hM : MW G s.heap ad V fo am ys := hP
  have hn := hV.n
  have hnl := hV.l
  refine lv_aload_n hx hb dX9_strike_0 rfl (lv_at hl 0 rfl) ?_
  refine lv_iload_n hx hb dX9_strike_1 rfl (lv_at hl 1 rfl) ?_
  have ce_1 : At G s.heap (ad 0) (eO 9 [.int (J (V 0 0)), .ref (ad 1), .ref (ad 2), .ref (ad 3), .ref (ad 4), .ref (ad 5), .ref (ad 6), .ref (ad 7), .ref (ad 8), .ref (ad 9), .int (J (V 0 1)), .ref (ad 10), .ref (ad 11), .ref (ad 12), .ref (ad 13), .ref (ad 14), .ref (ad 15), .ref (ad 16), .ref (ad 17), .int (J fo), .int (J am), .ref (ad 18)]) := hM.1
  refine k_V (ci := 9) (b := ad 0) (As := [.int (J h)]) (rest := []) (v := .int (J (pI (0 ≤ h ∧ h ≤ V 0 0 - 1)))) hx hb hml hown hts hK hl.1 (c_X9_isHouse l G ad V fo am ys h hV (by omega)) (cwV 1 hts gX9_strike_X9_isHouse rfl rfl rfl (by decide +kernel) ⟨Nat.le_of_ble_eq_true rfl, Nat.le_of_ble_eq_true rfl⟩) ce_1 rfl hM rfl rfl (Nat.le_of_ble_eq_true rfl) dX9_strike_2 ⟨Nat.zero_le _, Nat.zero_le _⟩ ?_
  refine j_neP (tgt := 10) hx hb dX9_strike_5 (by decide) (fun c5 => ?_) (fun c5 => ?_)
  · refine lv_aload_n hx hb dX9_strike_10 rfl (lv_at hl 0 rfl) ?_
    refine j_get (ci := 9) (v := .ref (ad 6)) hx hb hts inX9_ hown hK ce_1 rfl 6 (by decide) lk0 (fun _ h9 => h9) rfl dX9_strike_11 ?_
    refine lv_iload_n hx hb dX9_strike_14 rfl (lv_at hl 1 rfl) ?_
    have ce_2 : At G s.heap (ad 6) (eI G 40 (V 6)) := (hM.2.1 6 (by decide) (by decide))
    refine j_iald hx hb hK ce_2 (by omega) (by omega) (by decide) dX9_strike_15 ?_
    have hr_3 := hV.h (i := h) (by omega) (by omega)
    refine j_ne0 (tgt := 22) hx hb (by omega) (by omega) dX9_strike_16 (by decide) (fun c16 => ?_) (fun c16 => ?_)
    · refine lv_aload_n hx hb dX9_strike_22 rfl (lv_at hl 0 rfl) ?_
      refine j_get (ci := 9) (v := .ref (ad 6)) hx hb hts inX9_ hown hK ce_1 rfl 6 (by decide) lk0 (fun _ h9 => h9) rfl dX9_strike_23 ?_
      refine lv_iload_n hx hb dX9_strike_26 rfl (lv_at hl 1 rfl) ?_
      refine lv_dup2_11 hx hb dX9_strike_27 rfl rfl ?_
      refine j_iald hx hb hK ce_2 (by omega) (by omega) (by decide) dX9_strike_28 ?_
      refine j_const hx hb dX9_strike_29 ?_
      refine j_sub hx hb dX9_strike_30 ?_
      refine j_iast (A := (fun x => (mS ad) x ∨ sz ≤ x)) hx hb hK ce_2 (by omega) (by omega) (by decide) hL0 (Or.inl ⟨6, by decide, rfl⟩) dX9_strike_31 (fun H_4 lo_5 hc_6 hx_7 hL_8 => ?_)
      have hc_6 : At G H_4 (ad 6) (eI G 40 (uf (V 6) h (((V 6) h) - 1))) := hc_6
      have hM_10 : MW G H_4 ad (vu V 6 h (((V 6) h) - 1)) fo am ys := MW.upd (k := 6) hD hM hx_7 (by decide) (by decide) hc_6 (fun c hc => vu_n _ _ _ hc)
      have hF_11 : Fr s.heap H_4 (mS ad) 0 := hF0.x hx_7 (fun _ => ⟨6, by decide, rfl⟩)
      refine lv_aload_n hx hb dX9_strike_32 rfl (lv_at hl 0 rfl) ?_
      have ce_12 : At G H_4 (ad 0) (eO 9 [.int (J (V 0 0)), .ref (ad 1), .ref (ad 2), .ref (ad 3), .ref (ad 4), .ref (ad 5), .ref (ad 6), .ref (ad 7), .ref (ad 8), .ref (ad 9), .int (J (V 0 1)), .ref (ad 10), .ref (ad 11), .ref (ad 12), .ref (ad 13), .ref (ad 14), .ref (ad 15), .ref (ad 16), .ref (ad 17), .int (J fo), .int (J am), .ref (ad 18)]) := hM_10.1
      refine j_get (ci := 9) (v := .ref (ad 6)) hx hb hts inX9_ hown hK ce_12 rfl 6 (by decide) lk0 (fun _ h9 => h9) rfl dX9_strike_33 ?_
      refine lv_iload_n hx hb dX9_strike_36 rfl (lv_at hl 1 rfl) ?_
      have ce_13 : At G H_4 (ad 6) (eI G 40 (uf (V 6) h (((V 6) h) - 1))) := (hM_10.2.1 6 (by decide) (by decide))
      refine j_iald hx hb hK ce_13 (by omega) (by omega) (by decide) dX9_strike_37 ?_
      exact r_iE hx hb hr hlk (Nat.le_of_ble_eq_true rfl) (Nat.le_of_ble_eq_true rfl) (congrArg (fun z => some (Value.int (J z))) (show ((uf (V 6) h (((V 6) h) - 1)) h : Int) = if 0 ≤ h ∧ h < V 0 0 then (if V 6 h = 0 then -2 else V 6 h - 1) else -1 from by rw [if_pos (by omega), if_neg (by omega)]; exact uf_s _ _ _)) hL_8 (⟨hF_11, by rw [if_pos (by omega)]; exact ⟨_, _, _, hM_10⟩⟩) dX9_strike_38
    · refine j_bi hx hb dX9_strike_19 (by decide +kernel) ?_
      exact r_iE hx hb hr hlk (Nat.le_of_ble_eq_true rfl) (Nat.le_of_ble_eq_true rfl) (congrArg (fun z => some (Value.int (J z))) (show ((-2) : Int) = if 0 ≤ h ∧ h < V 0 0 then (if V 6 h = 0 then -2 else V 6 h - 1) else -1 from by rw [if_pos (by omega), if_pos (by omega)])) hL0 (⟨hF0, by rw [if_neg (by omega)]; exact ⟨_, _, _, hM⟩⟩) dX9_strike_21
  · refine j_const hx hb dX9_strike_8 ?_
    exact r_iE hx hb hr hlk (Nat.le_of_ble_eq_true rfl) (Nat.le_of_ble_eq_true rfl) (congrArg (fun z => some (Value.int (J z))) (show ((-1) : Int) = if 0 ≤ h ∧ h < V 0 0 then (if V 6 h = 0 then -2 else V 6 h - 1) else -1 from by rw [if_neg (by omega)])) hL0 (⟨hF0, by rw [if_neg (by omega)]; exact ⟨_, _, _, hM⟩⟩) dX9_strike_9

abbrev rmX9_pay : Room := { frames := 2, cells := 0, slots := 0, locals := 43 }
set_option maxHeartbeats 4000000 in
set_option maxRecDepth 100000 in
theorem c_X9_pay (l : Launch) (G : GG) (ad : Nat → Nat) (V : St) (fo am : Int) (ys : Int → Int) (h y m_ : Int) (sz : Nat) (hV : Iv V) (hD : Dj ad) (g_h : -2147483648 ≤ h ∧ h < 2147483648) (g_y : -2147483648 ≤ y ∧ y < 2147483648) (g_m_ : -2147483648 ≤ m_ ∧ m_ < 2147483648) : ME l G yX9_pay wsX9_pay rmX9_pay [.ref (ad 0), .int (J h), .int (J y), .int (J m_)] (fun H => H.size = sz ∧ (MW G H ad V fo am ys)) (some (.int (J (if (0 ≤ h ∧ h < V 0 0) ∧ (0 ≤ y ∧ y < 10) ∧ 1 ≤ m_ ∧ m_ ≤ 10000000 then (if V 17 (10 * h + y) + m_ ≤ 10000000 then V 17 (10 * h + y) + m_ else -3) else -1))) : Option Value) (fun x => (mS ad) x ∨ sz ≤ x) (fun H H1 => Fr H H1 (mS ad) 0 ∧ MX G H1 ad (if ((0 ≤ h ∧ h < V 0 0) ∧ (0 ≤ y ∧ y < 10) ∧ 1 ≤ m_ ∧ m_ ≤ 10000000) ∧ V 17 (10 * h + y) + m_ ≤ 10000000 then sPa V h y m_ else V)) 0 0 := by
  refine ME.of (cc := cX9_pay) (maxL := 4) (ret := (some .int)) (by decide) rfl (Nat.le_of_ble_eq_true rfl) ?_
  intro p e s m below meth c hx hb hr hml hown hts hlk hin hK hP ls hl
  have hL0 : ∀ z9 ∈ ([] : List Loc), (fun x => (mS ad) x ∨ sz ≤ x) z9.base := fun z9 h => absurd h List.not_mem_nil
  have hown : s.vm.findClass RX9 = some m.cls := hown
  have hl : lv_has ls 4 [(0, .ref (ad 0)), (1, .int (J h)), (2, .int (J y)), (3, .int (J m_))] := hl
  have inX9_ : ∀ w ∈ u_ws RX9 TX9 22, w ∈ wsX9_pay := by decide +kernel
  have lk0 := hts (.constant RX9 163 10000000) (by decide +kernel)
  have lk1 := hts (.fieldLink RX9 59 "RateBookModel" "payments" "[I") (by decide +kernel)
  obtain ⟨hsz, hP⟩ := hP
  have hF0 : Fr s.heap s.heap (mS ad) 0 := Fr.rf
  have hM : MW G s.heap ad V fo am ys := hP
  have hn := hV.n
  have hnl := hV.l
  refine lv_aload_n hx hb dX9_pay_0 rfl (lv_at hl 0 rfl) ?_
  refine lv_iload_n hx hb dX9_pay_1 rfl (lv_at hl 1 rfl) ?_
  have ce_1 : At G s.heap (ad 0) (eO 9 [.int (J (V 0 0)), .ref (ad 1), .ref (ad 2), .ref (ad 3), .ref (ad 4), .ref (ad 5), .ref (ad 6), .ref (ad 7), .ref (ad 8), .ref (ad 9), .int (J (V 0 1)), .ref (ad 10), .ref (ad 11), .ref (ad 12), .ref (ad 13), .ref (ad 14), .ref (ad 15), .ref (ad 16), .ref (ad 17), .int (J fo), .int (J am), .ref (ad 18)]) := hM.1
  refine k_V (ci := 9) (b := ad 0) (As := [.int (J h)]) (rest := []) (v := .int (J (pI (0 ≤ h ∧ h ≤ V 0 0 - 1)))) hx hb hml hown hts hK hl.1 (c_X9_isHouse l G ad V fo am ys h hV (by omega)) (cwV 1 hts gX9_pay_X9_isHouse rfl rfl rfl (by decide +kernel) ⟨Nat.le_of_ble_eq_true rfl, Nat.le_of_ble_eq_true rfl⟩) ce_1 rfl hM rfl rfl (Nat.le_of_ble_eq_true rfl) dX9_pay_2 ⟨Nat.zero_le _, Nat.zero_le _⟩ ?_
  refine j_eqP (tgt := 25) hx hb dX9_pay_5 (by decide) (fun c5 => ?_) (fun c5 => ?_)
  · refine j_const hx hb dX9_pay_25 ?_
    exact r_iE hx hb hr hlk (Nat.le_of_ble_eq_true rfl) (Nat.le_of_ble_eq_true rfl) (congrArg (fun z => some (Value.int (J z))) (show ((-1) : Int) = if (0 ≤ h ∧ h < V 0 0) ∧ (0 ≤ y ∧ y < 10) ∧ 1 ≤ m_ ∧ m_ ≤ 10000000 then (if V 17 (10 * h + y) + m_ ≤ 10000000 then V 17 (10 * h + y) + m_ else -3) else -1 from by rw [if_neg (by omega)])) hL0 (⟨hF0, by rw [if_neg (by omega)]; exact ⟨_, _, _, hM⟩⟩) dX9_pay_26
  · refine lv_iload_n hx hb dX9_pay_8 rfl (lv_at hl 2 rfl) ?_
    refine k_S (As := [.int (J y)]) (rest := []) (v := .int (J (pI (0 ≤ y ∧ y ≤ 9)))) hx hb hml hown hts hK hl.1 (c_X9_isYear l G y (by omega)) (va_cwS 1 hts gX9_pay_X9_isYear rfl rfl rfl (by decide +kernel) ⟨Nat.le_of_ble_eq_true rfl, Nat.le_of_ble_eq_true rfl⟩) trivial rfl rfl (Nat.le_of_ble_eq_true rfl) dX9_pay_9 ⟨Nat.zero_le _, Nat.zero_le _⟩ ?_
    refine j_eqP (tgt := 25) hx hb dX9_pay_12 (by decide) (fun c12 => ?_) (fun c12 => ?_)
    · refine j_const hx hb dX9_pay_25 ?_
      exact r_iE hx hb hr hlk (Nat.le_of_ble_eq_true rfl) (Nat.le_of_ble_eq_true rfl) (congrArg (fun z => some (Value.int (J z))) (show ((-1) : Int) = if (0 ≤ h ∧ h < V 0 0) ∧ (0 ≤ y ∧ y < 10) ∧ 1 ≤ m_ ∧ m_ ≤ 10000000 then (if V 17 (10 * h + y) + m_ ≤ 10000000 then V 17 (10 * h + y) + m_ else -3) else -1 from by rw [if_neg (by omega)])) hL0 (⟨hF0, by rw [if_neg (by omega)]; exact ⟨_, _, _, hM⟩⟩) dX9_pay_26
    · refine lv_iload_n hx hb dX9_pay_15 rfl (lv_at hl 3 rfl) ?_
      refine j_const hx hb dX9_pay_16 ?_
      refine j_ldc hx hb hown lk0 (z := 10000000) rfl dX9_pay_17 ?_
      refine k_S (As := [.int (J m_), .int (J 1), .int (J 10000000)]) (rest := []) (v := .int (J (pI (1 ≤ m_ ∧ m_ ≤ 10000000)))) hx hb hml hown hts hK hl.1 (c_X9_in l G m_ 1 10000000 (by omega) (by omega) (by omega)) (va_cwS 3 hts gX9_pay_X9_in rfl rfl rfl (by decide +kernel) ⟨Nat.le_of_ble_eq_true rfl, Nat.le_of_ble_eq_true rfl⟩) trivial rfl rfl (Nat.le_of_ble_eq_true rfl) dX9_pay_19 ⟨Nat.zero_le _, Nat.zero_le _⟩ ?_
      refine j_neP (tgt := 27) hx hb dX9_pay_22 (by decide) (fun c22 => ?_) (fun c22 => ?_)
      · refine lv_aload_n hx hb dX9_pay_27 rfl (lv_at hl 0 rfl) ?_
        refine j_get (ci := 9) (v := .ref (ad 17)) hx hb hts inX9_ hown hK ce_1 rfl 18 (by decide) lk1 (fun _ h9 => h9) rfl dX9_pay_28 ?_
        refine j_bi hx hb dX9_pay_31 (by decide +kernel) ?_
        refine lv_iload_n hx hb dX9_pay_33 rfl (lv_at hl 1 rfl) ?_
        refine j_mul hx hb dX9_pay_34 ?_
        refine lv_iload_n hx hb dX9_pay_35 rfl (lv_at hl 2 rfl) ?_
        refine j_add hx hb dX9_pay_36 ?_
        have ce_2 : At G s.heap (ad 17) (eI G 400 (V 17)) := (hM.2.1 17 (by decide) (by decide))
        refine j_iald hx hb hK ce_2 (by omega) (by omega) (by decide) dX9_pay_37 ?_
        have hr_3 := hV.b (i := h) (y := y) (by omega) (by omega) (by omega) (by omega)
        refine lv_iload_n hx hb dX9_pay_38 rfl (lv_at hl 3 rfl) ?_
        refine j_add hx hb dX9_pay_39 ?_
        refine j_ldc hx hb hown lk0 (z := 10000000) rfl dX9_pay_40 ?_
        refine j_cle (tgt := 48) hx hb (by omega) (by omega) (by decide) (by decide) dX9_pay_42 (by decide) (fun c42 => ?_) (fun c42 => ?_)
        · refine lv_aload_n hx hb dX9_pay_48 rfl (lv_at hl 0 rfl) ?_
          refine j_get (ci := 9) (v := .ref (ad 17)) hx hb hts inX9_ hown hK ce_1 rfl 18 (by decide) lk1 (fun _ h9 => h9) rfl dX9_pay_49 ?_
          refine j_bi hx hb dX9_pay_52 (by decide +kernel) ?_
          refine lv_iload_n hx hb dX9_pay_54 rfl (lv_at hl 1 rfl) ?_
          refine j_mul hx hb dX9_pay_55 ?_
          refine lv_iload_n hx hb dX9_pay_56 rfl (lv_at hl 2 rfl) ?_
          refine j_add hx hb dX9_pay_57 ?_
          refine lv_dup2_11 hx hb dX9_pay_58 rfl rfl ?_
          refine j_iald hx hb hK ce_2 (by omega) (by omega) (by decide) dX9_pay_59 ?_
          refine lv_iload_n hx hb dX9_pay_60 rfl (lv_at hl 3 rfl) ?_
          refine j_add hx hb dX9_pay_61 ?_
          refine j_iast (A := (fun x => (mS ad) x ∨ sz ≤ x)) hx hb hK ce_2 (by omega) (by omega) (by decide) hL0 (Or.inl ⟨17, by decide, rfl⟩) dX9_pay_62 (fun H_4 lo_5 hc_6 hx_7 hL_8 => ?_)
          have hc_6 : At G H_4 (ad 17) (eI G 400 (uf (V 17) ((10 * h) + y) (((V 17) ((10 * h) + y)) + m_))) := hc_6
          have hM_10 : MW G H_4 ad (vu V 17 ((10 * h) + y) (((V 17) ((10 * h) + y)) + m_)) fo am ys := MW.upd (k := 17) hD hM hx_7 (by decide) (by decide) hc_6 (fun c hc => vu_n _ _ _ hc)
          have hF_11 : Fr s.heap H_4 (mS ad) 0 := hF0.x hx_7 (fun _ => ⟨17, by decide, rfl⟩)
          refine lv_aload_n hx hb dX9_pay_63 rfl (lv_at hl 0 rfl) ?_
          have ce_12 : At G H_4 (ad 0) (eO 9 [.int (J (V 0 0)), .ref (ad 1), .ref (ad 2), .ref (ad 3), .ref (ad 4), .ref (ad 5), .ref (ad 6), .ref (ad 7), .ref (ad 8), .ref (ad 9), .int (J (V 0 1)), .ref (ad 10), .ref (ad 11), .ref (ad 12), .ref (ad 13), .ref (ad 14), .ref (ad 15), .ref (ad 16), .ref (ad 17), .int (J fo), .int (J am), .ref (ad 18)]) := hM_10.1
          refine j_get (ci := 9) (v := .ref (ad 17)) hx hb hts inX9_ hown hK ce_12 rfl 18 (by decide) lk1 (fun _ h9 => h9) rfl dX9_pay_64 ?_
          refine j_bi hx hb dX9_pay_67 (by decide +kernel) ?_
          refine lv_iload_n hx hb dX9_pay_69 rfl (lv_at hl 1 rfl) ?_
          refine j_mul hx hb dX9_pay_70 ?_
          refine lv_iload_n hx hb dX9_pay_71 rfl (lv_at hl 2 rfl) ?_
          refine j_add hx hb dX9_pay_72 ?_
          have ce_13 : At G H_4 (ad 17) (eI G 400 (uf (V 17) ((10 * h) + y) (((V 17) ((10 * h) + y)) + m_))) := (hM_10.2.1 17 (by decide) (by decide))
          refine j_iald hx hb hK ce_13 (by omega) (by omega) (by decide) dX9_pay_73 ?_
          exact r_iE hx hb hr hlk (Nat.le_of_ble_eq_true rfl) (Nat.le_of_ble_eq_true rfl) (congrArg (fun z => some (Value.int (J z))) (show ((uf (V 17) ((10 * h) + y) (((V 17) ((10 * h) + y)) + m_)) ((10 * h) + y) : Int) = if (0 ≤ h ∧ h < V 0 0) ∧ (0 ≤ y ∧ y < 10) ∧ 1 ≤ m_ ∧ m_ ≤ 10000000 then (if V 17 (10 * h + y) + m_ ≤ 10000000 then V 17 (10 * h + y) + m_ else -3) else -1 from by rw [if_pos (by omega), if_pos (by omega)]; exact uf_s _ _ _)) hL_8 (⟨hF_11, by rw [if_pos (by omega)]; exact ⟨_, _, _, hM_10⟩⟩) dX9_pay_74
        · refine j_bi hx hb dX9_pay_45 (by decide +kernel) ?_
          exact r_iE hx hb hr hlk (Nat.le_of_ble_eq_true rfl) (Nat.le_of_ble_eq_true rfl) (congrArg (fun z => some (Value.int (J z))) (show ((-3) : Int) = if (0 ≤ h ∧ h < V 0 0) ∧ (0 ≤ y ∧ y < 10) ∧ 1 ≤ m_ ∧ m_ ≤ 10000000 then (if V 17 (10 * h + y) + m_ ≤ 10000000 then V 17 (10 * h + y) + m_ else -3) else -1 from by rw [if_pos (by omega), if_neg (by omega)])) hL0 (⟨hF0, by rw [if_neg (by omega)]; exact ⟨_, _, _, hM⟩⟩) dX9_pay_47
      · refine j_const hx hb dX9_pay_25 ?_
        exact r_iE hx hb hr hlk (Nat.le_of_ble_eq_true rfl) (Nat.le_of_ble_eq_true rfl) (congrArg (fun z => some (Value.int (J z))) (show ((-1) : Int) = if (0 ≤ h ∧ h < V 0 0) ∧ (0 ≤ y ∧ y < 10) ∧ 1 ≤ m_ ∧ m_ ≤ 10000000 then (if V 17 (10 * h + y) + m_ ≤ 10000000 then V 17 (10 * h + y) + m_ else -3) else -1 from by rw [if_neg (by omega)])) hL0 (⟨hF0, by rw [if_neg (by omega)]; exact ⟨_, _, _, hM⟩⟩) dX9_pay_26
