abbrev rmX8_bookOf : Room := { frames := 0, cells := 0, slots := 0, locals := 0 }
set_option maxHeartbeats 4000000 in
set_option maxRecDepth 100000 in
theorem c_X8_bookOf (l : Launch) (G : GG) (a : Nat → Nat) (f : Nat → Int → Nat) (L : Int → List EvT) (u : Nat → Int → Int) (V : St) (y : Int) (g_y : -2147483648 ≤ y ∧ y < 2147483648) : MP l G yX8_bookOf wsX8_bookOf rmX8_bookOf [.ref (a 0), .int (J y)] (fun H => RB G H a f L u V) (va_rf (qN 10 (f 6) y) : Value) := by
  refine MP.of (cc := cX8_bookOf) (maxL := 2) (ret := (some (.object "RateBook$YearBook"))) (by decide) rfl (Nat.le_of_ble_eq_true rfl) ?_
  intro p e s m below meth c hx hb hr hml hown hts hlk hK hP ls hl
  have hown : s.vm.findClass RX8 = some m.cls := hown
  have hl : lv_has ls 2 [(0, .ref (a 0)), (1, .int (J y))] := hl
  have inX8_ : ∀ w ∈ u_ws RX8 TX8 4, w ∈ wsX8_bookOf := by decide +kernel
  have lk0 := hts (.fieldLink RX8 29 "RateBook" "books" "[LRateBook$YearBook;") (by decide +kernel)
  have hRB : RB G s.heap a f L u V := hP
  obtain ⟨hV, hX, hT, hE, hLi, hBa, hBk⟩ := id hRB
  obtain ⟨hT1, hT2, hT3, hT4⟩ := id hT
  obtain ⟨hL1, hL2, hL3, hL4, hL5, hL6⟩ := id hLi
  have hn := hV.n
  have hnl := hV.l
  refine lv_iload_n hx hb dX8_bookOf_0 rfl (lv_at hl 1 rfl) ?_
  refine j_lt0 (tgt := 22) hx hb (by omega) (by omega) dX8_bookOf_1 (by decide) (fun c1 => ?_) (fun c1 => ?_)
  · refine lv_null hx hb dX8_bookOf_22 ?_
    exact r_a hx hb hr hlk (o := none) rfl (congrArg va_rf (show (none : Option Nat) = qN 10 (f 6) y from (qN_n (by omega)).symm)) dX8_bookOf_23
  · refine lv_iload_n hx hb dX8_bookOf_4 rfl (lv_at hl 1 rfl) ?_
    refine lv_aload_n hx hb dX8_bookOf_5 rfl (lv_at hl 0 rfl) ?_
    refine j_get (ci := 8) (v := .ref (a 5)) hx hb hts inX8_ hown hK hX rfl 2 (by decide) lk0 (fun _ h9 => h9) rfl dX8_bookOf_6 ?_
    refine j_alQ (C := RX7) hx hb hK hBa rfl dX8_bookOf_9 ?_
    refine j_re (y := 10) rfl ?_
    refine j_cge (tgt := 22) hx hb (by omega) (by omega) (by decide) (by decide) dX8_bookOf_10 (by decide) (fun c10 => ?_) (fun c10 => ?_)
    · refine lv_null hx hb dX8_bookOf_22 ?_
      exact r_a hx hb hr hlk (o := none) rfl (congrArg va_rf (show (none : Option Nat) = qN 10 (f 6) y from (qN_n (by omega)).symm)) dX8_bookOf_23
    · refine lv_aload_n hx hb dX8_bookOf_13 rfl (lv_at hl 0 rfl) ?_
      refine j_get (ci := 8) (v := .ref (a 5)) hx hb hts inX8_ hown hK hX rfl 2 (by decide) lk0 (fun _ h9 => h9) rfl dX8_bookOf_14 ?_
      refine lv_iload_n hx hb dX8_bookOf_17 rfl (lv_at hl 1 rfl) ?_
      refine j_aald (C := RX7) hx hb hK hBa rfl (by omega) (by omega) (by decide) dX8_bookOf_18 ?_
      refine lv_goto (tgt := 23) hx hb dX8_bookOf_19 (by decide) ?_
      exact r_a hx hb hr hlk (o := (fun y => some (f 6 y)) y) rfl (congrArg va_rf (show ((fun y => some (f 6 y)) y : Option Nat) = qN 10 (f 6) y from (qN_s (by omega)).symm)) dX8_bookOf_23

abbrev rmX8_openOf : Room := { frames := 1, cells := 0, slots := 0, locals := 21 }
set_option maxHeartbeats 4000000 in
set_option maxRecDepth 100000 in
theorem c_X8_openOf (l : Launch) (G : GG) (a : Nat → Nat) (f : Nat → Int → Nat) (L : Int → List EvT) (u : Nat → Int → Int) (V : St) (h y : Int) (h_h : 0 ≤ h ∧ h < V 0 0) (g_y : -2147483648 ≤ y ∧ y < 2147483648) : MP l G yX8_openOf wsX8_openOf rmX8_openOf [.ref (a 0), .int (J h), .int (J y)] (fun H => RB G H a f L u V) (.int (J (if 0 ≤ y ∧ y < 10 then opO V h y else 0)) : Value) := by
  refine MP.of (cc := cX8_openOf) (maxL := 4) (ret := (some .int)) (by decide) rfl (Nat.le_of_ble_eq_true rfl) ?_
  intro p e s m below meth c hx hb hr hml hown hts hlk hK hP ls hl
  have hown : s.vm.findClass RX8 = some m.cls := hown
  have hl : lv_has ls 4 [(0, .ref (a 0)), (1, .int (J h)), (2, .int (J y))] := hl
  have hRB : RB G s.heap a f L u V := hP
  obtain ⟨hV, hX, hT, hE, hLi, hBa, hBk⟩ := id hRB
  obtain ⟨hT1, hT2, hT3, hT4⟩ := id hT
  obtain ⟨hL1, hL2, hL3, hL4, hL5, hL6⟩ := id hLi
  have hn := hV.n
  have hnl := hV.l
  refine lv_aload_n hx hb dX8_openOf_0 rfl (lv_at hl 0 rfl) ?_
  refine lv_iload_n hx hb dX8_openOf_1 rfl (lv_at hl 2 rfl) ?_
  refine k_V (ci := 8) (b := a 0) (As := [.int (J y)]) (rest := []) (v := va_rf (qN 10 (f 6) y)) hx hb hml hown hts hK hl.1 (c_X8_bookOf l G a f L u V y ((by omega))) (cwV 1 hts gX8_openOf_X8_bookOf rfl rfl rfl (by decide +kernel) ⟨Nat.le_of_ble_eq_true rfl, Nat.le_of_ble_eq_true rfl⟩) hX rfl hRB rfl rfl (Nat.le_of_ble_eq_true rfl) dX8_openOf_2 ⟨Nat.zero_le _, Nat.zero_le _⟩ ?_
  by_cases sp2 : 0 ≤ y ∧ y < 10
  · refine j_qs (b := f 6 y) (qN_s sp2) ?_
    have hbk := hBk y sp2.1 sp2.2
    have hyr := hV.y sp2.1 sp2.2
    refine lv_astore_n (lv' := [(3, .ref (f 6 y)), (0, .ref (a 0)), (1, .int (J h)), (2, .int (J y))]) hx hb dX8_openOf_5 rfl hl (by decide) rfl (fun ls hl => ?_)
    refine lv_aload_n hx hb dX8_openOf_6 rfl (lv_at hl 0 rfl) ?_
    refine lv_ifnull hx hb dX8_openOf_7 ?_
    refine lv_aload_n hx hb dX8_openOf_10 rfl (lv_at hl 0 rfl) ?_
    refine lv_iload_n hx hb dX8_openOf_11 rfl (lv_at hl 2 rfl) ?_
    have ce_1 : At G s.heap (f 6 y) (eO 7 [.ref (f 7 y), .ref (f 8 y), .int (J (V 13 y)), .int (J (V 15 y)), .int (J (V 14 y))]) := (hBk y (by omega) (by omega)).2.1
    refine k_V (ci := 7) (b := f 6 y) (As := [.int (J h)]) (rest := []) (v := .int (J (blF V y h))) hx hb hml hown hts hK hl.1 (c_X7_billedTo l G (f 6) (f 7) (f 8) V y h ((by omega))) (cwV 1 hts gX8_openOf_X7_billedTo rfl rfl rfl (by decide +kernel) ⟨Nat.le_of_ble_eq_true rfl, Nat.le_of_ble_eq_true rfl⟩) ce_1 rfl hbk rfl rfl (Nat.le_of_ble_eq_true rfl) dX8_openOf_12 ⟨Nat.zero_le _, Nat.zero_le _⟩ ?_
    have hbr := blF_rng hV (i := h) (y := y) (by omega) (by omega) (by omega) (by omega)
    have hpr := hV.b (i := h) (y := y) (by omega) (by omega) (by omega) (by omega)
    refine j_bi hx hb dX8_openOf_15 (by decide +kernel) ?_
    refine j_cne (tgt := 22) hx hb (by omega) (by omega) (by decide) (by decide) dX8_openOf_17 (by decide) (fun c17 => ?_) (fun c17 => ?_)
    · refine lv_aload_n hx hb dX8_openOf_22 rfl (lv_at hl 0 rfl) ?_
      refine lv_iload_n hx hb dX8_openOf_23 rfl (lv_at hl 2 rfl) ?_
      refine k_V (ci := 7) (b := f 6 y) (As := [.int (J h)]) (rest := []) (v := .int (J (blF V y h))) hx hb hml hown hts hK hl.1 (c_X7_billedTo l G (f 6) (f 7) (f 8) V y h ((by omega))) (cwV 1 hts gX8_openOf_X7_billedTo rfl rfl rfl (by decide +kernel) ⟨Nat.le_of_ble_eq_true rfl, Nat.le_of_ble_eq_true rfl⟩) ce_1 rfl hbk rfl rfl (Nat.le_of_ble_eq_true rfl) dX8_openOf_24 ⟨Nat.zero_le _, Nat.zero_le _⟩ ?_
      refine lv_aload_n hx hb dX8_openOf_27 rfl (lv_at hl 0 rfl) ?_
      refine lv_iload_n hx hb dX8_openOf_28 rfl (lv_at hl 2 rfl) ?_
      refine k_V (ci := 7) (b := f 6 y) (As := [.int (J h)]) (rest := [.int (J (blF V y h))]) (v := .int (J (pdF V y h))) hx hb hml hown hts hK hl.1 (c_X7_paidBy l G (f 6) (f 7) (f 8) V y h ((by omega))) (cwV 1 hts gX8_openOf_X7_paidBy rfl rfl rfl (by decide +kernel) ⟨Nat.le_of_ble_eq_true rfl, Nat.le_of_ble_eq_true rfl⟩) ce_1 rfl hbk rfl rfl (Nat.le_of_ble_eq_true rfl) dX8_openOf_29 ⟨Nat.zero_le _, Nat.zero_le _⟩ ?_
      refine j_sub hx hb dX8_openOf_32 ?_
      exact r_i hx hb hr hlk (congrArg (fun z => Value.int (J z)) (show ((blF V y h) - (pdF V y h) : Int) = if 0 ≤ y ∧ y < 10 then opO V h y else 0 from (by rw [if_pos sp2]; unfold opO; rw [if_neg c17]))) dX8_openOf_33
    · refine j_const hx hb dX8_openOf_20 ?_
      exact r_i hx hb hr hlk (congrArg (fun z => Value.int (J z)) (show (0 : Int) = if 0 ≤ y ∧ y < 10 then opO V h y else 0 from (by rw [if_pos sp2]; unfold opO; rw [if_pos c17]))) dX8_openOf_21
  · refine j_qn (qN_n sp2) ?_
    refine lv_astore_nN (lv' := [(3, .null), (0, .ref (a 0)), (1, .int (J h)), (2, .int (J y))]) hx hb dX8_openOf_5 rfl hl (by decide) rfl (fun ls hl => ?_)
    refine lv_aload_nN hx hb dX8_openOf_6 rfl (lv_at hl 0 rfl) ?_
    refine lv_ifnullN (tgt := 20) hx hb dX8_openOf_7 (by decide) ?_
    refine j_const hx hb dX8_openOf_20 ?_
    exact r_i hx hb hr hlk (congrArg (fun z => Value.int (J z)) (show (0 : Int) = if 0 ≤ y ∧ y < 10 then opO V h y else 0 from (by rw [if_neg (by assumption)]))) dX8_openOf_21

abbrev rmX8_billedIn : Room := { frames := 2, cells := 0, slots := 0, locals := 44 }
set_option maxHeartbeats 4000000 in
set_option maxRecDepth 100000 in
theorem c_X8_billedIn (l : Launch) (G : GG) (a : Nat → Nat) (f : Nat → Int → Nat) (L : Int → List EvT) (u : Nat → Int → Int) (V : St) (w_ y : Int) (h_y : 0 ≤ y ∧ y < 10) (g_w_ : -2147483648 ≤ w_ ∧ w_ < 2147483648) : MP l G yX8_billedIn wsX8_billedIn rmX8_billedIn [.ref (a 0), .int (J w_), .ref (f 6 y)] (fun H => RB G H a f L u V) (.int (J (biO V w_ y)) : Value) := by
  refine MP.of (cc := cX8_billedIn) (maxL := 5) (ret := (some .int)) (by decide) rfl (Nat.le_of_ble_eq_true rfl) ?_
  intro p e s m below meth c hx hb hr hml hown hts hlk hK hP ls hl
  have hown : s.vm.findClass RX8 = some m.cls := hown
  have hl : lv_has ls 5 [(0, .ref (a 0)), (1, .int (J w_)), (2, .ref (f 6 y))] := hl
  have inX5_ : ∀ w ∈ u_ws RX5 TX5 2, w ∈ wsX8_billedIn := by decide +kernel
  have inX8_ : ∀ w ∈ u_ws RX8 TX8 4, w ∈ wsX8_billedIn := by decide +kernel
  have lk0 := hts (.fieldLink RX8 12 "RateBook" "town" "LRateBook$Town;") (by decide +kernel)
  have lk1 := hts (.methodLink RX8 199 Lib.Math.max.name) (by decide +kernel)
  have lk2 := hts (.static Lib.Math.max.name) (by decide +kernel)
  have lk3 := hts (.initialized "java/lang/Math") (by decide +kernel)
  have lk4 := hts (.code Lib.Math.max.name Lib.Math.max.code 2 (some .int)) (by decide +kernel)
  have hRB : RB G s.heap a f L u V := hP
  obtain ⟨hV, hX, hT, hE, hLi, hBa, hBk⟩ := id hRB
  obtain ⟨hT1, hT2, hT3, hT4⟩ := id hT
  obtain ⟨hL1, hL2, hL3, hL4, hL5, hL6⟩ := id hLi
  have hn := hV.n
  have hnl := hV.l
  have hbk := hBk y h_y.1 h_y.2
  refine j_const hx hb dX8_billedIn_0 ?_
  refine lv_istore_n (lv' := [(3, .int (J 0)), (0, .ref (a 0)), (1, .int (J w_)), (2, .ref (f 6 y))]) hx hb dX8_billedIn_1 rfl hl (by decide) rfl (fun ls hl => ?_)
  refine j_const hx hb dX8_billedIn_2 ?_
  refine lv_istore (lv' := [(4, .int (J 0)), (3, .int (J 0)), (0, .ref (a 0)), (1, .int (J w_)), (2, .ref (f 6 y))]) hx hb dX8_billedIn_3 hl (by decide) rfl (fun ls hl => ?_)
  have lp5 : ∀ (n : Nat) (i : Int) (i0 : 0 ≤ i ∧ i ≤ V 0 0) (hm : V 0 0 - i < (n : Int)) (ls : Array Slot) (hl : lv_has ls 5 [(4, .int (J i)), (3, .int (J (lo (fun x o => if w_ = -1 ∨ V 1 o = w_ then x + max 0 (blF V y o) else x) 0 i))), (0, .ref (a 0)), (1, .int (J w_)), (2, .ref (f 6 y))]), W p l e (headSpec wsX8_billedIn rmX8_billedIn).room s m ([.ref (a 0), .int (J w_), .ref (f 6 y)] : List Value).toArray below meth c s.heap [] 0 0 (MQ below (k2_QcV (.int (J (biO V w_ y)) : Value)) ([.ref (a 0), .int (J w_), .ref (f 6 y)] : List Value).toArray s 0 0 (fun _ => False)) (F0 m 5 ls []) := by
    intro n
    induction n with
    | zero =>
      intro i i0 hm ls hl
      exact absurd hm (by omega)
    | succ n ih5 =>
      intro i i0 hm ls hl
      refine lv_iload hx hb dX8_billedIn_5 (lv_at hl 0 rfl) ?_
      refine lv_aload_n hx hb dX8_billedIn_7 rfl (lv_at hl 2 rfl) ?_
      refine j_get (ci := 8) (v := .ref (a 1)) hx hb hts inX8_ hown hK hX rfl 0 (by decide) lk0 (fun _ h9 => h9) rfl dX8_billedIn_8 ?_
      refine j_getN (ci := 5) (v := .int (J (V 0 0))) hx hb hts inX5_ hown hK hT2 rfl 1 (by decide) hK.2.1.2.1 (fun _ h9 => h9) rfl dX8_billedIn_11 ?_
      refine j_cge (tgt := 49) hx hb (by omega) (by omega) (by omega) (by omega) dX8_billedIn_14 (by decide) (fun c14 => ?_) (fun c14 => ?_)
      · refine lv_iload_n hx hb dX8_billedIn_49 rfl (lv_at hl 1 rfl) ?_
        exact r_i hx hb hr hlk (congrArg (fun z => Value.int (J z)) (show (lo (fun x o => if w_ = -1 ∨ V 1 o = w_ then x + max 0 (blF V y o) else x) 0 i : Int) = biO V w_ y from by rw [show i = V 0 0 by omega]; rfl)) dX8_billedIn_50
      · refine lv_aload_n hx hb dX8_billedIn_17 rfl (lv_at hl 2 rfl) ?_
        refine j_get (ci := 8) (v := .ref (a 1)) hx hb hts inX8_ hown hK hX rfl 0 (by decide) lk0 (fun _ h9 => h9) rfl dX8_billedIn_18 ?_
        refine lv_iload hx hb dX8_billedIn_21 (lv_at hl 0 rfl) ?_
        refine lv_iload_n hx hb dX8_billedIn_23 rfl (lv_at hl 3 rfl) ?_
        refine k_V (ci := 5) (b := a 1) (As := [.int (J i), .int (J w_)]) (rest := []) (v := .int (J (pI ((0 ≤ i ∧ i < V 0 0) ∧ (w_ = -1 ∨ V 1 i = w_))))) hx hb hml hown hts hK hl.1 (c_X5_isIn l G (a 1) (a 2) (f 0) (f 1) V i w_ ((by omega)) ((by omega))) (cwV 2 hts gX8_billedIn_X5_isIn rfl rfl rfl (by decide +kernel) ⟨Nat.le_of_ble_eq_true rfl, Nat.le_of_ble_eq_true rfl⟩) hT2 rfl hT rfl rfl (Nat.le_of_ble_eq_true rfl) dX8_billedIn_24 ⟨Nat.zero_le _, Nat.zero_le _⟩ ?_
        refine j_eqP (tgt := 43) hx hb dX8_billedIn_27 (by decide) (fun c27 => ?_) (fun c27 => ?_)
        · refine lv_iinc (v := J (i + 1)) (lv' := [(4, .int (J (i + 1))), (3, .int (J (lo (fun x o => if w_ = -1 ∨ V 1 o = w_ then x + max 0 (blF V y o) else x) 0 i))), (0, .ref (a 0)), (1, .int (J w_)), (2, .ref (f 6 y))]) hx hb dX8_billedIn_43 hl (k := 0) rfl (J_add _ _) (by decide) rfl (fun ls hl => ?_)
          refine lv_goto (tgt := 5) hx hb dX8_billedIn_46 (by decide) ?_
          exact ih5 (i + 1) (by omega) (by omega) _ (lv_sub hl [0, 1, 2, 3, 4] (by rw [show (lo (fun x o => if w_ = -1 ∨ V 1 o = w_ then x + max 0 (blF V y o) else x) 0 (i + 1) : Int) = lo (fun x o => if w_ = -1 ∨ V 1 o = w_ then x + max 0 (blF V y o) else x) 0 i from (by rw [lo_s _ _ (by omega)]; (try simp only [ge_iff_le]) <;> (repeat' split) <;> first | rfl | omega | (exfalso; omega) | (exfalso; contradiction) | (exfalso; simp_all))]; try rfl))
        · refine lv_iload_n hx hb dX8_billedIn_30 rfl (lv_at hl 1 rfl) ?_
          refine j_const hx hb dX8_billedIn_31 ?_
          refine lv_aload_n hx hb dX8_billedIn_32 rfl (lv_at hl 4 rfl) ?_
          refine lv_iload hx hb dX8_billedIn_33 (lv_at hl 0 rfl) ?_
          have ce_1 : At G s.heap (f 6 y) (eO 7 [.ref (f 7 y), .ref (f 8 y), .int (J (V 13 y)), .int (J (V 15 y)), .int (J (V 14 y))]) := (hBk y (by omega) (by omega)).2.1
          refine k_V (ci := 7) (b := f 6 y) (As := [.int (J i)]) (rest := [.int (J 0), .int (J (lo (fun x o => if w_ = -1 ∨ V 1 o = w_ then x + max 0 (blF V y o) else x) 0 i))]) (v := .int (J (blF V y i))) hx hb hml hown hts hK hl.1 (c_X7_billedTo l G (f 6) (f 7) (f 8) V y i ((by omega))) (cwV 1 hts gX8_billedIn_X7_billedTo rfl rfl rfl (by decide +kernel) ⟨Nat.le_of_ble_eq_true rfl, Nat.le_of_ble_eq_true rfl⟩) ce_1 rfl hbk rfl rfl (Nat.le_of_ble_eq_true rfl) dX8_billedIn_35 ⟨Nat.zero_le _, Nat.zero_le _⟩ ?_
          have hbr := blF_rng hV (i := i) (y := y) (by omega) (by omega) (by omega) (by omega)
          have hpr := hV.b (i := i) (y := y) (by omega) (by omega) (by omega) (by omega)
          refine j_max hx hb (hml.trans hl.1.symm) hown lk1 lk2 lk3 lk4 (Nat.le_of_ble_eq_true rfl) (Nat.le_of_ble_eq_true rfl) (Nat.zero_le _) (Nat.zero_le _) (by decide) (by decide) (by omega) (by omega) dX8_billedIn_38 ?_
          refine j_add hx hb dX8_billedIn_41 ?_
          refine lv_istore_n (lv' := [(3, .int (J ((lo (fun x o => if w_ = -1 ∨ V 1 o = w_ then x + max 0 (blF V y o) else x) 0 i) + (max 0 (blF V y i))))), (4, .int (J i)), (0, .ref (a 0)), (1, .int (J w_)), (2, .ref (f 6 y))]) hx hb dX8_billedIn_42 rfl hl (by decide) rfl (fun ls hl => ?_)
          refine lv_iinc (v := J (i + 1)) (lv' := [(4, .int (J (i + 1))), (3, .int (J ((lo (fun x o => if w_ = -1 ∨ V 1 o = w_ then x + max 0 (blF V y o) else x) 0 i) + (max 0 (blF V y i))))), (0, .ref (a 0)), (1, .int (J w_)), (2, .ref (f 6 y))]) hx hb dX8_billedIn_43 hl (k := 1) rfl (J_add _ _) (by decide) rfl (fun ls hl => ?_)
          refine lv_goto (tgt := 5) hx hb dX8_billedIn_46 (by decide) ?_
          exact ih5 (i + 1) (by omega) (by omega) _ (lv_sub hl [0, 1, 2, 3, 4] (by rw [show (lo (fun x o => if w_ = -1 ∨ V 1 o = w_ then x + max 0 (blF V y o) else x) 0 (i + 1) : Int) = (lo (fun x o => if w_ = -1 ∨ V 1 o = w_ then x + max 0 (blF V y o) else x) 0 i) + (max 0 (blF V y i)) from (by rw [lo_s _ _ (by omega)]; (try simp only [ge_iff_le]) <;> (repeat' split) <;> first | rfl | omega | (exfalso; omega) | (exfalso; contradiction) | (exfalso; simp_all))]; try rfl))
  exact lp5 ((V 0 0).toNat + 1) 0 (by omega) (by omega) _ (lv_sub hl [0, 1, 2, 3, 4] (by rw [show (lo (fun x o => if w_ = -1 ∨ V 1 o = w_ then x + max 0 (blF V y o) else x) 0 0 : Int) = 0 from (by rfl)]; try rfl))

abbrev rmX8_paidIn : Room := { frames := 2, cells := 0, slots := 0, locals := 44 }
set_option maxHeartbeats 4000000 in
set_option maxRecDepth 100000 in
theorem c_X8_paidIn (l : Launch) (G : GG) (a : Nat → Nat) (f : Nat → Int → Nat) (L : Int → List EvT) (u : Nat → Int → Int) (V : St) (w_ y : Int) (h_y : 0 ≤ y ∧ y < 10) (g_w_ : -2147483648 ≤ w_ ∧ w_ < 2147483648) : MP l G yX8_paidIn wsX8_paidIn rmX8_paidIn [.ref (a 0), .int (J w_), .ref (f 6 y)] (fun H => RB G H a f L u V) (.int (J (paO V w_ y)) : Value) := by
  refine MP.of (cc := cX8_paidIn) (maxL := 5) (ret := (some .int)) (by decide) rfl (Nat.le_of_ble_eq_true rfl) ?_
  intro p e s m below meth c hx hb hr hml hown hts hlk hK hP ls hl
  have hown : s.vm.findClass RX8 = some m.cls := hown
  have hl : lv_has ls 5 [(0, .ref (a 0)), (1, .int (J w_)), (2, .ref (f 6 y))] := hl
  have inX5_ : ∀ w ∈ u_ws RX5 TX5 2, w ∈ wsX8_paidIn := by decide +kernel
  have inX8_ : ∀ w ∈ u_ws RX8 TX8 4, w ∈ wsX8_paidIn := by decide +kernel
  have lk0 := hts (.fieldLink RX8 12 "RateBook" "town" "LRateBook$Town;") (by decide +kernel)
  have hRB : RB G s.heap a f L u V := hP
  obtain ⟨hV, hX, hT, hE, hLi, hBa, hBk⟩ := id hRB
  obtain ⟨hT1, hT2, hT3, hT4⟩ := id hT
  obtain ⟨hL1, hL2, hL3, hL4, hL5, hL6⟩ := id hLi
  have hn := hV.n
  have hnl := hV.l
  have hbk := hBk y h_y.1 h_y.2
  refine j_const hx hb dX8_paidIn_0 ?_
  refine lv_istore_n (lv' := [(3, .int (J 0)), (0, .ref (a 0)), (1, .int (J w_)), (2, .ref (f 6 y))]) hx hb dX8_paidIn_1 rfl hl (by decide) rfl (fun ls hl => ?_)
  refine j_const hx hb dX8_paidIn_2 ?_
  refine lv_istore (lv' := [(4, .int (J 0)), (3, .int (J 0)), (0, .ref (a 0)), (1, .int (J w_)), (2, .ref (f 6 y))]) hx hb dX8_paidIn_3 hl (by decide) rfl (fun ls hl => ?_)
  have lp5 : ∀ (n : Nat) (i : Int) (i0 : 0 ≤ i ∧ i ≤ V 0 0) (hm : V 0 0 - i < (n : Int)) (ls : Array Slot) (hl : lv_has ls 5 [(4, .int (J i)), (3, .int (J (lo (fun x o => if w_ = -1 ∨ V 1 o = w_ then x + pdF V y o else x) 0 i))), (0, .ref (a 0)), (1, .int (J w_)), (2, .ref (f 6 y))]), W p l e (headSpec wsX8_paidIn rmX8_paidIn).room s m ([.ref (a 0), .int (J w_), .ref (f 6 y)] : List Value).toArray below meth c s.heap [] 0 0 (MQ below (k2_QcV (.int (J (paO V w_ y)) : Value)) ([.ref (a 0), .int (J w_), .ref (f 6 y)] : List Value).toArray s 0 0 (fun _ => False)) (F0 m 5 ls []) := by
    intro n
    induction n with
    | zero =>
      intro i i0 hm ls hl
      exact absurd hm (by omega)
    | succ n ih5 =>
      intro i i0 hm ls hl
      refine lv_iload hx hb dX8_paidIn_5 (lv_at hl 0 rfl) ?_
      refine lv_aload_n hx hb dX8_paidIn_7 rfl (lv_at hl 2 rfl) ?_
      refine j_get (ci := 8) (v := .ref (a 1)) hx hb hts inX8_ hown hK hX rfl 0 (by decide) lk0 (fun _ h9 => h9) rfl dX8_paidIn_8 ?_
      refine j_getN (ci := 5) (v := .int (J (V 0 0))) hx hb hts inX5_ hown hK hT2 rfl 1 (by decide) hK.2.1.2.1 (fun _ h9 => h9) rfl dX8_paidIn_11 ?_
      refine j_cge (tgt := 45) hx hb (by omega) (by omega) (by omega) (by omega) dX8_paidIn_14 (by decide) (fun c14 => ?_) (fun c14 => ?_)
      · refine lv_iload_n hx hb dX8_paidIn_45 rfl (lv_at hl 1 rfl) ?_
        exact r_i hx hb hr hlk (congrArg (fun z => Value.int (J z)) (show (lo (fun x o => if w_ = -1 ∨ V 1 o = w_ then x + pdF V y o else x) 0 i : Int) = paO V w_ y from by rw [show i = V 0 0 by omega]; rfl)) dX8_paidIn_46
      · refine lv_aload_n hx hb dX8_paidIn_17 rfl (lv_at hl 2 rfl) ?_
        refine j_get (ci := 8) (v := .ref (a 1)) hx hb hts inX8_ hown hK hX rfl 0 (by decide) lk0 (fun _ h9 => h9) rfl dX8_paidIn_18 ?_
        refine lv_iload hx hb dX8_paidIn_21 (lv_at hl 0 rfl) ?_
        refine lv_iload_n hx hb dX8_paidIn_23 rfl (lv_at hl 3 rfl) ?_
        refine k_V (ci := 5) (b := a 1) (As := [.int (J i), .int (J w_)]) (rest := []) (v := .int (J (pI ((0 ≤ i ∧ i < V 0 0) ∧ (w_ = -1 ∨ V 1 i = w_))))) hx hb hml hown hts hK hl.1 (c_X5_isIn l G (a 1) (a 2) (f 0) (f 1) V i w_ ((by omega)) ((by omega))) (cwV 2 hts gX8_paidIn_X5_isIn rfl rfl rfl (by decide +kernel) ⟨Nat.le_of_ble_eq_true rfl, Nat.le_of_ble_eq_true rfl⟩) hT2 rfl hT rfl rfl (Nat.le_of_ble_eq_true rfl) dX8_paidIn_24 ⟨Nat.zero_le _, Nat.zero_le _⟩ ?_
        refine j_eqP (tgt := 39) hx hb dX8_paidIn_27 (by decide) (fun c27 => ?_) (fun c27 => ?_)
        · refine lv_iinc (v := J (i + 1)) (lv' := [(4, .int (J (i + 1))), (3, .int (J (lo (fun x o => if w_ = -1 ∨ V 1 o = w_ then x + pdF V y o else x) 0 i))), (0, .ref (a 0)), (1, .int (J w_)), (2, .ref (f 6 y))]) hx hb dX8_paidIn_39 hl (k := 0) rfl (J_add _ _) (by decide) rfl (fun ls hl => ?_)
          refine lv_goto (tgt := 5) hx hb dX8_paidIn_42 (by decide) ?_
          exact ih5 (i + 1) (by omega) (by omega) _ (lv_sub hl [0, 1, 2, 3, 4] (by rw [show (lo (fun x o => if w_ = -1 ∨ V 1 o = w_ then x + pdF V y o else x) 0 (i + 1) : Int) = lo (fun x o => if w_ = -1 ∨ V 1 o = w_ then x + pdF V y o else x) 0 i from (by rw [lo_s _ _ (by omega)]; (try simp only [ge_iff_le]) <;> (repeat' split) <;> first | rfl | omega | (exfalso; omega) | (exfalso; contradiction) | (exfalso; simp_all))]; try rfl))
        · refine lv_iload_n hx hb dX8_paidIn_30 rfl (lv_at hl 1 rfl) ?_
          refine lv_aload_n hx hb dX8_paidIn_31 rfl (lv_at hl 4 rfl) ?_
          refine lv_iload hx hb dX8_paidIn_32 (lv_at hl 0 rfl) ?_
          have ce_1 : At G s.heap (f 6 y) (eO 7 [.ref (f 7 y), .ref (f 8 y), .int (J (V 13 y)), .int (J (V 15 y)), .int (J (V 14 y))]) := (hBk y (by omega) (by omega)).2.1
          refine k_V (ci := 7) (b := f 6 y) (As := [.int (J i)]) (rest := [.int (J (lo (fun x o => if w_ = -1 ∨ V 1 o = w_ then x + pdF V y o else x) 0 i))]) (v := .int (J (pdF V y i))) hx hb hml hown hts hK hl.1 (c_X7_paidBy l G (f 6) (f 7) (f 8) V y i ((by omega))) (cwV 1 hts gX8_paidIn_X7_paidBy rfl rfl rfl (by decide +kernel) ⟨Nat.le_of_ble_eq_true rfl, Nat.le_of_ble_eq_true rfl⟩) ce_1 rfl hbk rfl rfl (Nat.le_of_ble_eq_true rfl) dX8_paidIn_34 ⟨Nat.zero_le _, Nat.zero_le _⟩ ?_
          refine j_add hx hb dX8_paidIn_37 ?_
          refine lv_istore_n (lv' := [(3, .int (J ((lo (fun x o => if w_ = -1 ∨ V 1 o = w_ then x + pdF V y o else x) 0 i) + (pdF V y i)))), (4, .int (J i)), (0, .ref (a 0)), (1, .int (J w_)), (2, .ref (f 6 y))]) hx hb dX8_paidIn_38 rfl hl (by decide) rfl (fun ls hl => ?_)
          refine lv_iinc (v := J (i + 1)) (lv' := [(4, .int (J (i + 1))), (3, .int (J ((lo (fun x o => if w_ = -1 ∨ V 1 o = w_ then x + pdF V y o else x) 0 i) + (pdF V y i)))), (0, .ref (a 0)), (1, .int (J w_)), (2, .ref (f 6 y))]) hx hb dX8_paidIn_39 hl (k := 1) rfl (J_add _ _) (by decide) rfl (fun ls hl => ?_)
          refine lv_goto (tgt := 5) hx hb dX8_paidIn_42 (by decide) ?_
          exact ih5 (i + 1) (by omega) (by omega) _ (lv_sub hl [0, 1, 2, 3, 4] (by rw [show (lo (fun x o => if w_ = -1 ∨ V 1 o = w_ then x + pdF V y o else x) 0 (i + 1) : Int) = (lo (fun x o => if w_ = -1 ∨ V 1 o = w_ then x + pdF V y o else x) 0 i) + (pdF V y i) from (by rw [lo_s _ _ (by omega)]; (try simp only [ge_iff_le]) <;> (repeat' split) <;> first | rfl | omega | (exfalso; omega) | (exfalso; contradiction) | (exfalso; simp_all))]; try rfl))
  exact lp5 ((V 0 0).toNat + 1) 0 (by omega) (by omega) _ (lv_sub hl [0, 1, 2, 3, 4] (by rw [show (lo (fun x o => if w_ = -1 ∨ V 1 o = w_ then x + pdF V y o else x) 0 0 : Int) = 0 from (by rfl)]; try rfl))

abbrev rmX8_struckYears : Room := { frames := 0, cells := 0, slots := 0, locals := 0 }
set_option maxHeartbeats 4000000 in
set_option maxRecDepth 100000 in
theorem c_X8_struckYears (l : Launch) (G : GG) (a : Nat → Nat) (f : Nat → Int → Nat) (L : Int → List EvT) (u : Nat → Int → Int) (V : St) : MP l G yX8_struckYears wsX8_struckYears rmX8_struckYears [.ref (a 0)] (fun H => RB G H a f L u V) (.int (J (syO V)) : Value) := by
  refine MP.of (cc := cX8_struckYears) (maxL := 4) (ret := (some .int)) (by decide) rfl (Nat.le_of_ble_eq_true rfl) ?_
  intro p e s m below meth c hx hb hr hml hown hts hlk hK hP ls hl
  have hown : s.vm.findClass RX8 = some m.cls := hown
  have hl : lv_has ls 4 [(0, .ref (a 0))] := hl
  have inX7_ : ∀ w ∈ u_ws RX7 TX7 5, w ∈ wsX8_struckYears := by decide +kernel
  have inX8_ : ∀ w ∈ u_ws RX8 TX8 4, w ∈ wsX8_struckYears := by decide +kernel
  have lk0 := hts (.fieldLink RX8 29 "RateBook" "books" "[LRateBook$YearBook;") (by decide +kernel)
  have lk1 := hts (.fieldLink RX8 170 "RateBook$YearBook" "isStruck" "Z") (by decide +kernel)
  have hRB : RB G s.heap a f L u V := hP
  obtain ⟨hV, hX, hT, hE, hLi, hBa, hBk⟩ := id hRB
  obtain ⟨hT1, hT2, hT3, hT4⟩ := id hT
  obtain ⟨hL1, hL2, hL3, hL4, hL5, hL6⟩ := id hLi
  have hn := hV.n
  have hnl := hV.l
  refine j_const hx hb dX8_struckYears_0 ?_
  refine lv_istore_n (lv' := [(1, .int (J 0)), (0, .ref (a 0))]) hx hb dX8_struckYears_1 rfl hl (by decide) rfl (fun ls hl => ?_)
  refine j_const hx hb dX8_struckYears_2 ?_
  refine lv_istore_n (lv' := [(2, .int (J 0)), (1, .int (J 0)), (0, .ref (a 0))]) hx hb dX8_struckYears_3 rfl hl (by decide) rfl (fun ls hl => ?_)
  have lp4 : ∀ (n : Nat) (i : Int) (i0 : 0 ≤ i ∧ i ≤ 10) (hm : 10 - i < (n : Int)) (ls : Array Slot) (hl : lv_has ls 4 [(2, .int (J i)), (1, .int (J (lo (fun x o => if V 13 o ≠ 0 then x + 1 else x) 0 i))), (0, .ref (a 0))]), W p l e (headSpec wsX8_struckYears rmX8_struckYears).room s m ([.ref (a 0)] : List Value).toArray below meth c s.heap [] 0 0 (MQ below (k2_QcV (.int (J (syO V)) : Value)) ([.ref (a 0)] : List Value).toArray s 0 0 (fun _ => False)) (F0 m 4 ls []) := by
    intro n
    induction n with
    | zero =>
      intro i i0 hm ls hl
      exact absurd hm (by omega)
    | succ n ih4 =>
      intro i i0 hm ls hl
      refine lv_iload_n hx hb dX8_struckYears_4 rfl (lv_at hl 0 rfl) ?_
      refine lv_aload_n hx hb dX8_struckYears_5 rfl (lv_at hl 2 rfl) ?_
      refine j_get (ci := 8) (v := .ref (a 5)) hx hb hts inX8_ hown hK hX rfl 2 (by decide) lk0 (fun _ h9 => h9) rfl dX8_struckYears_6 ?_
      refine j_alQ (C := RX7) hx hb hK hBa rfl dX8_struckYears_9 ?_
      refine j_re (y := 10) rfl ?_
      refine j_cge (tgt := 40) hx hb (by omega) (by omega) (by decide) (by decide) dX8_struckYears_10 (by decide) (fun c10 => ?_) (fun c10 => ?_)
      · refine lv_iload_n hx hb dX8_struckYears_40 rfl (lv_at hl 1 rfl) ?_
        exact r_i hx hb hr hlk (congrArg (fun z => Value.int (J z)) (show (lo (fun x o => if V 13 o ≠ 0 then x + 1 else x) 0 i : Int) = syO V from by rw [show i = 10 by omega]; rfl)) dX8_struckYears_41
      · refine lv_aload_n hx hb dX8_struckYears_13 rfl (lv_at hl 2 rfl) ?_
        refine j_get (ci := 8) (v := .ref (a 5)) hx hb hts inX8_ hown hK hX rfl 2 (by decide) lk0 (fun _ h9 => h9) rfl dX8_struckYears_14 ?_
        refine lv_iload_n hx hb dX8_struckYears_17 rfl (lv_at hl 0 rfl) ?_
        refine j_aald (C := RX7) hx hb hK hBa rfl (by omega) (by omega) (by decide) dX8_struckYears_18 ?_
        refine j_qs (b := f 6 i) rfl ?_
        refine lv_astore_n (lv' := [(3, .ref (f 6 i)), (2, .int (J i)), (1, .int (J (lo (fun x o => if V 13 o ≠ 0 then x + 1 else x) 0 i))), (0, .ref (a 0))]) hx hb dX8_struckYears_19 rfl hl (by decide) rfl (fun ls hl => ?_)
        have hyr := hV.y (y := i) (by omega) (by omega)
        refine lv_aload_n hx hb dX8_struckYears_20 rfl (lv_at hl 0 rfl) ?_
        refine lv_ifnull hx hb dX8_struckYears_21 ?_
        refine lv_aload_n hx hb dX8_struckYears_24 rfl (lv_at hl 0 rfl) ?_
        have ce_1 : At G s.heap (f 6 i) (eO 7 [.ref (f 7 i), .ref (f 8 i), .int (J (V 13 i)), .int (J (V 15 i)), .int (J (V 14 i))]) := (hBk i (by omega) (by omega)).2.1
        refine j_get (ci := 7) (v := .int (J (V 13 i))) hx hb hts inX7_ hown hK ce_1 rfl 2 (by decide) lk1 (fun _ h9 => h9) rfl dX8_struckYears_25 ?_
        refine j_eq0 (tgt := 34) hx hb (by omega) (by omega) dX8_struckYears_28 (by decide) (fun c28 => ?_) (fun c28 => ?_)
        · refine lv_iinc (v := J (i + 1)) (lv' := [(2, .int (J (i + 1))), (3, .ref (f 6 i)), (1, .int (J (lo (fun x o => if V 13 o ≠ 0 then x + 1 else x) 0 i))), (0, .ref (a 0))]) hx hb dX8_struckYears_34 hl (k := 1) rfl (J_add _ _) (by decide) rfl (fun ls hl => ?_)
          refine lv_goto (tgt := 4) hx hb dX8_struckYears_37 (by decide) ?_
          exact ih4 (i + 1) (by omega) (by omega) _ (lv_sub hl [0, 2, 3] (by rw [show (lo (fun x o => if V 13 o ≠ 0 then x + 1 else x) 0 (i + 1) : Int) = lo (fun x o => if V 13 o ≠ 0 then x + 1 else x) 0 i from (by rw [lo_s _ _ (by omega)]; (try simp only [ge_iff_le]) <;> (repeat' split) <;> first | rfl | omega | (exfalso; omega) | (exfalso; contradiction) | (exfalso; simp_all))]; try rfl))
        · refine lv_iinc (v := J ((lo (fun x o => if V 13 o ≠ 0 then x + 1 else x) 0 i) + 1)) (lv' := [(1, .int (J ((lo (fun x o => if V 13 o ≠ 0 then x + 1 else x) 0 i) + 1))), (3, .ref (f 6 i)), (2, .int (J i)), (0, .ref (a 0))]) hx hb dX8_struckYears_31 hl (k := 2) rfl (J_add _ _) (by decide) rfl (fun ls hl => ?_)
          refine lv_iinc (v := J (i + 1)) (lv' := [(2, .int (J (i + 1))), (1, .int (J ((lo (fun x o => if V 13 o ≠ 0 then x + 1 else x) 0 i) + 1))), (3, .ref (f 6 i)), (0, .ref (a 0))]) hx hb dX8_struckYears_34 hl (k := 2) rfl (J_add _ _) (by decide) rfl (fun ls hl => ?_)
          refine lv_goto (tgt := 4) hx hb dX8_struckYears_37 (by decide) ?_
          exact ih4 (i + 1) (by omega) (by omega) _ (lv_sub hl [0, 1, 3] (by rw [show (lo (fun x o => if V 13 o ≠ 0 then x + 1 else x) 0 (i + 1) : Int) = (lo (fun x o => if V 13 o ≠ 0 then x + 1 else x) 0 i) + 1 from (by rw [lo_s _ _ (by omega)]; (try simp only [ge_iff_le]) <;> (repeat' split) <;> first | rfl | omega | (exfalso; omega) | (exfalso; contradiction) | (exfalso; simp_all))]; try rfl))
  exact lp4 11 0 (by omega) (by omega) _ (lv_sub hl [0, 1, 2] (by rw [show (lo (fun x o => if V 13 o ≠ 0 then x + 1 else x) 0 0 : Int) = 0 from (by rfl)]; try rfl))

abbrev rmX8_owed : Room := { frames := 2, cells := 0, slots := 0, locals := 44 }
set_option maxHeartbeats 4000000 in
set_option maxRecDepth 100000 in
theorem c_X8_owed (l : Launch) (G : GG) (a : Nat → Nat) (f : Nat → Int → Nat) (L : Int → List EvT) (u : Nat → Int → Int) (V : St) (h w_ : Int) (g_h : -2147483648 ≤ h ∧ h < 2147483648) (g_w_ : -2147483648 ≤ w_ ∧ w_ < 2147483648) : MP l G yX8_owed wsX8_owed rmX8_owed [.ref (a 0), .int (J h), .int (J w_)] (fun H => RB G H a f L u V) (.int (J (if (0 ≤ h ∧ h < V 0 0) ∧ 0 ≤ w_ ∧ w_ < 2 then owO V h w_ else -1)) : Value) := by
  refine MP.of (cc := cX8_owed) (maxL := 6) (ret := (some .int)) (by decide) rfl (Nat.le_of_ble_eq_true rfl) ?_
  intro p e s m below meth c hx hb hr hml hown hts hlk hK hP ls hl
  have hown : s.vm.findClass RX8 = some m.cls := hown
  have hl : lv_has ls 6 [(0, .ref (a 0)), (1, .int (J h)), (2, .int (J w_))] := hl
  have inX8_ : ∀ w ∈ u_ws RX8 TX8 4, w ∈ wsX8_owed := by decide +kernel
  have lk0 := hts (.fieldLink RX8 12 "RateBook" "town" "LRateBook$Town;") (by decide +kernel)
  have lk1 := hts (.methodLink RX8 199 Lib.Math.max.name) (by decide +kernel)
  have lk2 := hts (.static Lib.Math.max.name) (by decide +kernel)
  have lk3 := hts (.initialized "java/lang/Math") (by decide +kernel)
  have lk4 := hts (.code Lib.Math.max.name Lib.Math.max.code 2 (some .int)) (by decide +kernel)
  have hRB : RB G s.heap a f L u V := hP
  obtain ⟨hV, hX, hT, hE, hLi, hBa, hBk⟩ := id hRB
  obtain ⟨hT1, hT2, hT3, hT4⟩ := id hT
  obtain ⟨hL1, hL2, hL3, hL4, hL5, hL6⟩ := id hLi
  have hn := hV.n
  have hnl := hV.l
  refine lv_aload_n hx hb dX8_owed_0 rfl (lv_at hl 0 rfl) ?_
  refine j_get (ci := 8) (v := .ref (a 1)) hx hb hts inX8_ hown hK hX rfl 0 (by decide) lk0 (fun _ h9 => h9) rfl dX8_owed_1 ?_
  refine lv_iload_n hx hb dX8_owed_4 rfl (lv_at hl 1 rfl) ?_
  refine k_V (ci := 5) (b := a 1) (As := [.int (J h)]) (rest := []) (v := va_rf (qN (V 0 0) (f 0) h)) hx hb hml hown hts hK hl.1 (c_X5_at l G (a 1) (a 2) (f 0) (f 1) V h ((by omega))) (cwV 1 hts gX8_owed_X5_at rfl rfl rfl (by decide +kernel) ⟨Nat.le_of_ble_eq_true rfl, Nat.le_of_ble_eq_true rfl⟩) hT2 rfl hT rfl rfl (Nat.le_of_ble_eq_true rfl) dX8_owed_5 ⟨Nat.zero_le _, Nat.zero_le _⟩ ?_
  by_cases sp5 : 0 ≤ h ∧ h < V 0 0
  · refine j_qs (b := f 0 h) (qN_s sp5) ?_
    have hce_1 : At G s.heap (f 0 h) (eHo V (f 1) h) := hT4 h sp5.1 sp5.2
    have hih_2 := hT1.h sp5.1 sp5.2
    refine lv_ifnull hx hb dX8_owed_8 ?_
    refine lv_iload_n hx hb dX8_owed_11 rfl (lv_at hl 2 rfl) ?_
    refine j_const hx hb dX8_owed_12 ?_
    refine k_S (As := [.int (J w_), .int (J 2)]) (rest := []) (v := .int (J (pI (0 ≤ w_ ∧ w_ < 2)))) hx hb hml hown hts hK hl.1 (c_X8_isOf l G w_ 2 ((by omega)) ((by omega))) (va_cwS 2 hts gX8_owed_X8_isOf rfl rfl rfl (by decide +kernel) ⟨Nat.le_of_ble_eq_true rfl, Nat.le_of_ble_eq_true rfl⟩) trivial rfl rfl (Nat.le_of_ble_eq_true rfl) dX8_owed_13 ⟨Nat.zero_le _, Nat.zero_le _⟩ ?_
    refine j_neP (tgt := 21) hx hb dX8_owed_16 (by decide) (fun c16 => ?_) (fun c16 => ?_)
    · refine j_const hx hb dX8_owed_21 ?_
      refine lv_istore_n (lv' := [(3, .int (J 0)), (0, .ref (a 0)), (1, .int (J h)), (2, .int (J w_))]) hx hb dX8_owed_22 rfl hl (by decide) rfl (fun ls hl => ?_)
      refine j_const hx hb dX8_owed_23 ?_
      refine lv_istore (lv' := [(4, .int (J 0)), (3, .int (J 0)), (0, .ref (a 0)), (1, .int (J h)), (2, .int (J w_))]) hx hb dX8_owed_24 hl (by decide) rfl (fun ls hl => ?_)
      have lp26 : ∀ (n : Nat) (i : Int) (i0 : 0 ≤ i ∧ i ≤ 10) (hm : 10 - i < (n : Int)) (ls : Array Slot) (hl : lv_has ls 6 [(4, .int (J i)), (3, .int (J (lo (fun x o => x + max 0 (if w_ = 0 then opO V h o else -opO V h o)) 0 i))), (0, .ref (a 0)), (1, .int (J h)), (2, .int (J w_))]), W p l e (headSpec wsX8_owed rmX8_owed).room s m ([.ref (a 0), .int (J h), .int (J w_)] : List Value).toArray below meth c s.heap [] 0 0 (MQ below (k2_QcV (.int (J (if (0 ≤ h ∧ h < V 0 0) ∧ 0 ≤ w_ ∧ w_ < 2 then owO V h w_ else -1)) : Value)) ([.ref (a 0), .int (J h), .int (J w_)] : List Value).toArray s 0 0 (fun _ => False)) (F0 m 26 ls []) := by
        intro n
        induction n with
        | zero =>
          intro i i0 hm ls hl
          exact absurd hm (by omega)
        | succ n ih26 =>
          intro i i0 hm ls hl
          refine lv_iload hx hb dX8_owed_26 (lv_at hl 0 rfl) ?_
          refine j_bi hx hb dX8_owed_28 (by decide +kernel) ?_
          refine j_cge (tgt := 67) hx hb (by omega) (by omega) (by decide) (by decide) dX8_owed_30 (by decide) (fun c30 => ?_) (fun c30 => ?_)
          · refine lv_iload_n hx hb dX8_owed_67 rfl (lv_at hl 1 rfl) ?_
            exact r_i hx hb hr hlk (congrArg (fun z => Value.int (J z)) (show (lo (fun x o => x + max 0 (if w_ = 0 then opO V h o else -opO V h o)) 0 i : Int) = if (0 ≤ h ∧ h < V 0 0) ∧ 0 ≤ w_ ∧ w_ < 2 then owO V h w_ else -1 from by rw [if_pos (by omega), show i = 10 by omega]; rfl)) dX8_owed_68
          · refine lv_aload_n hx hb dX8_owed_33 rfl (lv_at hl 2 rfl) ?_
            refine lv_iload_n hx hb dX8_owed_34 rfl (lv_at hl 3 rfl) ?_
            refine lv_iload hx hb dX8_owed_35 (lv_at hl 0 rfl) ?_
            refine k_V (ci := 8) (b := a 0) (As := [.int (J h), .int (J i)]) (rest := []) (v := .int (J (if 0 ≤ i ∧ i < 10 then opO V h i else 0))) hx hb hml hown hts hK hl.1 (c_X8_openOf l G a f L u V h i ((by omega)) ((by omega))) (cwV 2 hts gX8_owed_X8_openOf rfl rfl rfl (by decide +kernel) ⟨Nat.le_of_ble_eq_true rfl, Nat.le_of_ble_eq_true rfl⟩) hX rfl hRB rfl rfl (Nat.le_of_ble_eq_true rfl) dX8_owed_37 ⟨Nat.zero_le _, Nat.zero_le _⟩ ?_
            have hbr := blF_rng hV (i := h) (y := i) (by omega) (by omega) (by omega) (by omega)
            have hpr := hV.b (i := h) (y := i) (by omega) (by omega) (by omega) (by omega)
            have hor : -200000000 ≤ opO V h i ∧ opO V h i ≤ 200000000 := by unfold opO pdF; split <;> omega
            refine j_re (y := opO V h i) (if_pos (by omega)) ?_
            refine lv_istore (lv' := [(5, .int (J (opO V h i))), (4, .int (J i)), (3, .int (J (lo (fun x o => x + max 0 (if w_ = 0 then opO V h o else -opO V h o)) 0 i))), (0, .ref (a 0)), (1, .int (J h)), (2, .int (J w_))]) hx hb dX8_owed_40 hl (by decide) rfl (fun ls hl => ?_)
            refine lv_iload_n hx hb dX8_owed_42 rfl (lv_at hl 2 rfl) ?_
            refine j_const hx hb dX8_owed_43 ?_
            refine lv_iload_n hx hb dX8_owed_44 rfl (lv_at hl 5 rfl) ?_
            refine j_ne0 (tgt := 53) hx hb (by omega) (by omega) dX8_owed_45 (by decide) (fun c45 => ?_) (fun c45 => ?_)
            · refine lv_iload hx hb dX8_owed_53 (lv_at hl 0 rfl) ?_
              refine j_neg hx hb dX8_owed_55 ?_
              refine j_max hx hb (hml.trans hl.1.symm) hown lk1 lk2 lk3 lk4 (Nat.le_of_ble_eq_true rfl) (Nat.le_of_ble_eq_true rfl) (Nat.zero_le _) (Nat.zero_le _) (by decide) (by decide) (by omega) (by omega) dX8_owed_56 ?_
              refine j_add hx hb dX8_owed_59 ?_
              refine lv_istore_n (lv' := [(3, .int (J ((lo (fun x o => x + max 0 (if w_ = 0 then opO V h o else -opO V h o)) 0 i) + (max 0 (-(opO V h i)))))), (5, .int (J (opO V h i))), (4, .int (J i)), (0, .ref (a 0)), (1, .int (J h)), (2, .int (J w_))]) hx hb dX8_owed_60 rfl hl (by decide) rfl (fun ls hl => ?_)
              refine lv_iinc (v := J (i + 1)) (lv' := [(4, .int (J (i + 1))), (3, .int (J ((lo (fun x o => x + max 0 (if w_ = 0 then opO V h o else -opO V h o)) 0 i) + (max 0 (-(opO V h i)))))), (5, .int (J (opO V h i))), (0, .ref (a 0)), (1, .int (J h)), (2, .int (J w_))]) hx hb dX8_owed_61 hl (k := 2) rfl (J_add _ _) (by decide) rfl (fun ls hl => ?_)
              refine lv_goto (tgt := 26) hx hb dX8_owed_64 (by decide) ?_
              exact ih26 (i + 1) (by omega) (by omega) _ (lv_sub hl [0, 1, 3, 4, 5] (by rw [show (lo (fun x o => x + max 0 (if w_ = 0 then opO V h o else -opO V h o)) 0 (i + 1) : Int) = (lo (fun x o => x + max 0 (if w_ = 0 then opO V h o else -opO V h o)) 0 i) + (max 0 (-(opO V h i))) from (by rw [lo_s _ _ (by omega)]; (try simp only [ge_iff_le]) <;> (repeat' split) <;> first | rfl | omega | (exfalso; omega) | (exfalso; contradiction) | (exfalso; simp_all))]; try rfl))
            · refine lv_iload hx hb dX8_owed_48 (lv_at hl 0 rfl) ?_
              refine lv_goto (tgt := 56) hx hb dX8_owed_50 (by decide) ?_
              refine j_max hx hb (hml.trans hl.1.symm) hown lk1 lk2 lk3 lk4 (Nat.le_of_ble_eq_true rfl) (Nat.le_of_ble_eq_true rfl) (Nat.zero_le _) (Nat.zero_le _) (by decide) (by decide) (by omega) (by omega) dX8_owed_56 ?_
              refine j_add hx hb dX8_owed_59 ?_
              refine lv_istore_n (lv' := [(3, .int (J ((lo (fun x o => x + max 0 (if w_ = 0 then opO V h o else -opO V h o)) 0 i) + (max 0 (opO V h i))))), (5, .int (J (opO V h i))), (4, .int (J i)), (0, .ref (a 0)), (1, .int (J h)), (2, .int (J w_))]) hx hb dX8_owed_60 rfl hl (by decide) rfl (fun ls hl => ?_)
              refine lv_iinc (v := J (i + 1)) (lv' := [(4, .int (J (i + 1))), (3, .int (J ((lo (fun x o => x + max 0 (if w_ = 0 then opO V h o else -opO V h o)) 0 i) + (max 0 (opO V h i))))), (5, .int (J (opO V h i))), (0, .ref (a 0)), (1, .int (J h)), (2, .int (J w_))]) hx hb dX8_owed_61 hl (k := 2) rfl (J_add _ _) (by decide) rfl (fun ls hl => ?_)
              refine lv_goto (tgt := 26) hx hb dX8_owed_64 (by decide) ?_
              exact ih26 (i + 1) (by omega) (by omega) _ (lv_sub hl [0, 1, 3, 4, 5] (by rw [show (lo (fun x o => x + max 0 (if w_ = 0 then opO V h o else -opO V h o)) 0 (i + 1) : Int) = (lo (fun x o => x + max 0 (if w_ = 0 then opO V h o else -opO V h o)) 0 i) + (max 0 (opO V h i)) from (by rw [lo_s _ _ (by omega)]; (try simp only [ge_iff_le]) <;> (repeat' split) <;> first | rfl | omega | (exfalso; omega) | (exfalso; contradiction) | (exfalso; simp_all))]; try rfl))
      exact lp26 11 0 (by omega) (by omega) _ (lv_sub hl [0, 1, 2, 3, 4] (by rw [show (lo (fun x o => x + max 0 (if w_ = 0 then opO V h o else -opO V h o)) 0 0 : Int) = 0 from (by rfl)]; try rfl))
    · refine j_const hx hb dX8_owed_19 ?_
      exact r_i hx hb hr hlk (congrArg (fun z => Value.int (J z)) (show ((-1) : Int) = if (0 ≤ h ∧ h < V 0 0) ∧ 0 ≤ w_ ∧ w_ < 2 then owO V h w_ else -1 from by rw [if_neg (by omega)])) dX8_owed_20
  · refine j_qn (qN_n sp5) ?_
    refine lv_ifnullN (tgt := 19) hx hb dX8_owed_8 (by decide) ?_
    refine j_const hx hb dX8_owed_19 ?_
    exact r_i hx hb hr hlk (congrArg (fun z => Value.int (J z)) (show ((-1) : Int) = if (0 ≤ h ∧ h < V 0 0) ∧ 0 ≤ w_ ∧ w_ < 2 then owO V h w_ else -1 from by rw [if_neg (by omega)])) dX8_owed_20

abbrev rmX8_ward : Room := { frames := 3, cells := 0, slots := 0, locals := 68 }
set_option maxHeartbeats 4000000 in
set_option maxRecDepth 100000 in
theorem c_X8_ward (l : Launch) (G : GG) (a : Nat → Nat) (f : Nat → Int → Nat) (L : Int → List EvT) (u : Nat → Int → Int) (V : St) (w_ y k : Int) (g_w_ : -2147483648 ≤ w_ ∧ w_ < 2147483648) (g_y : -2147483648 ≤ y ∧ y < 2147483648) (g_k : -2147483648 ≤ k ∧ k < 2147483648) : MP l G yX8_ward wsX8_ward rmX8_ward [.ref (a 0), .int (J w_), .int (J y), .int (J k)] (fun H => RB G H a f L u V) (.int (J (if (-1 ≤ w_ ∧ w_ ≤ 3) ∧ (0 ≤ y ∧ y < 10) ∧ 0 ≤ k ∧ k < 4 then (if V 13 y = 0 then -2 else if k = 0 then biO V w_ y else if k = 1 then paO V w_ y else if k = 2 then V 14 y else V 15 y) else -1)) : Value) := by
  refine MP.of (cc := cX8_ward) (maxL := 5) (ret := (some .int)) (by decide) rfl (Nat.le_of_ble_eq_true rfl) ?_
  intro p e s m below meth c hx hb hr hml hown hts hlk hK hP ls hl
  have hown : s.vm.findClass RX8 = some m.cls := hown
  have hl : lv_has ls 5 [(0, .ref (a 0)), (1, .int (J w_)), (2, .int (J y)), (3, .int (J k))] := hl
  have inX7_ : ∀ w ∈ u_ws RX7 TX7 5, w ∈ wsX8_ward := by decide +kernel
  have lk0 := hts (.fieldLink RX8 170 "RateBook$YearBook" "isStruck" "Z") (by decide +kernel)
  have lk1 := hts (.fieldLink RX8 177 "RateBook$YearBook" "thousandths" "I") (by decide +kernel)
  have lk2 := hts (.fieldLink RX8 174 "RateBook$YearBook" "needs" "I") (by decide +kernel)
  have hRB : RB G s.heap a f L u V := hP
  obtain ⟨hV, hX, hT, hE, hLi, hBa, hBk⟩ := id hRB
  obtain ⟨hT1, hT2, hT3, hT4⟩ := id hT
  obtain ⟨hL1, hL2, hL3, hL4, hL5, hL6⟩ := id hLi
  have hn := hV.n
  have hnl := hV.l
  refine lv_aload_n hx hb dX8_ward_0 rfl (lv_at hl 0 rfl) ?_
  refine lv_iload_n hx hb dX8_ward_1 rfl (lv_at hl 2 rfl) ?_
  refine k_V (ci := 8) (b := a 0) (As := [.int (J y)]) (rest := []) (v := va_rf (qN 10 (f 6) y)) hx hb hml hown hts hK hl.1 (c_X8_bookOf l G a f L u V y ((by omega))) (cwV 1 hts gX8_ward_X8_bookOf rfl rfl rfl (by decide +kernel) ⟨Nat.le_of_ble_eq_true rfl, Nat.le_of_ble_eq_true rfl⟩) hX rfl hRB rfl rfl (Nat.le_of_ble_eq_true rfl) dX8_ward_2 ⟨Nat.zero_le _, Nat.zero_le _⟩ ?_
  by_cases sp2 : 0 ≤ y ∧ y < 10
  · refine j_qs (b := f 6 y) (qN_s sp2) ?_
    have hbk := hBk y sp2.1 sp2.2
    have hyr := hV.y sp2.1 sp2.2
    refine lv_astore (lv' := [(4, .ref (f 6 y)), (0, .ref (a 0)), (1, .int (J w_)), (2, .int (J y)), (3, .int (J k))]) hx hb dX8_ward_5 hl (by decide) rfl (fun ls hl => ?_)
    refine lv_iload_n hx hb dX8_ward_7 rfl (lv_at hl 2 rfl) ?_
    refine j_const hx hb dX8_ward_8 ?_
    refine j_const hx hb dX8_ward_9 ?_
    refine k_S (As := [.int (J w_), .int (J ((-1))), .int (J 3)]) (rest := []) (v := .int (J (pI (((-1)) ≤ w_ ∧ w_ ≤ 3)))) hx hb hml hown hts hK hl.1 (c_X8_isWithin l G w_ ((-1)) 3 ((by omega)) ((by omega)) ((by omega))) (va_cwS 3 hts gX8_ward_X8_isWithin rfl rfl rfl (by decide +kernel) ⟨Nat.le_of_ble_eq_true rfl, Nat.le_of_ble_eq_true rfl⟩) trivial rfl rfl (Nat.le_of_ble_eq_true rfl) dX8_ward_10 ⟨Nat.zero_le _, Nat.zero_le _⟩ ?_
    refine j_eqP (tgt := 29) hx hb dX8_ward_13 (by decide) (fun c13 => ?_) (fun c13 => ?_)
    · refine j_const hx hb dX8_ward_29 ?_
      exact r_i hx hb hr hlk (congrArg (fun z => Value.int (J z)) (show ((-1) : Int) = if (-1 ≤ w_ ∧ w_ ≤ 3) ∧ (0 ≤ y ∧ y < 10) ∧ 0 ≤ k ∧ k < 4 then (if V 13 y = 0 then -2 else if k = 0 then biO V w_ y else if k = 1 then paO V w_ y else if k = 2 then V 14 y else V 15 y) else -1 from by rw [if_neg (by omega)])) dX8_ward_30
    · refine lv_aload hx hb dX8_ward_16 (lv_at hl 0 rfl) ?_
      refine lv_ifnull hx hb dX8_ward_18 ?_
      refine lv_iload_n hx hb dX8_ward_21 rfl (lv_at hl 4 rfl) ?_
      refine j_const hx hb dX8_ward_22 ?_
      refine k_S (As := [.int (J k), .int (J 4)]) (rest := []) (v := .int (J (pI (0 ≤ k ∧ k < 4)))) hx hb hml hown hts hK hl.1 (c_X8_isOf l G k 4 ((by omega)) ((by omega))) (va_cwS 2 hts gX8_ward_X8_isOf rfl rfl rfl (by decide +kernel) ⟨Nat.le_of_ble_eq_true rfl, Nat.le_of_ble_eq_true rfl⟩) trivial rfl rfl (Nat.le_of_ble_eq_true rfl) dX8_ward_23 ⟨Nat.zero_le _, Nat.zero_le _⟩ ?_
      refine j_neP (tgt := 31) hx hb dX8_ward_26 (by decide) (fun c26 => ?_) (fun c26 => ?_)
      · refine lv_aload hx hb dX8_ward_31 (lv_at hl 0 rfl) ?_
        have ce_1 : At G s.heap (f 6 y) (eO 7 [.ref (f 7 y), .ref (f 8 y), .int (J (V 13 y)), .int (J (V 15 y)), .int (J (V 14 y))]) := (hBk y (by omega) (by omega)).2.1
        refine j_get (ci := 7) (v := .int (J (V 13 y))) hx hb hts inX7_ hown hK ce_1 rfl 2 (by decide) lk0 (fun _ h9 => h9) rfl dX8_ward_33 ?_
        refine j_ne0 (tgt := 42) hx hb (by omega) (by omega) dX8_ward_36 (by decide) (fun c36 => ?_) (fun c36 => ?_)
        · refine lv_iload_n hx hb dX8_ward_42 rfl (lv_at hl 4 rfl) ?_
          rcases (show k = 0 ∨ k = 1 ∨ k = 2 ∨ (k < 0 ∨ 2 < k) by omega) with c43 | c43 | c43 | c43
          · refine j_tabIn (tgt := 68) hx hb 0 c43 (by decide) (by decide) dX8_ward_43 (by decide) (by decide) rfl (by decide) ?_
            refine lv_aload_n hx hb dX8_ward_68 rfl (lv_at hl 1 rfl) ?_
            refine lv_iload_n hx hb dX8_ward_69 rfl (lv_at hl 2 rfl) ?_
            refine lv_aload hx hb dX8_ward_70 (lv_at hl 0 rfl) ?_
            refine k_V (ci := 8) (b := a 0) (As := [.int (J w_), .ref (f 6 y)]) (rest := []) (v := .int (J (biO V w_ y))) hx hb hml hown hts hK hl.1 (c_X8_billedIn l G a f L u V w_ y ((by omega)) ((by omega))) (cwV 2 hts gX8_ward_X8_billedIn rfl rfl rfl (by decide +kernel) ⟨Nat.le_of_ble_eq_true rfl, Nat.le_of_ble_eq_true rfl⟩) hX rfl hRB rfl rfl (Nat.le_of_ble_eq_true rfl) dX8_ward_72 ⟨Nat.zero_le _, Nat.zero_le _⟩ ?_
            exact r_i hx hb hr hlk (congrArg (fun z => Value.int (J z)) (show (biO V w_ y : Int) = if (-1 ≤ w_ ∧ w_ ≤ 3) ∧ (0 ≤ y ∧ y < 10) ∧ 0 ≤ k ∧ k < 4 then (if V 13 y = 0 then -2 else if k = 0 then biO V w_ y else if k = 1 then paO V w_ y else if k = 2 then V 14 y else V 15 y) else -1 from by rw [if_pos (by omega), if_neg (by omega)]; rw [if_pos (by omega)])) dX8_ward_75
          · refine j_tabIn (tgt := 76) hx hb 1 c43 (by decide) (by decide) dX8_ward_43 (by decide) (by decide) rfl (by decide) ?_
            refine lv_aload_n hx hb dX8_ward_76 rfl (lv_at hl 1 rfl) ?_
            refine lv_iload_n hx hb dX8_ward_77 rfl (lv_at hl 2 rfl) ?_
            refine lv_aload hx hb dX8_ward_78 (lv_at hl 0 rfl) ?_
            refine k_V (ci := 8) (b := a 0) (As := [.int (J w_), .ref (f 6 y)]) (rest := []) (v := .int (J (paO V w_ y))) hx hb hml hown hts hK hl.1 (c_X8_paidIn l G a f L u V w_ y ((by omega)) ((by omega))) (cwV 2 hts gX8_ward_X8_paidIn rfl rfl rfl (by decide +kernel) ⟨Nat.le_of_ble_eq_true rfl, Nat.le_of_ble_eq_true rfl⟩) hX rfl hRB rfl rfl (Nat.le_of_ble_eq_true rfl) dX8_ward_80 ⟨Nat.zero_le _, Nat.zero_le _⟩ ?_
            exact r_i hx hb hr hlk (congrArg (fun z => Value.int (J z)) (show (paO V w_ y : Int) = if (-1 ≤ w_ ∧ w_ ≤ 3) ∧ (0 ≤ y ∧ y < 10) ∧ 0 ≤ k ∧ k < 4 then (if V 13 y = 0 then -2 else if k = 0 then biO V w_ y else if k = 1 then paO V w_ y else if k = 2 then V 14 y else V 15 y) else -1 from by rw [if_pos (by omega), if_neg (by omega)]; rw [if_neg (by omega)]; rw [if_pos (by omega)])) dX8_ward_83
          · refine j_tabIn (tgt := 84) hx hb 2 c43 (by decide) (by decide) dX8_ward_43 (by decide) (by decide) rfl (by decide) ?_
            refine lv_aload hx hb dX8_ward_84 (lv_at hl 0 rfl) ?_
            refine j_get (ci := 7) (v := .int (J (V 14 y))) hx hb hts inX7_ hown hK ce_1 rfl 4 (by decide) lk1 (fun _ h9 => h9) rfl dX8_ward_86 ?_
            exact r_i hx hb hr hlk (congrArg (fun z => Value.int (J z)) (show (V 14 y : Int) = if (-1 ≤ w_ ∧ w_ ≤ 3) ∧ (0 ≤ y ∧ y < 10) ∧ 0 ≤ k ∧ k < 4 then (if V 13 y = 0 then -2 else if k = 0 then biO V w_ y else if k = 1 then paO V w_ y else if k = 2 then V 14 y else V 15 y) else -1 from by rw [if_pos (by omega), if_neg (by omega)]; rw [if_neg (by omega)]; rw [if_neg (by omega)]; rw [if_pos (by omega)])) dX8_ward_89
          · refine j_tabOut (tgt := 90) hx hb (by omega) (by omega) dX8_ward_43 c43 (by decide) ?_
            refine lv_aload hx hb dX8_ward_90 (lv_at hl 0 rfl) ?_
            refine j_get (ci := 7) (v := .int (J (V 15 y))) hx hb hts inX7_ hown hK ce_1 rfl 3 (by decide) lk2 (fun _ h9 => h9) rfl dX8_ward_92 ?_
            exact r_i hx hb hr hlk (congrArg (fun z => Value.int (J z)) (show (V 15 y : Int) = if (-1 ≤ w_ ∧ w_ ≤ 3) ∧ (0 ≤ y ∧ y < 10) ∧ 0 ≤ k ∧ k < 4 then (if V 13 y = 0 then -2 else if k = 0 then biO V w_ y else if k = 1 then paO V w_ y else if k = 2 then V 14 y else V 15 y) else -1 from by rw [if_pos (by omega), if_neg (by omega)]; rw [if_neg (by omega)]; rw [if_neg (by omega)]; rw [if_neg (by omega)])) dX8_ward_95
        · refine j_bi hx hb dX8_ward_39 (by decide +kernel) ?_
          exact r_i hx hb hr hlk (congrArg (fun z => Value.int (J z)) (show ((-2) : Int) = if (-1 ≤ w_ ∧ w_ ≤ 3) ∧ (0 ≤ y ∧ y < 10) ∧ 0 ≤ k ∧ k < 4 then (if V 13 y = 0 then -2 else if k = 0 then biO V w_ y else if k = 1 then paO V w_ y else if k = 2 then V 14 y else V 15 y) else -1 from by rw [if_pos (by omega), if_pos (by omega)])) dX8_ward_41
      · refine j_const hx hb dX8_ward_29 ?_
        exact r_i hx hb hr hlk (congrArg (fun z => Value.int (J z)) (show ((-1) : Int) = if (-1 ≤ w_ ∧ w_ ≤ 3) ∧ (0 ≤ y ∧ y < 10) ∧ 0 ≤ k ∧ k < 4 then (if V 13 y = 0 then -2 else if k = 0 then biO V w_ y else if k = 1 then paO V w_ y else if k = 2 then V 14 y else V 15 y) else -1 from by rw [if_neg (by omega)])) dX8_ward_30
  · refine j_qn (qN_n sp2) ?_
    refine lv_astoreN (lv' := [(4, .null), (0, .ref (a 0)), (1, .int (J w_)), (2, .int (J y)), (3, .int (J k))]) hx hb dX8_ward_5 hl (by decide) rfl (fun ls hl => ?_)
    refine lv_iload_n hx hb dX8_ward_7 rfl (lv_at hl 2 rfl) ?_
    refine j_const hx hb dX8_ward_8 ?_
    refine j_const hx hb dX8_ward_9 ?_
    refine k_S (As := [.int (J w_), .int (J ((-1))), .int (J 3)]) (rest := []) (v := .int (J (pI (((-1)) ≤ w_ ∧ w_ ≤ 3)))) hx hb hml hown hts hK hl.1 (c_X8_isWithin l G w_ ((-1)) 3 ((by omega)) ((by omega)) ((by omega))) (va_cwS 3 hts gX8_ward_X8_isWithin rfl rfl rfl (by decide +kernel) ⟨Nat.le_of_ble_eq_true rfl, Nat.le_of_ble_eq_true rfl⟩) trivial rfl rfl (Nat.le_of_ble_eq_true rfl) dX8_ward_10 ⟨Nat.zero_le _, Nat.zero_le _⟩ ?_
    refine j_eqP (tgt := 29) hx hb dX8_ward_13 (by decide) (fun c13 => ?_) (fun c13 => ?_)
    · refine j_const hx hb dX8_ward_29 ?_
      exact r_i hx hb hr hlk (congrArg (fun z => Value.int (J z)) (show ((-1) : Int) = if (-1 ≤ w_ ∧ w_ ≤ 3) ∧ (0 ≤ y ∧ y < 10) ∧ 0 ≤ k ∧ k < 4 then (if V 13 y = 0 then -2 else if k = 0 then biO V w_ y else if k = 1 then paO V w_ y else if k = 2 then V 14 y else V 15 y) else -1 from by rw [if_neg (by omega)])) dX8_ward_30
    · refine lv_aloadN hx hb dX8_ward_16 (lv_at hl 0 rfl) ?_
      refine lv_ifnullN (tgt := 29) hx hb dX8_ward_18 (by decide) ?_
      refine j_const hx hb dX8_ward_29 ?_
      exact r_i hx hb hr hlk (congrArg (fun z => Value.int (J z)) (show ((-1) : Int) = if (-1 ≤ w_ ∧ w_ ≤ 3) ∧ (0 ≤ y ∧ y < 10) ∧ 0 ≤ k ∧ k < 4 then (if V 13 y = 0 then -2 else if k = 0 then biO V w_ y else if k = 1 then paO V w_ y else if k = 2 then V 14 y else V 15 y) else -1 from by rw [if_neg (by omega)])) dX8_ward_30

abbrev rmX8_count : Room := { frames := 1, cells := 0, slots := 0, locals := 23 }
set_option maxHeartbeats 4000000 in
set_option maxRecDepth 100000 in
theorem c_X8_count (l : Launch) (G : GG) (a : Nat → Nat) (f : Nat → Int → Nat) (L : Int → List EvT) (u : Nat → Int → Int) (V : St) (k : Int) (h_L : ∀ h, 0 ≤ h → h < V 0 0 → ((L h).length : Int) = V 6 h) (g_k : -2147483648 ≤ k ∧ k < 2147483648) : MP l G yX8_count wsX8_count rmX8_count [.ref (a 0), .int (J k)] (fun H => RB G H a f L u V) (.int (J (if k = 0 then V 0 0 else if k = 1 then V 0 1 else if k = 2 then evO V else if k = 3 then syO V else if k = 4 then rkO V else -1)) : Value) := by
  refine MP.of (cc := cX8_count) (maxL := 2) (ret := (some .int)) (by decide) rfl (Nat.le_of_ble_eq_true rfl) ?_
  intro p e s m below meth c hx hb hr hml hown hts hlk hK hP ls hl
  have hown : s.vm.findClass RX8 = some m.cls := hown
  have hl : lv_has ls 2 [(0, .ref (a 0)), (1, .int (J k))] := hl
  have inX3_ : ∀ w ∈ u_ws RX3 TX3 2, w ∈ wsX8_count := by decide +kernel
  have inX5_ : ∀ w ∈ u_ws RX5 TX5 2, w ∈ wsX8_count := by decide +kernel
  have inX8_ : ∀ w ∈ u_ws RX8 TX8 4, w ∈ wsX8_count := by decide +kernel
  have lk0 := hts (.fieldLink RX8 12 "RateBook" "town" "LRateBook$Town;") (by decide +kernel)
  have lk1 := hts (.fieldLink RX8 19 "RateBook" "lists" "LRateBook$Lists;") (by decide +kernel)
  have hRB : RB G s.heap a f L u V := hP
  obtain ⟨hV, hX, hT, hE, hLi, hBa, hBk⟩ := id hRB
  obtain ⟨hT1, hT2, hT3, hT4⟩ := id hT
  obtain ⟨hL1, hL2, hL3, hL4, hL5, hL6⟩ := id hLi
  have hn := hV.n
  have hnl := hV.l
  refine lv_iload_n hx hb dX8_count_0 rfl (lv_at hl 1 rfl) ?_
  rcases (show k = 0 ∨ k = 1 ∨ k = 2 ∨ k = 3 ∨ k = 4 ∨ (k < 0 ∨ 4 < k) by omega) with c1 | c1 | c1 | c1 | c1 | c1
  · refine j_tabIn (tgt := 36) hx hb 0 c1 (by decide) (by decide) dX8_count_1 (by decide) (by decide) rfl (by decide) ?_
    refine lv_aload_n hx hb dX8_count_36 rfl (lv_at hl 0 rfl) ?_
    refine j_get (ci := 8) (v := .ref (a 1)) hx hb hts inX8_ hown hK hX rfl 0 (by decide) lk0 (fun _ h9 => h9) rfl dX8_count_37 ?_
    refine j_getN (ci := 5) (v := .int (J (V 0 0))) hx hb hts inX5_ hown hK hT2 rfl 1 (by decide) hK.2.1.2.1 (fun _ h9 => h9) rfl dX8_count_40 ?_
    exact r_i hx hb hr hlk (congrArg (fun z => Value.int (J z)) (show (V 0 0 : Int) = if k = 0 then V 0 0 else if k = 1 then V 0 1 else if k = 2 then evO V else if k = 3 then syO V else if k = 4 then rkO V else -1 from by rw [if_pos (by omega)])) dX8_count_43
  · refine j_tabIn (tgt := 44) hx hb 1 c1 (by decide) (by decide) dX8_count_1 (by decide) (by decide) rfl (by decide) ?_
    refine lv_aload_n hx hb dX8_count_44 rfl (lv_at hl 0 rfl) ?_
    refine j_get (ci := 8) (v := .ref (a 3)) hx hb hts inX8_ hown hK hX rfl 1 (by decide) lk1 (fun _ h9 => h9) rfl dX8_count_45 ?_
    refine j_getN (ci := 3) (v := .int (J (V 0 1))) hx hb hts inX3_ hown hK hL2 rfl 1 (by decide) hK.2.1.2.2.1 (fun _ h9 => h9) rfl dX8_count_48 ?_
    exact r_i hx hb hr hlk (congrArg (fun z => Value.int (J z)) (show (V 0 1 : Int) = if k = 0 then V 0 0 else if k = 1 then V 0 1 else if k = 2 then evO V else if k = 3 then syO V else if k = 4 then rkO V else -1 from by rw [if_neg (by omega)]; rw [if_pos (by omega)])) dX8_count_51
  · refine j_tabIn (tgt := 52) hx hb 2 c1 (by decide) (by decide) dX8_count_1 (by decide) (by decide) rfl (by decide) ?_
    refine lv_aload_n hx hb dX8_count_52 rfl (lv_at hl 0 rfl) ?_
    refine j_get (ci := 8) (v := .ref (a 1)) hx hb hts inX8_ hown hK hX rfl 0 (by decide) lk0 (fun _ h9 => h9) rfl dX8_count_53 ?_
    refine k_V (ci := 5) (b := a 1) (As := []) (rest := []) (v := .int (J (evO V))) hx hb hml hown hts hK hl.1 (c_X5_eventsTold l G (a 1) (a 2) (f 0) (f 1) V (f 2) L h_L) (cwV 0 hts gX8_count_X5_eventsTold rfl rfl rfl (by decide +kernel) ⟨Nat.le_of_ble_eq_true rfl, Nat.le_of_ble_eq_true rfl⟩) hT2 rfl (⟨hT, hE⟩) rfl rfl (Nat.le_of_ble_eq_true rfl) dX8_count_56 ⟨Nat.zero_le _, Nat.zero_le _⟩ ?_
    exact r_i hx hb hr hlk (congrArg (fun z => Value.int (J z)) (show (evO V : Int) = if k = 0 then V 0 0 else if k = 1 then V 0 1 else if k = 2 then evO V else if k = 3 then syO V else if k = 4 then rkO V else -1 from by rw [if_neg (by omega)]; rw [if_neg (by omega)]; rw [if_pos (by omega)])) dX8_count_59
  · refine j_tabIn (tgt := 60) hx hb 3 c1 (by decide) (by decide) dX8_count_1 (by decide) (by decide) rfl (by decide) ?_
    refine lv_aload_n hx hb dX8_count_60 rfl (lv_at hl 0 rfl) ?_
    refine k_V (ci := 8) (b := a 0) (As := []) (rest := []) (v := .int (J (syO V))) hx hb hml hown hts hK hl.1 (c_X8_struckYears l G a f L u V) (cwV 0 hts gX8_count_X8_struckYears rfl rfl rfl (by decide +kernel) ⟨Nat.le_of_ble_eq_true rfl, Nat.le_of_ble_eq_true rfl⟩) hX rfl hRB rfl rfl (Nat.le_of_ble_eq_true rfl) dX8_count_61 ⟨Nat.zero_le _, Nat.zero_le _⟩ ?_
    exact r_i hx hb hr hlk (congrArg (fun z => Value.int (J z)) (show (syO V : Int) = if k = 0 then V 0 0 else if k = 1 then V 0 1 else if k = 2 then evO V else if k = 3 then syO V else if k = 4 then rkO V else -1 from by rw [if_neg (by omega)]; rw [if_neg (by omega)]; rw [if_neg (by omega)]; rw [if_pos (by omega)])) dX8_count_64
  · refine j_tabIn (tgt := 65) hx hb 4 c1 (by decide) (by decide) dX8_count_1 (by decide) (by decide) rfl (by decide) ?_
    refine lv_aload_n hx hb dX8_count_65 rfl (lv_at hl 0 rfl) ?_
    refine j_get (ci := 8) (v := .ref (a 1)) hx hb hts inX8_ hown hK hX rfl 0 (by decide) lk0 (fun _ h9 => h9) rfl dX8_count_66 ?_
    refine k_V (ci := 5) (b := a 1) (As := []) (rest := []) (v := .int (J (rkO V))) hx hb hml hown hts hK hl.1 (c_X5_rentsKnown l G (a 1) (a 2) (f 0) (f 1) V) (cwV 0 hts gX8_count_X5_rentsKnown rfl rfl rfl (by decide +kernel) ⟨Nat.le_of_ble_eq_true rfl, Nat.le_of_ble_eq_true rfl⟩) hT2 rfl hT rfl rfl (Nat.le_of_ble_eq_true rfl) dX8_count_69 ⟨Nat.zero_le _, Nat.zero_le _⟩ ?_
    exact r_i hx hb hr hlk (congrArg (fun z => Value.int (J z)) (show (rkO V : Int) = if k = 0 then V 0 0 else if k = 1 then V 0 1 else if k = 2 then evO V else if k = 3 then syO V else if k = 4 then rkO V else -1 from by rw [if_neg (by omega)]; rw [if_neg (by omega)]; rw [if_neg (by omega)]; rw [if_neg (by omega)]; rw [if_pos (by omega)])) dX8_count_72
  · refine j_tabOut (tgt := 73) hx hb (by omega) (by omega) dX8_count_1 c1 (by decide) ?_
    refine j_const hx hb dX8_count_73 ?_
    exact r_i hx hb hr hlk (congrArg (fun z => Value.int (J z)) (show ((-1) : Int) = if k = 0 then V 0 0 else if k = 1 then V 0 1 else if k = 2 then evO V else if k = 3 then syO V else if k = 4 then rkO V else -1 from by rw [if_neg (by omega)]; rw [if_neg (by omega)]; rw [if_neg (by omega)]; rw [if_neg (by omega)]; rw [if_neg (by omega)])) dX8_count_74

abbrev rmX8_billsTogether : Room := { frames := 1, cells := 0, slots := 0, locals := 22 }
set_option maxHeartbeats 4000000 in
set_option maxRecDepth 100000 in
theorem c_X8_billsTogether (l : Launch) (G : GG) (a : Nat → Nat) (ys : Int → Int) (p_ : Int) (h_ys : ∀ i, 0 ≤ i → i < 40 → 0 ≤ ys i ∧ ys i ≤ 20000000000) (h_p : 0 ≤ p_ ∧ p_ ≤ 3000) : MP l G yX8_billsTogether wsX8_billsTogether rmX8_billsTogether [.ref (a 0), .int (J p_)] (fun H => At G H (a 0) (eO 8 [.ref (a 1), .ref (a 3), .ref (a 5), .ref (a 6)]) ∧ At G H (a 6) (eL G 40 ys)) (.long (JL (bt ys p_)) : Value) := by
  refine MP.of (cc := cX8_billsTogether) (maxL := 5) (ret := (some .long)) (by decide) rfl (Nat.le_of_ble_eq_true rfl) ?_
  intro p e s m below meth c hx hb hr hml hown hts hlk hK hP ls hl
  have hown : s.vm.findClass RX8 = some m.cls := hown
  have hl : lv_has ls 5 [(0, .ref (a 0)), (1, .int (J p_))] := hl
  have inX8_ : ∀ w ∈ u_ws RX8 TX8 4, w ∈ wsX8_billsTogether := by decide +kernel
  have lk0 := hts (.fieldLink RX8 23 "RateBook" "yearSums" "[J") (by decide +kernel)
  obtain ⟨hX, hYs⟩ := id hP
  refine j_lconst hx hb (z := 0) dX8_billsTogether_0 rfl ?_
  refine lv_lstore_n (lv' := [(2, .long (JL 0)), (0, .ref (a 0)), (1, .int (J p_))]) hx hb dX8_billsTogether_1 rfl hl (by decide) rfl (fun ls hl => ?_)
  refine j_const hx hb dX8_billsTogether_2 ?_
  refine lv_istore (lv' := [(4, .int (J 0)), (2, .long (JL 0)), (0, .ref (a 0)), (1, .int (J p_))]) hx hb dX8_billsTogether_3 hl (by decide) rfl (fun ls hl => ?_)
  have lp5 : ∀ (n : Nat) (i : Int) (i0 : 0 ≤ i ∧ i ≤ 40) (hm : 40 - i < (n : Int)) (ls : Array Slot) (hl : lv_has ls 5 [(4, .int (J i)), (2, .long (JL (lo (fun x o => x + ys o * p_ / 365000) 0 i))), (0, .ref (a 0)), (1, .int (J p_))]), W p l e (headSpec wsX8_billsTogether rmX8_billsTogether).room s m ([.ref (a 0), .int (J p_)] : List Value).toArray below meth c s.heap [] 0 0 (MQ below (k2_QcV (.long (JL (bt ys p_)) : Value)) ([.ref (a 0), .int (J p_)] : List Value).toArray s 0 0 (fun _ => False)) (F0 m 5 ls []) := by
    intro n
    induction n with
    | zero =>
      intro i i0 hm ls hl
      exact absurd hm (by omega)
    | succ n ih5 =>
      intro i i0 hm ls hl
      refine lv_iload hx hb dX8_billsTogether_5 (lv_at hl 0 rfl) ?_
      refine lv_aload_n hx hb dX8_billsTogether_7 rfl (lv_at hl 2 rfl) ?_
      refine j_get (ci := 8) (v := .ref (a 6)) hx hb hts inX8_ hown hK hX rfl 3 (by decide) lk0 (fun _ h9 => h9) rfl dX8_billsTogether_8 ?_
      refine j_alL hx hb hK hYs dX8_billsTogether_11 ?_
      refine j_re (y := 40) rfl ?_
      refine j_cge (tgt := 36) hx hb (by omega) (by omega) (by decide) (by decide) dX8_billsTogether_12 (by decide) (fun c12 => ?_) (fun c12 => ?_)
      · refine lv_lload_n hx hb dX8_billsTogether_36 rfl (lv_at hl 1 rfl) ?_
        exact r_l hx hb hr hlk (congrArg (fun z => Value.long (JL z)) (show (lo (fun x o => x + ys o * p_ / 365000) 0 i : Int) = bt ys p_ from by rw [show i = 40 by omega]; rfl)) dX8_billsTogether_37
      · refine lv_lload_n hx hb dX8_billsTogether_15 rfl (lv_at hl 1 rfl) ?_
        refine lv_aload_n hx hb dX8_billsTogether_16 rfl (lv_at hl 2 rfl) ?_
        refine j_get (ci := 8) (v := .ref (a 6)) hx hb hts inX8_ hown hK hX rfl 3 (by decide) lk0 (fun _ h9 => h9) rfl dX8_billsTogether_17 ?_
        refine lv_iload hx hb dX8_billsTogether_20 (lv_at hl 0 rfl) ?_
        refine j_lald hx hb hK hYs (by omega) (by omega) (by decide) dX8_billsTogether_22 ?_
        refine lv_iload_n hx hb dX8_billsTogether_23 rfl (lv_at hl 3 rfl) ?_
        have hyi := h_ys i (by omega) (by omega)
        have hbi := bill_rng hyi h_p
        refine k_S (As := [.long (JL (ys i)), .int (J p_)]) (rest := [.long (JL (lo (fun x o => x + ys o * p_ / 365000) 0 i))]) (v := .int (J ((ys i) * p_ / 365000))) hx hb hml hown hts hK hl.1 (c_X8_billFor l G (ys i) p_ ((by omega)) ((by omega))) (va_cwS 2 hts gX8_billsTogether_X8_billFor rfl rfl rfl (by decide +kernel) ⟨Nat.le_of_ble_eq_true rfl, Nat.le_of_ble_eq_true rfl⟩) trivial rfl rfl (Nat.le_of_ble_eq_true rfl) dX8_billsTogether_24 ⟨Nat.zero_le _, Nat.zero_le _⟩ ?_
        refine j_i2l hx hb (by omega) (by omega) dX8_billsTogether_27 ?_
        refine j_ladd hx hb dX8_billsTogether_28 ?_
        refine lv_lstore_n (lv' := [(2, .long (JL ((lo (fun x o => x + ys o * p_ / 365000) 0 i) + ((ys i) * p_ / 365000)))), (4, .int (J i)), (0, .ref (a 0)), (1, .int (J p_))]) hx hb dX8_billsTogether_29 rfl hl (by decide) rfl (fun ls hl => ?_)
        refine lv_iinc (v := J (i + 1)) (lv' := [(4, .int (J (i + 1))), (2, .long (JL ((lo (fun x o => x + ys o * p_ / 365000) 0 i) + ((ys i) * p_ / 365000)))), (0, .ref (a 0)), (1, .int (J p_))]) hx hb dX8_billsTogether_30 hl (k := 1) rfl (J_add _ _) (by decide) rfl (fun ls hl => ?_)
        refine lv_goto (tgt := 5) hx hb dX8_billsTogether_33 (by decide) ?_
        exact ih5 (i + 1) (by omega) (by omega) _ (lv_sub hl [0, 1, 2, 3] (by rw [show (lo (fun x o => x + ys o * p_ / 365000) 0 (i + 1) : Int) = (lo (fun x o => x + ys o * p_ / 365000) 0 i) + ((ys i) * p_ / 365000) from (by rw [lo_s _ _ (by omega)])]; try rfl))
  exact lp5 41 0 (by omega) (by omega) _ (lv_sub hl [0, 1, 2, 3] (by rw [show (lo (fun x o => x + ys o * p_ / 365000) 0 0 : Int) = 0 from (by rfl)]; try rfl))

abbrev rmX8_leastPoundage : Room := { frames := 2, cells := 0, slots := 0, locals := 46 }
set_option maxHeartbeats 4000000 in
set_option maxRecDepth 100000 in
theorem c_X8_leastPoundage (l : Launch) (G : GG) (a : Nat → Nat) (ys : Int → Int) (nd : Int) (h_ys : ∀ i, 0 ≤ i → i < 40 → 0 ≤ ys i ∧ ys i ≤ 20000000000) (h_n : 0 ≤ nd ∧ nd ≤ 100000000) : MP l G yX8_leastPoundage wsX8_leastPoundage rmX8_leastPoundage [.ref (a 0), .int (J nd)] (fun H => At G H (a 0) (eO 8 [.ref (a 1), .ref (a 3), .ref (a 5), .ref (a 6)]) ∧ At G H (a 6) (eL G 40 ys)) (.int (J (lpO ys nd)) : Value) := by
  refine MP.of (cc := cX8_leastPoundage) (maxL := 4) (ret := (some .int)) (by decide) rfl (Nat.le_of_ble_eq_true rfl) ?_
  intro p e s m below meth c hx hb hr hml hown hts hlk hK hP ls hl
  have hown : s.vm.findClass RX8 = some m.cls := hown
  have hl : lv_has ls 4 [(0, .ref (a 0)), (1, .int (J nd))] := hl
  obtain ⟨hX, hYs⟩ := id hP
  refine lv_aload_n hx hb dX8_leastPoundage_0 rfl (lv_at hl 0 rfl) ?_
  refine j_si hx hb dX8_leastPoundage_1 (by decide +kernel) ?_
  refine k_V (ci := 8) (b := a 0) (As := [.int (J 3000)]) (rest := []) (v := .long (JL (bt ys 3000))) hx hb hml hown hts hK hl.1 (c_X8_billsTogether l G a ys 3000 h_ys ((by omega))) (cwV 1 hts gX8_leastPoundage_X8_billsTogether rfl rfl rfl (by decide +kernel) ⟨Nat.le_of_ble_eq_true rfl, Nat.le_of_ble_eq_true rfl⟩) hX rfl hP rfl rfl (Nat.le_of_ble_eq_true rfl) dX8_leastPoundage_4 ⟨Nat.zero_le _, Nat.zero_le _⟩ ?_
  have hb3 := bt_rng (p := 3000) h_ys (by omega)
  refine lv_iload_n hx hb dX8_leastPoundage_7 rfl (lv_at hl 1 rfl) ?_
  refine j_i2l hx hb (by omega) (by omega) dX8_leastPoundage_8 ?_
  refine j_lcmp hx hb (by omega) (by omega) (by omega) (by omega) dX8_leastPoundage_9 ?_
  refine j_ge0 (tgt := 16) hx hb (by have := cmp3_rng (bt ys 3000) nd; omega) (by have := cmp3_rng (bt ys 3000) nd; omega) dX8_leastPoundage_10 (by decide) (fun c10 => ?_) (fun c10 => ?_)
  · have d10 : nd ≤ bt ys 3000 := Int.not_lt.mp (fun z => absurd (cmp3_lt.mpr z) (by omega))
    have hA := lpO_some d10
    refine j_const hx hb dX8_leastPoundage_16 ?_
    refine lv_istore_n (lv' := [(2, .int (J 0)), (0, .ref (a 0)), (1, .int (J nd))]) hx hb dX8_leastPoundage_17 rfl hl (by decide) rfl (fun ls hl => ?_)
    refine j_si hx hb dX8_leastPoundage_18 (by decide +kernel) ?_
    refine lv_istore_n (lv' := [(3, .int (J 2048)), (2, .int (J 0)), (0, .ref (a 0)), (1, .int (J nd))]) hx hb dX8_leastPoundage_21 rfl hl (by decide) rfl (fun ls hl => ?_)
    have lp22 : ∀ (n : Nat) (q : Int) (t : Int) (i0 : 0 ≤ q ∧ q ≤ lpO ys nd) (i1 : hlv (lpO ys nd) q t) (hm : t < (n : Int)) (ls : Array Slot) (hl : lv_has ls 4 [(3, .int (J t)), (2, .int (J q)), (0, .ref (a 0)), (1, .int (J nd))]), W p l e (headSpec wsX8_leastPoundage rmX8_leastPoundage).room s m ([.ref (a 0), .int (J nd)] : List Value).toArray below meth c s.heap [] 0 0 (MQ below (k2_QcV (.int (J (lpO ys nd)) : Value)) ([.ref (a 0), .int (J nd)] : List Value).toArray s 0 0 (fun _ => False)) (F0 m 22 ls []) := by
      intro n
      induction n with
      | zero =>
        intro q t i0 i1 hm ls hl
        exact absurd hm (by rcases i1 with z | z <;> omega)
      | succ n ih22 =>
        intro q t i0 i1 hm ls hl
        have i2 : 0 ≤ t ∧ t ≤ 2048 := by rcases i1 with z | z <;> omega
        refine lv_iload_n hx hb dX8_leastPoundage_22 rfl (lv_at hl 0 rfl) ?_
        refine j_le0 (tgt := 61) hx hb (by omega) (by omega) dX8_leastPoundage_23 (by decide) (fun c23 => ?_) (fun c23 => ?_)
        · refine lv_iload_n hx hb dX8_leastPoundage_61 rfl (lv_at hl 1 rfl) ?_
          exact r_i hx hb hr hlk (congrArg (fun z => Value.int (J z)) (show (q : Int) = lpO ys nd from by rcases i1 with z | z <;> omega)) dX8_leastPoundage_62
        · refine lv_iload_n hx hb dX8_leastPoundage_26 rfl (lv_at hl 1 rfl) ?_
          refine lv_iload_n hx hb dX8_leastPoundage_27 rfl (lv_at hl 0 rfl) ?_
          refine j_add hx hb dX8_leastPoundage_28 ?_
          refine j_si hx hb dX8_leastPoundage_29 (by decide +kernel) ?_
          refine j_cgt (tgt := 54) hx hb (by omega) (by omega) (by decide) (by decide) dX8_leastPoundage_32 (by decide) (fun c32 => ?_) (fun c32 => ?_)
          · refine lv_iload_n hx hb dX8_leastPoundage_54 rfl (lv_at hl 0 rfl) ?_
            refine j_const hx hb dX8_leastPoundage_55 ?_
            refine j_div hx hb (by omega) (by omega) (by decide) (by decide) dX8_leastPoundage_56 ?_
            refine lv_istore_n (lv' := [(3, .int (J (t / 2))), (2, .int (J q)), (0, .ref (a 0)), (1, .int (J nd))]) hx hb dX8_leastPoundage_57 rfl hl (by decide) rfl (fun ls hl => ?_)
            refine lv_goto (tgt := 22) hx hb dX8_leastPoundage_58 (by decide) ?_
            have hst : lpO ys nd < q + t := by omega
            exact ih22 q (t / 2) (by omega) (hlv_stay (by omega) i1 hst) (by omega) _ (lv_sub hl [0, 1, 2, 3] rfl)
          · refine lv_aload_n hx hb dX8_leastPoundage_35 rfl (lv_at hl 2 rfl) ?_
            refine lv_iload_n hx hb dX8_leastPoundage_36 rfl (lv_at hl 1 rfl) ?_
            refine lv_iload_n hx hb dX8_leastPoundage_37 rfl (lv_at hl 0 rfl) ?_
            refine j_add hx hb dX8_leastPoundage_38 ?_
            refine j_const hx hb dX8_leastPoundage_39 ?_
            refine j_sub hx hb dX8_leastPoundage_40 ?_
            refine k_V (ci := 8) (b := a 0) (As := [.int (J ((q + t) - 1))]) (rest := []) (v := .long (JL (bt ys ((q + t) - 1)))) hx hb hml hown hts hK hl.1 (c_X8_billsTogether l G a ys ((q + t) - 1) h_ys ((by omega))) (cwV 1 hts gX8_leastPoundage_X8_billsTogether rfl rfl rfl (by decide +kernel) ⟨Nat.le_of_ble_eq_true rfl, Nat.le_of_ble_eq_true rfl⟩) hX rfl hP rfl rfl (Nat.le_of_ble_eq_true rfl) dX8_leastPoundage_41 ⟨Nat.zero_le _, Nat.zero_le _⟩ ?_
            have hbq := bt_rng (p := q + t - 1) h_ys (by omega)
            refine lv_iload_n hx hb dX8_leastPoundage_44 rfl (lv_at hl 3 rfl) ?_
            refine j_i2l hx hb (by omega) (by omega) dX8_leastPoundage_45 ?_
            refine j_lcmp hx hb (by omega) (by omega) (by omega) (by omega) dX8_leastPoundage_46 ?_
            refine j_ge0 (tgt := 54) hx hb (by have := cmp3_rng (bt ys ((q + t) - 1)) nd; omega) (by have := cmp3_rng (bt ys ((q + t) - 1)) nd; omega) dX8_leastPoundage_47 (by decide) (fun c47 => ?_) (fun c47 => ?_)
            · have d47 : nd ≤ bt ys (q + t - 1) := Int.not_lt.mp (fun z => absurd (cmp3_lt.mpr z) (by omega))
              refine lv_iload_n hx hb dX8_leastPoundage_54 rfl (lv_at hl 0 rfl) ?_
              refine j_const hx hb dX8_leastPoundage_55 ?_
              refine j_div hx hb (by omega) (by omega) (by decide) (by decide) dX8_leastPoundage_56 ?_
              refine lv_istore_n (lv' := [(3, .int (J (t / 2))), (2, .int (J q)), (0, .ref (a 0)), (1, .int (J nd))]) hx hb dX8_leastPoundage_57 rfl hl (by decide) rfl (fun ls hl => ?_)
              refine lv_goto (tgt := 22) hx hb dX8_leastPoundage_58 (by decide) ?_
              have hst : lpO ys nd < q + t := by
                by_cases z : lpO ys nd < q + t
                · exact z
                · have := hA.2.2 (q + t - 1) (by omega) (by omega)
                  omega
              exact ih22 q (t / 2) (by omega) (hlv_stay (by omega) i1 hst) (by omega) _ (lv_sub hl [0, 1, 2, 3] rfl)
            · have d47 : bt ys (q + t - 1) < nd := cmp3_lt.mp (by omega)
              refine lv_iload_n hx hb dX8_leastPoundage_50 rfl (lv_at hl 1 rfl) ?_
              refine lv_iload_n hx hb dX8_leastPoundage_51 rfl (lv_at hl 0 rfl) ?_
              refine j_add hx hb dX8_leastPoundage_52 ?_
              refine lv_istore_n (lv' := [(2, .int (J (q + t))), (3, .int (J t)), (0, .ref (a 0)), (1, .int (J nd))]) hx hb dX8_leastPoundage_53 rfl hl (by decide) rfl (fun ls hl => ?_)
              refine lv_iload_n hx hb dX8_leastPoundage_54 rfl (lv_at hl 1 rfl) ?_
              refine j_const hx hb dX8_leastPoundage_55 ?_
              refine j_div hx hb (by omega) (by omega) (by decide) (by decide) dX8_leastPoundage_56 ?_
              refine lv_istore_n (lv' := [(3, .int (J (t / 2))), (2, .int (J (q + t))), (0, .ref (a 0)), (1, .int (J nd))]) hx hb dX8_leastPoundage_57 rfl hl (by decide) rfl (fun ls hl => ?_)
              refine lv_goto (tgt := 22) hx hb dX8_leastPoundage_58 (by decide) ?_
              have hup : q + t ≤ lpO ys nd := by
                by_cases z : lpO ys nd < q + t
                · have := bt_mono (fun i h1 h2 => (h_ys i h1 h2).1) (show lpO ys nd ≤ q + t - 1 by omega)
                  omega
                · omega
              exact ih22 (q + t) (t / 2) (by omega) (hlv_up (by omega) i1 hup) (by omega) _ (lv_sub hl [0, 1, 2, 3] rfl)
    exact lp22 2049 0 2048 (by omega) (Or.inr ⟨by omega, by omega, ⟨11, rfl⟩, by omega, by omega⟩) (by omega) _ (lv_sub hl [0, 1, 2, 3] rfl)
  · have d10 : bt ys 3000 < nd := cmp3_lt.mp (by omega)
    refine j_bi hx hb dX8_leastPoundage_13 (by decide +kernel) ?_
    exact r_i hx hb hr hlk (congrArg (fun z => Value.int (J z)) (show ((-4) : Int) = lpO ys nd from (lpO_none d10 (fun i h1 h2 => (h_ys i h1 h2).1)).symm)) dX8_leastPoundage_15

abbrev rmX8_worthOn : Room := { frames := 2, cells := 0, slots := 0, locals := 47 }
set_option maxHeartbeats 4000000 in
set_option maxRecDepth 100000 in
theorem c_X8_worthOn (l : Launch) (G : GG) (a : Nat → Nat) (f : Nat → Int → Nat) (L : Int → List EvT) (u : Nat → Int → Int) (V : St) (h d : Int) (h_h : 0 ≤ h ∧ h < V 0 0) (h_d : 0 ≤ d ∧ d ≤ 3649) : MP l G yX8_worthOn wsX8_worthOn rmX8_worthOn [.ref (a 0), .ref (f 0 h), .int (J d)] (fun H => RB G H a f L u V) (.int (J (wO V (L h) h d)) : Value) := by
  refine MP.of (cc := cX8_worthOn) (maxL := 5) (ret := (some .int)) (by decide) rfl (Nat.le_of_ble_eq_true rfl) ?_
  intro p e s m below meth c hx hb hr hml hown hts hlk hK hP ls hl
  have hown : s.vm.findClass RX8 = some m.cls := hown
  have hl : lv_has ls 5 [(0, .ref (a 0)), (1, .ref (f 0 h)), (2, .int (J d))] := hl
  have inX2_ : ∀ w ∈ u_ws RX2 TX2 7, w ∈ wsX8_worthOn := by decide +kernel
  have inX4_ : ∀ w ∈ u_ws RX4 TX4 2, w ∈ wsX8_worthOn := by decide +kernel
  have inX8_ : ∀ w ∈ u_ws RX8 TX8 4, w ∈ wsX8_worthOn := by decide +kernel
  have lk0 := hts (.fieldLink RX8 19 "RateBook" "lists" "LRateBook$Lists;") (by decide +kernel)
  have lk1 := hts (.fieldLink RX8 75 "RateBook$House" "kind" "I") (by decide +kernel)
  have lk2 := hts (.fieldLink RX8 78 "RateBook$House" "street" "I") (by decide +kernel)
  have lk3 := hts (.fieldLink RX8 105 "RateBook$House" "events" "LRateBook$Events;") (by decide +kernel)
  have lk4 := hts (.fieldLink RX8 237 "RateBook$RateList" "day" "I") (by decide +kernel)
  have hRB : RB G s.heap a f L u V := hP
  obtain ⟨hV, hX, hT, hE, hLi, hBa, hBk⟩ := id hRB
  obtain ⟨hT1, hT2, hT3, hT4⟩ := id hT
  obtain ⟨hL1, hL2, hL3, hL4, hL5, hL6⟩ := id hLi
  have hn := hV.n
  have hnl := hV.l
  have hEh := hE h h_h.1 h_h.2
  have hih := hV.h h_h.1 h_h.2
  have hsr := stO_rng hV d
  have hpl : 0 ≤ pl V h ∧ pl V h < 18 := by unfold pl; omega
  refine lv_aload_n hx hb dX8_worthOn_0 rfl (lv_at hl 0 rfl) ?_
  refine j_get (ci := 8) (v := .ref (a 3)) hx hb hts inX8_ hown hK hX rfl 1 (by decide) lk0 (fun _ h9 => h9) rfl dX8_worthOn_1 ?_
  refine lv_aload_n hx hb dX8_worthOn_4 rfl (lv_at hl 0 rfl) ?_
  refine j_get (ci := 8) (v := .ref (a 3)) hx hb hts inX8_ hown hK hX rfl 1 (by decide) lk0 (fun _ h9 => h9) rfl dX8_worthOn_5 ?_
  refine lv_iload_n hx hb dX8_worthOn_8 rfl (lv_at hl 2 rfl) ?_
  refine k_V (ci := 3) (b := a 3) (As := [.int (J d)]) (rest := [.ref (a 3)]) (v := .int (J (stO V d))) hx hb hml hown hts hK hl.1 (c_X3_standingOn l G (a 3) (a 4) (f 3) (f 4) (f 5) (u 0) (u 1) V d ((by omega))) (cwV 1 hts gX8_worthOn_X3_standingOn rfl rfl rfl (by decide +kernel) ⟨Nat.le_of_ble_eq_true rfl, Nat.le_of_ble_eq_true rfl⟩) hL2 rfl hLi rfl rfl (Nat.le_of_ble_eq_true rfl) dX8_worthOn_9 ⟨Nat.zero_le _, Nat.zero_le _⟩ ?_
  refine k_V (ci := 3) (b := a 3) (As := [.int (J (stO V d))]) (rest := []) (v := va_rf (qN (V 0 1) (f 3) (stO V d))) hx hb hml hown hts hK hl.1 (c_X3_at l G (a 3) (a 4) (f 3) (f 4) (f 5) (u 0) (u 1) V (stO V d) ((by omega))) (cwV 1 hts gX8_worthOn_X3_at rfl rfl rfl (by decide +kernel) ⟨Nat.le_of_ble_eq_true rfl, Nat.le_of_ble_eq_true rfl⟩) hL2 rfl hLi rfl rfl (Nat.le_of_ble_eq_true rfl) dX8_worthOn_12 ⟨Nat.zero_le _, Nat.zero_le _⟩ ?_
  by_cases sp12 : 0 ≤ stO V d ∧ stO V d < V 0 1
  · refine j_qs (b := f 3 (stO V d)) (qN_s sp12) ?_
    refine lv_astore_n (lv' := [(3, .ref (f 3 (stO V d))), (0, .ref (a 0)), (1, .ref (f 0 h)), (2, .int (J d))]) hx hb dX8_worthOn_15 rfl hl (by decide) rfl (fun ls hl => ?_)
    refine lv_aload_n hx hb dX8_worthOn_16 rfl (lv_at hl 0 rfl) ?_
    refine lv_ifnonnull (tgt := 22) hx hb dX8_worthOn_17 (by decide) ?_
    refine lv_aload_n hx hb dX8_worthOn_22 rfl (lv_at hl 0 rfl) ?_
    refine lv_aload_n hx hb dX8_worthOn_23 rfl (lv_at hl 2 rfl) ?_
    have ce_1 : At G s.heap (f 0 h) (eO 2 [.int (J h), .int (J (V 1 h)), .int (J (V 2 h)), .int (J (V 3 h)), .int (J (V 4 h)), .ref (f 1 h), .int (J (V 5 h))]) := (hT4 h (by omega) (by omega))
    refine j_get (ci := 2) (v := .int (J (V 2 h))) hx hb hts inX2_ hown hK ce_1 rfl 2 (by decide) lk1 (fun _ h9 => h9) rfl dX8_worthOn_24 ?_
    refine lv_aload_n hx hb dX8_worthOn_27 rfl (lv_at hl 2 rfl) ?_
    refine j_get (ci := 2) (v := .int (J (V 3 h))) hx hb hts inX2_ hown hK ce_1 rfl 3 (by decide) lk2 (fun _ h9 => h9) rfl dX8_worthOn_28 ?_
    have ce_2 : At G s.heap (f 3 (stO V d)) (eO 4 [.int (J (V 10 (stO V d))), .ref (f 4 (stO V d))]) := (hL4 (stO V d) (by omega) (by omega))
    refine k_V (ci := 4) (b := f 3 (stO V d)) (As := [.int (J (V 2 h)), .int (J (V 3 h))]) (rest := []) (v := va_rf (some ((f 5) (18 * (stO V d) + ((V 2 h) * 6 + (V 3 h)))))) hx hb hml hown hts hK hl.1 (c_X4_unitFor l G (a 3) (a 4) (f 3) (f 4) (f 5) (u 0) (u 1) V (stO V d) (V 2 h) (V 3 h) sp12 ((by omega)) ((by omega))) (cwV 2 hts gX8_worthOn_X4_unitFor rfl rfl rfl (by decide +kernel) ⟨Nat.le_of_ble_eq_true rfl, Nat.le_of_ble_eq_true rfl⟩) ce_2 rfl hLi rfl rfl (Nat.le_of_ble_eq_true rfl) dX8_worthOn_31 ⟨Nat.zero_le _, Nat.zero_le _⟩ ?_
    refine j_qs (b := f 5 (18 * stO V d + (V 2 h * 6 + V 3 h))) rfl ?_
    refine lv_astore (lv' := [(4, .ref (f 5 (18 * stO V d + (V 2 h * 6 + V 3 h)))), (3, .ref (f 3 (stO V d))), (0, .ref (a 0)), (1, .ref (f 0 h)), (2, .int (J d))]) hx hb dX8_worthOn_34 hl (by decide) rfl (fun ls hl => ?_)
    refine lv_aload hx hb dX8_worthOn_36 (lv_at hl 0 rfl) ?_
    refine lv_ifnonnull (tgt := 43) hx hb dX8_worthOn_38 (by decide) ?_
    have hUn := hL6 (stO V d) (V 2 h * 6 + V 3 h) sp12.1 sp12.2 (by omega) (by omega)
    have hur := hV.u (i := stO V d) (u := V 2 h * 6 + V 3 h) sp12.1 sp12.2 (by omega) (by omega)
    have hdy := hV.d sp12.1 sp12.2
    have hzr := szO_rng (L := L h) (z := V 4 h) (d := d) hEh.2.2.2.2 hih.2.2.2.1
    have hmr := mulb (a := szO (L h) (V 4 h) d) (b := V 11 (18 * stO V d + (V 2 h * 6 + V 3 h))) (A := 500) (B := 100000) (by omega) (by omega) (by omega) (by omega)
    have hdr := div_rng (b := V 12 (18 * stO V d + (V 2 h * 6 + V 3 h))) hmr.1 hmr.2 (by omega)
    refine lv_aload_n hx hb dX8_worthOn_43 rfl (lv_at hl 3 rfl) ?_
    refine j_get (ci := 2) (v := .ref (f 1 h)) hx hb hts inX2_ hown hK ce_1 rfl 5 (by decide) lk3 (fun _ h9 => h9) rfl dX8_worthOn_44 ?_
    refine lv_aload hx hb dX8_worthOn_47 (lv_at hl 0 rfl) ?_
    refine lv_aload_n hx hb dX8_worthOn_49 rfl (lv_at hl 3 rfl) ?_
    refine lv_iload_n hx hb dX8_worthOn_50 rfl (lv_at hl 4 rfl) ?_
    refine k_V (ci := 2) (b := f 0 h) (As := [.int (J d)]) (rest := [.ref (f 5 (18 * stO V d + (V 2 h * 6 + V 3 h))), .ref (f 1 h)]) (v := .int (J (szO (L h) (V 4 h) d))) hx hb hml hown hts hK hl.1 (c_X2_sizeOn l G (f 0) (f 1) (f 2) V (L h) h d ((by omega)) hih ((by omega))) (cwV 1 hts gX8_worthOn_X2_sizeOn rfl rfl rfl (by decide +kernel) ⟨Nat.le_of_ble_eq_true rfl, Nat.le_of_ble_eq_true rfl⟩) ce_1 rfl (⟨hT4 h h_h.1 h_h.2, hEh⟩) rfl rfl (Nat.le_of_ble_eq_true rfl) dX8_worthOn_51 ⟨Nat.zero_le _, Nat.zero_le _⟩ ?_
    have ce_3 : At G s.heap (f 5 (18 * stO V d + (V 2 h * 6 + V 3 h))) (eO 6 [.int (J (V 11 (18 * stO V d + (V 2 h * 6 + V 3 h)))), .int (J (V 12 (18 * stO V d + (V 2 h * 6 + V 3 h)))), .int (J (u 0 (18 * stO V d + (V 2 h * 6 + V 3 h)))), .int (J (u 1 (18 * stO V d + (V 2 h * 6 + V 3 h))))]) := (hL6 (stO V d) (V 2 h * 6 + V 3 h) (by omega) (by omega) (by omega) (by omega))
    refine k_V (ci := 6) (b := f 5 (18 * stO V d + (V 2 h * 6 + V 3 h))) (As := [.int (J (szO (L h) (V 4 h) d))]) (rest := [.ref (f 1 h)]) (v := .long (JL ((szO (L h) (V 4 h) d) * (V 11 (18 * stO V d + (V 2 h * 6 + V 3 h))) / (V 12 (18 * stO V d + (V 2 h * 6 + V 3 h)))))) hx hb hml hown hts hK hl.1 (c_X6_times l G (f 5 (18 * stO V d + (V 2 h * 6 + V 3 h))) (V 11 (18 * stO V d + (V 2 h * 6 + V 3 h))) (V 12 (18 * stO V d + (V 2 h * 6 + V 3 h))) (u 0 (18 * stO V d + (V 2 h * 6 + V 3 h))) (u 1 (18 * stO V d + (V 2 h * 6 + V 3 h))) (szO (L h) (V 4 h) d) hur.1 hur.2 hzr) (cwV 1 hts gX8_worthOn_X6_times rfl rfl rfl (by decide +kernel) ⟨Nat.le_of_ble_eq_true rfl, Nat.le_of_ble_eq_true rfl⟩) ce_3 rfl hUn rfl rfl (Nat.le_of_ble_eq_true rfl) dX8_worthOn_54 ⟨Nat.zero_le _, Nat.zero_le _⟩ ?_
    refine lv_aload_n hx hb dX8_worthOn_57 rfl (lv_at hl 1 rfl) ?_
    refine j_get (ci := 4) (v := .int (J (V 10 (stO V d)))) hx hb hts inX4_ hown hK ce_2 rfl 0 (by decide) lk4 (fun _ h9 => h9) rfl dX8_worthOn_58 ?_
    refine lv_iload_n hx hb dX8_worthOn_61 rfl (lv_at hl 4 rfl) ?_
    have ce_4 : At G s.heap (f 1 h) (eO 1 [.ref (f 2 h), .int (J (((L h).length : Int)))]) := (hE h (by omega) (by omega)).1
    refine k_V (ci := 1) (b := f 1 h) (As := [.long (JL ((szO (L h) (V 4 h) d) * (V 11 (18 * stO V d + (V 2 h * 6 + V 3 h))) / (V 12 (18 * stO V d + (V 2 h * 6 + V 3 h))))), .int (J (V 10 (stO V d))), .int (J d)]) (rest := []) (v := .long (JL (ctd (L h) (V 10 (stO V d)) d ((szO (L h) (V 4 h) d) * (V 11 (18 * stO V d + (V 2 h * 6 + V 3 h))) / (V 12 (18 * stO V d + (V 2 h * 6 + V 3 h))))))) hx hb hml hown hts hK hl.1 (c_X1_cutDown l G (f 1 h) (f 2 h) (L h) ((szO (L h) (V 4 h) d) * (V 11 (18 * stO V d + (V 2 h * 6 + V 3 h))) / (V 12 (18 * stO V d + (V 2 h * 6 + V 3 h)))) (V 10 (stO V d)) d (⟨hdr.1, by omega⟩) ((by omega)) ((by omega))) (cwV 3 hts gX8_worthOn_X1_cutDown rfl rfl rfl (by decide +kernel) ⟨Nat.le_of_ble_eq_true rfl, Nat.le_of_ble_eq_true rfl⟩) ce_4 rfl hEh rfl rfl (Nat.le_of_ble_eq_true rfl) dX8_worthOn_62 ⟨Nat.zero_le _, Nat.zero_le _⟩ ?_
    refine j_l2i hx hb dX8_worthOn_65 ?_
    exact r_i hx hb hr hlk (congrArg (fun z => Value.int (J z)) (show (ctd (L h) (V 10 (stO V d)) d ((szO (L h) (V 4 h) d) * (V 11 (18 * stO V d + (V 2 h * 6 + V 3 h))) / (V 12 (18 * stO V d + (V 2 h * 6 + V 3 h)))) : Int) = wO V (L h) h d from by unfold wO pl; rw [if_neg (by omega)])) dX8_worthOn_66
  · refine j_qn (qN_n sp12) ?_
    refine lv_astore_nN (lv' := [(3, .null), (0, .ref (a 0)), (1, .ref (f 0 h)), (2, .int (J d))]) hx hb dX8_worthOn_15 rfl hl (by decide) rfl (fun ls hl => ?_)
    refine lv_aload_nN hx hb dX8_worthOn_16 rfl (lv_at hl 0 rfl) ?_
    refine lv_ifnonnullN hx hb dX8_worthOn_17 ?_
    refine j_const hx hb dX8_worthOn_20 ?_
    exact r_i hx hb hr hlk (congrArg (fun z => Value.int (J z)) (show (0 : Int) = wO V (L h) h d from by unfold wO; rw [if_pos (by omega)])) dX8_worthOn_21

abbrev rmX8_countedOn : Room := { frames := 3, cells := 0, slots := 0, locals := 71 }
set_option maxHeartbeats 4000000 in
set_option maxRecDepth 100000 in
theorem c_X8_countedOn (l : Launch) (G : GG) (a : Nat → Nat) (f : Nat → Int → Nat) (L : Int → List EvT) (u : Nat → Int → Int) (V : St) (h d : Int) (h_h : 0 ≤ h ∧ h < V 0 0) (h_d : 0 ≤ d ∧ d ≤ 3649) : MP l G yX8_countedOn wsX8_countedOn rmX8_countedOn [.ref (a 0), .ref (f 0 h), .int (J d)] (fun H => RB G H a f L u V) (.int (J (cO V (L h) h d)) : Value) := by
  refine MP.of (cc := cX8_countedOn) (maxL := 5) (ret := (some .int)) (by decide) rfl (Nat.le_of_ble_eq_true rfl) ?_
  intro p e s m below meth c hx hb hr hml hown hts hlk hK hP ls hl
  have hown : s.vm.findClass RX8 = some m.cls := hown
  have hl : lv_has ls 5 [(0, .ref (a 0)), (1, .ref (f 0 h)), (2, .int (J d))] := hl
  have inX0_ : ∀ w ∈ u_ws RX0 TX0 4, w ∈ wsX8_countedOn := by decide +kernel
  have inX2_ : ∀ w ∈ u_ws RX2 TX2 7, w ∈ wsX8_countedOn := by decide +kernel
  have lk0 := hts (.fieldLink RX8 105 "RateBook$House" "events" "LRateBook$Events;") (by decide +kernel)
  have lk1 := hts (.fieldLink RX8 248 "RateBook$Event" "value" "I") (by decide +kernel)
  have lk2 := hts (.fieldLink RX8 253 "RateBook$Event" "day" "I") (by decide +kernel)
  have hRB : RB G s.heap a f L u V := hP
  obtain ⟨hV, hX, hT, hE, hLi, hBa, hBk⟩ := id hRB
  obtain ⟨hT1, hT2, hT3, hT4⟩ := id hT
  obtain ⟨hL1, hL2, hL3, hL4, hL5, hL6⟩ := id hLi
  have hn := hV.n
  have hnl := hV.l
  have hEh := hE h h_h.1 h_h.2
  have hwr := wO_rng (d := d) hV hEh.2.2.2.2 h_h.1 h_h.2
  refine lv_aload_n hx hb dX8_countedOn_0 rfl (lv_at hl 0 rfl) ?_
  refine lv_aload_n hx hb dX8_countedOn_1 rfl (lv_at hl 1 rfl) ?_
  refine lv_iload_n hx hb dX8_countedOn_2 rfl (lv_at hl 2 rfl) ?_
  refine k_V (ci := 8) (b := a 0) (As := [.ref (f 0 h), .int (J d)]) (rest := []) (v := .int (J (wO V (L h) h d))) hx hb hml hown hts hK hl.1 (c_X8_worthOn l G a f L u V h d ((by omega)) ((by omega))) (cwV 2 hts gX8_countedOn_X8_worthOn rfl rfl rfl (by decide +kernel) ⟨Nat.le_of_ble_eq_true rfl, Nat.le_of_ble_eq_true rfl⟩) hX rfl hRB rfl rfl (Nat.le_of_ble_eq_true rfl) dX8_countedOn_3 ⟨Nat.zero_le _, Nat.zero_le _⟩ ?_
  refine lv_istore_n (lv' := [(3, .int (J (wO V (L h) h d))), (0, .ref (a 0)), (1, .ref (f 0 h)), (2, .int (J d))]) hx hb dX8_countedOn_6 rfl hl (by decide) rfl (fun ls hl => ?_)
  refine lv_aload_n hx hb dX8_countedOn_7 rfl (lv_at hl 2 rfl) ?_
  have ce_1 : At G s.heap (f 0 h) (eO 2 [.int (J h), .int (J (V 1 h)), .int (J (V 2 h)), .int (J (V 3 h)), .int (J (V 4 h)), .ref (f 1 h), .int (J (V 5 h))]) := (hT4 h (by omega) (by omega))
  refine j_get (ci := 2) (v := .ref (f 1 h)) hx hb hts inX2_ hown hK ce_1 rfl 5 (by decide) lk0 (fun _ h9 => h9) rfl dX8_countedOn_8 ?_
  refine j_const hx hb dX8_countedOn_11 ?_
  refine lv_iload_n hx hb dX8_countedOn_12 rfl (lv_at hl 3 rfl) ?_
  have ce_2 : At G s.heap (f 1 h) (eO 1 [.ref (f 2 h), .int (J (((L h).length : Int)))]) := (hE h (by omega) (by omega)).1
  refine k_V (ci := 1) (b := f 1 h) (As := [.int (J 1), .int (J d)]) (rest := []) (v := va_rf (Option.map eAd (lat (L h) 1 d))) hx hb hml hown hts hK hl.1 (c_X1_latestOf l G (f 1 h) (f 2 h) (L h) 1 d ((by omega)) ((by omega))) (cwV 2 hts gX8_countedOn_X1_latestOf rfl rfl rfl (by decide +kernel) ⟨Nat.le_of_ble_eq_true rfl, Nat.le_of_ble_eq_true rfl⟩) ce_2 rfl hEh rfl rfl (Nat.le_of_ble_eq_true rfl) dX8_countedOn_13 ⟨Nat.zero_le _, Nat.zero_le _⟩ ?_
  rcases spL : lat (L h) 1 d with _ | e
  · refine j_qn rfl ?_
    refine lv_astoreN (lv' := [(4, .null), (3, .int (J (wO V (L h) h d))), (0, .ref (a 0)), (1, .ref (f 0 h)), (2, .int (J d))]) hx hb dX8_countedOn_16 hl (by decide) rfl (fun ls hl => ?_)
    refine lv_aloadN hx hb dX8_countedOn_18 (lv_at hl 0 rfl) ?_
    refine lv_ifnonnullN hx hb dX8_countedOn_20 ?_
    refine lv_iload_n hx hb dX8_countedOn_23 rfl (lv_at hl 1 rfl) ?_
    exact r_i hx hb hr hlk (congrArg (fun z => Value.int (J z)) (show (wO V (L h) h d : Int) = cO V (L h) h d from by unfold cO; rw [spL])) dX8_countedOn_24
  · refine j_qs (b := eAd e) rfl ?_
    have hme : e ∈ L h := lat_mem spL
    have hce : At G s.heap (eAd e) (eO 0 [.int (J (eNo e)), .int (J (eDy e)), .int (J (eKi e)), .int (J (eVa e))]) := hEh.2.2.2.1 e hme
    obtain ⟨ok1, ok2, ok3⟩ := hEh.2.2.2.2 e hme
    have hsp := lat_spec spL
    refine lv_astore (lv' := [(4, .ref (eAd e)), (3, .int (J (wO V (L h) h d))), (0, .ref (a 0)), (1, .ref (f 0 h)), (2, .int (J d))]) hx hb dX8_countedOn_16 hl (by decide) rfl (fun ls hl => ?_)
    refine lv_aload hx hb dX8_countedOn_18 (lv_at hl 0 rfl) ?_
    refine lv_ifnonnull (tgt := 25) hx hb dX8_countedOn_20 (by decide) ?_
    refine lv_aload hx hb dX8_countedOn_25 (lv_at hl 0 rfl) ?_
    refine j_get (ci := 0) (v := .int (J (eVa e))) hx hb hts inX0_ hown hK hce rfl 3 (by decide) lk1 (fun _ h9 => h9) rfl dX8_countedOn_27 ?_
    rcases (show (eVa e) = 1 ∨ (eVa e) = 2 ∨ (eVa e) = 3 ∨ ((eVa e) < 1 ∨ 3 < (eVa e)) by omega) with c30 | c30 | c30 | c30
    · refine j_tabIn (tgt := 56) hx hb 1 c30 (by decide) (by decide) dX8_countedOn_30 (by decide) (by decide) rfl (by decide) ?_
      refine lv_iload_n hx hb dX8_countedOn_56 rfl (lv_at hl 4 rfl) ?_
      refine lv_aload hx hb dX8_countedOn_57 (lv_at hl 0 rfl) ?_
      refine j_get (ci := 0) (v := .int (J (eDy e))) hx hb hts inX0_ hown hK hce rfl 1 (by decide) lk2 (fun _ h9 => h9) rfl dX8_countedOn_59 ?_
      refine j_sub hx hb dX8_countedOn_62 ?_
      refine j_bi hx hb dX8_countedOn_63 (by decide +kernel) ?_
      refine j_cge (tgt := 72) hx hb (by omega) (by omega) (by decide) (by decide) dX8_countedOn_65 (by decide) (fun c65 => ?_) (fun c65 => ?_)
      · refine lv_iload_n hx hb dX8_countedOn_72 rfl (lv_at hl 1 rfl) ?_
        refine j_const hx hb dX8_countedOn_73 ?_
        refine j_div hx hb (by omega) (by omega) (by decide) (by decide) dX8_countedOn_74 ?_
        exact r_i hx hb hr hlk (congrArg (fun z => Value.int (J z)) (show ((wO V (L h) h d) / 2 : Int) = cO V (L h) h d from by unfold cO; rw [spL]; simp only []; rw [if_pos c30]; rw [if_neg (by omega)])) dX8_countedOn_75
      · refine j_const hx hb dX8_countedOn_68 ?_
        refine lv_goto (tgt := 75) hx hb dX8_countedOn_69 (by decide) ?_
        exact r_i hx hb hr hlk (congrArg (fun z => Value.int (J z)) (show (0 : Int) = cO V (L h) h d from by unfold cO; rw [spL]; simp only []; rw [if_pos c30]; rw [if_pos (by omega)])) dX8_countedOn_75
    · refine j_tabIn (tgt := 76) hx hb 2 c30 (by decide) (by decide) dX8_countedOn_30 (by decide) (by decide) rfl (by decide) ?_
      refine lv_iload_n hx hb dX8_countedOn_76 rfl (lv_at hl 1 rfl) ?_
      refine j_const hx hb dX8_countedOn_77 ?_
      refine j_div hx hb (by omega) (by omega) (by decide) (by decide) dX8_countedOn_78 ?_
      exact r_i hx hb hr hlk (congrArg (fun z => Value.int (J z)) (show ((wO V (L h) h d) / 2 : Int) = cO V (L h) h d from by unfold cO; rw [spL]; simp only []; rw [if_neg (by omega), if_pos c30])) dX8_countedOn_79
    · refine j_tabIn (tgt := 80) hx hb 3 c30 (by decide) (by decide) dX8_countedOn_30 (by decide) (by decide) rfl (by decide) ?_
      refine lv_iload_n hx hb dX8_countedOn_80 rfl (lv_at hl 1 rfl) ?_
      refine j_const hx hb dX8_countedOn_81 ?_
      refine j_div hx hb (by omega) (by omega) (by decide) (by decide) dX8_countedOn_82 ?_
      exact r_i hx hb hr hlk (congrArg (fun z => Value.int (J z)) (show ((wO V (L h) h d) / 5 : Int) = cO V (L h) h d from by unfold cO; rw [spL]; simp only []; rw [if_neg (by omega), if_neg (by omega), if_pos c30])) dX8_countedOn_83
    · refine j_tabOut (tgt := 84) hx hb (by omega) (by omega) dX8_countedOn_30 c30 (by decide) ?_
      refine lv_iload_n hx hb dX8_countedOn_84 rfl (lv_at hl 1 rfl) ?_
      exact r_i hx hb hr hlk (congrArg (fun z => Value.int (J z)) (show (wO V (L h) h d : Int) = cO V (L h) h d from by unfold cO; rw [spL]; simp only []; rw [if_neg (by omega), if_neg (by omega), if_neg (by omega)])) dX8_countedOn_85

abbrev rmX8_sumOfYear : Room := { frames := 4, cells := 0, slots := 0, locals := 95 }
set_option maxHeartbeats 4000000 in
set_option maxRecDepth 100000 in
theorem c_X8_sumOfYear (l : Launch) (G : GG) (a : Nat → Nat) (f : Nat → Int → Nat) (L : Int → List EvT) (u : Nat → Int → Int) (V : St) (h y : Int) (h_h : 0 ≤ h ∧ h < V 0 0) (h_y : 0 ≤ y ∧ y < 10) : MP l G yX8_sumOfYear wsX8_sumOfYear rmX8_sumOfYear [.ref (a 0), .ref (f 0 h), .int (J y)] (fun H => RB G H a f L u V) (.long (JL (yrO V (L h) h y)) : Value) := by
  refine MP.of (cc := cX8_sumOfYear) (maxL := 9) (ret := (some .long)) (by decide) rfl (Nat.le_of_ble_eq_true rfl) ?_
  intro p e s m below meth c hx hb hr hml hown hts hlk hK hP ls hl
  have hown : s.vm.findClass RX8 = some m.cls := hown
  have hl : lv_has ls 9 [(0, .ref (a 0)), (1, .ref (f 0 h)), (2, .int (J y))] := hl
  have inX2_ : ∀ w ∈ u_ws RX2 TX2 7, w ∈ wsX8_sumOfYear := by decide +kernel
  have inX8_ : ∀ w ∈ u_ws RX8 TX8 4, w ∈ wsX8_sumOfYear := by decide +kernel
  have lk0 := hts (.fieldLink RX8 19 "RateBook" "lists" "LRateBook$Lists;") (by decide +kernel)
  have lk1 := hts (.fieldLink RX8 105 "RateBook$House" "events" "LRateBook$Events;") (by decide +kernel)
  have hRB : RB G s.heap a f L u V := hP
  obtain ⟨hV, hX, hT, hE, hLi, hBa, hBk⟩ := id hRB
  obtain ⟨hT1, hT2, hT3, hT4⟩ := id hT
  obtain ⟨hL1, hL2, hL3, hL4, hL5, hL6⟩ := id hLi
  have hn := hV.n
  have hnl := hV.l
  have hEh := hE h h_h.1 h_h.2
  refine lv_iload_n hx hb dX8_sumOfYear_0 rfl (lv_at hl 2 rfl) ?_
  refine j_const hx hb dX8_sumOfYear_1 ?_
  refine j_add hx hb dX8_sumOfYear_2 ?_
  refine j_si hx hb dX8_sumOfYear_3 (by decide +kernel) ?_
  refine j_mul hx hb dX8_sumOfYear_6 ?_
  refine lv_istore_n (lv' := [(3, .int (J ((y + 1) * 365))), (0, .ref (a 0)), (1, .ref (f 0 h)), (2, .int (J y))]) hx hb dX8_sumOfYear_7 rfl hl (by decide) rfl (fun ls hl => ?_)
  refine lv_iload_n hx hb dX8_sumOfYear_8 rfl (lv_at hl 3 rfl) ?_
  refine j_si hx hb dX8_sumOfYear_9 (by decide +kernel) ?_
  refine j_mul hx hb dX8_sumOfYear_12 ?_
  refine lv_istore (lv' := [(4, .int (J (y * 365))), (3, .int (J ((y + 1) * 365))), (0, .ref (a 0)), (1, .ref (f 0 h)), (2, .int (J y))]) hx hb dX8_sumOfYear_13 hl (by decide) rfl (fun ls hl => ?_)
  refine j_lconst hx hb (z := 0) dX8_sumOfYear_15 rfl ?_
  refine lv_lstore (lv' := [(5, .long (JL 0)), (4, .int (J (y * 365))), (3, .int (J ((y + 1) * 365))), (0, .ref (a 0)), (1, .ref (f 0 h)), (2, .int (J y))]) hx hb dX8_sumOfYear_16 hl (by decide) rfl (fun ls hl => ?_)
  refine j_const hx hb dX8_sumOfYear_18 ?_
  refine lv_istore (lv' := [(7, .int (J 0)), (5, .long (JL 0)), (4, .int (J (y * 365))), (3, .int (J ((y + 1) * 365))), (0, .ref (a 0)), (1, .ref (f 0 h)), (2, .int (J y))]) hx hb dX8_sumOfYear_19 hl (by decide) rfl (fun ls hl => ?_)
  have lp21 : ∀ (n : Nat) (dd : Int) (t : Int) (i0 : 365 * y ≤ dd ∧ dd ≤ 365 * y + 365) (i1 : 0 ≤ t ∧ t ≤ dd - 365 * y) (hm : 366 - t < (n : Int)) (ls : Array Slot) (hl : lv_has ls 9 [(7, .int (J t)), (5, .long (JL (lo (fun x j => x + rlv (cO V (L h) h (365 * y + j))) 0 (dd - 365 * y)))), (4, .int (J dd)), (3, .int (J ((y + 1) * 365))), (0, .ref (a 0)), (1, .ref (f 0 h)), (2, .int (J y))]), W p l e (headSpec wsX8_sumOfYear rmX8_sumOfYear).room s m ([.ref (a 0), .ref (f 0 h), .int (J y)] : List Value).toArray below meth c s.heap [] 0 0 (MQ below (k2_QcV (.long (JL (yrO V (L h) h y)) : Value)) ([.ref (a 0), .ref (f 0 h), .int (J y)] : List Value).toArray s 0 0 (fun _ => False)) (F0 m 21 ls []) := by
    intro n
    induction n with
    | zero =>
      intro dd t i0 i1 hm ls hl
      exact absurd hm (by omega)
    | succ n ih21 =>
      intro dd t i0 i1 hm ls hl
      refine lv_iload hx hb dX8_sumOfYear_21 (lv_at hl 0 rfl) ?_
      refine j_si hx hb dX8_sumOfYear_23 (by decide +kernel) ?_
      refine j_cge (tgt := 89) hx hb (by omega) (by omega) (by decide) (by decide) dX8_sumOfYear_26 (by decide) (fun c26 => ?_) (fun c26 => ?_)
      · refine lv_lload hx hb dX8_sumOfYear_89 (lv_at hl 1 rfl) ?_
        exact r_l hx hb hr hlk (congrArg (fun z => Value.long (JL z)) (show (lo (fun x j => x + rlv (cO V (L h) h (365 * y + j))) 0 (dd - 365 * y) : Int) = yrO V (L h) h y from by rw [show dd - 365 * y = 365 by omega]; rfl)) dX8_sumOfYear_91
      · refine lv_iload hx hb dX8_sumOfYear_29 (lv_at hl 2 rfl) ?_
        refine lv_iload_n hx hb dX8_sumOfYear_31 rfl (lv_at hl 3 rfl) ?_
        refine j_cge (tgt := 89) hx hb (by omega) (by omega) (by omega) (by omega) dX8_sumOfYear_32 (by decide) (fun c32 => ?_) (fun c32 => ?_)
        · refine lv_lload hx hb dX8_sumOfYear_89 (lv_at hl 1 rfl) ?_
          exact r_l hx hb hr hlk (congrArg (fun z => Value.long (JL z)) (show (lo (fun x j => x + rlv (cO V (L h) h (365 * y + j))) 0 (dd - 365 * y) : Int) = yrO V (L h) h y from by rw [show dd - 365 * y = 365 by omega]; rfl)) dX8_sumOfYear_91
        · refine lv_aload_n hx hb dX8_sumOfYear_35 rfl (lv_at hl 4 rfl) ?_
          refine j_get (ci := 8) (v := .ref (a 3)) hx hb hts inX8_ hown hK hX rfl 1 (by decide) lk0 (fun _ h9 => h9) rfl dX8_sumOfYear_36 ?_
          refine lv_iload hx hb dX8_sumOfYear_39 (lv_at hl 2 rfl) ?_
          refine lv_aload_n hx hb dX8_sumOfYear_41 rfl (lv_at hl 5 rfl) ?_
          have ce_1 : At G s.heap (f 0 h) (eO 2 [.int (J h), .int (J (V 1 h)), .int (J (V 2 h)), .int (J (V 3 h)), .int (J (V 4 h)), .ref (f 1 h), .int (J (V 5 h))]) := (hT4 h (by omega) (by omega))
          refine j_get (ci := 2) (v := .ref (f 1 h)) hx hb hts inX2_ hown hK ce_1 rfl 5 (by decide) lk1 (fun _ h9 => h9) rfl dX8_sumOfYear_42 ?_
          refine lv_iload hx hb dX8_sumOfYear_45 (lv_at hl 2 rfl) ?_
          refine lv_iload_n hx hb dX8_sumOfYear_47 rfl (lv_at hl 3 rfl) ?_
          have ce_2 : At G s.heap (f 1 h) (eO 1 [.ref (f 2 h), .int (J (((L h).length : Int)))]) := (hE h (by omega) (by omega)).1
          refine k_V (ci := 1) (b := f 1 h) (As := [.int (J dd), .int (J ((y + 1) * 365))]) (rest := [.int (J dd), .ref (a 3)]) (v := .int (J (nxE (L h) dd ((y + 1) * 365)))) hx hb hml hown hts hK hl.1 (c_X1_nextChange l G (f 1 h) (f 2 h) (L h) dd ((y + 1) * 365) ((by omega)) ((by omega))) (cwV 2 hts gX8_sumOfYear_X1_nextChange rfl rfl rfl (by decide +kernel) ⟨Nat.le_of_ble_eq_true rfl, Nat.le_of_ble_eq_true rfl⟩) ce_2 rfl hEh rfl rfl (Nat.le_of_ble_eq_true rfl) dX8_sumOfYear_48 ⟨Nat.zero_le _, Nat.zero_le _⟩ ?_
          have hne := nxE_rng (L := L h) (d := dd) (nx := (y + 1) * 365) hEh.2.2.1 (by omega)
          refine k_V (ci := 3) (b := a 3) (As := [.int (J dd), .int (J (nxE (L h) dd ((y + 1) * 365)))]) (rest := []) (v := .int (J (nxL V dd (nxE (L h) dd ((y + 1) * 365))))) hx hb hml hown hts hK hl.1 (c_X3_nextChange l G (a 3) (a 4) (f 3) (f 4) (f 5) (u 0) (u 1) V dd (nxE (L h) dd ((y + 1) * 365)) (⟨by omega, hne.1⟩) ((by omega))) (cwV 2 hts gX8_sumOfYear_X3_nextChange rfl rfl rfl (by decide +kernel) ⟨Nat.le_of_ble_eq_true rfl, Nat.le_of_ble_eq_true rfl⟩) hL2 rfl hLi rfl rfl (Nat.le_of_ble_eq_true rfl) dX8_sumOfYear_51 ⟨Nat.zero_le _, Nat.zero_le _⟩ ?_
          have hnx := nxL_rng (nx := nxE (L h) dd ((y + 1) * 365)) hV hne.1
          refine lv_istore (lv' := [(8, .int (J (nxL V dd (nxE (L h) dd ((y + 1) * 365))))), (7, .int (J t)), (5, .long (JL (lo (fun x j => x + rlv (cO V (L h) h (365 * y + j))) 0 (dd - 365 * y)))), (4, .int (J dd)), (3, .int (J ((y + 1) * 365))), (0, .ref (a 0)), (1, .ref (f 0 h)), (2, .int (J y))]) hx hb dX8_sumOfYear_54 hl (by decide) rfl (fun ls hl => ?_)
          refine lv_lload hx hb dX8_sumOfYear_56 (lv_at hl 2 rfl) ?_
          refine lv_iload hx hb dX8_sumOfYear_58 (lv_at hl 0 rfl) ?_
          refine lv_iload hx hb dX8_sumOfYear_60 (lv_at hl 3 rfl) ?_
          refine j_sub hx hb dX8_sumOfYear_62 ?_
          refine j_i2l hx hb (by omega) (by omega) dX8_sumOfYear_63 ?_
          refine lv_aload_n hx hb dX8_sumOfYear_64 rfl (lv_at hl 5 rfl) ?_
          refine lv_aload_n hx hb dX8_sumOfYear_65 rfl (lv_at hl 6 rfl) ?_
          refine lv_iload hx hb dX8_sumOfYear_66 (lv_at hl 3 rfl) ?_
          refine k_V (ci := 8) (b := a 0) (As := [.ref (f 0 h), .int (J dd)]) (rest := [.long (JL ((nxL V dd (nxE (L h) dd ((y + 1) * 365))) - dd)), .long (JL (lo (fun x j => x + rlv (cO V (L h) h (365 * y + j))) 0 (dd - 365 * y)))]) (v := .int (J (cO V (L h) h dd))) hx hb hml hown hts hK hl.1 (c_X8_countedOn l G a f L u V h dd ((by omega)) ((by omega))) (cwV 2 hts gX8_sumOfYear_X8_countedOn rfl rfl rfl (by decide +kernel) ⟨Nat.le_of_ble_eq_true rfl, Nat.le_of_ble_eq_true rfl⟩) hX rfl hRB rfl rfl (Nat.le_of_ble_eq_true rfl) dX8_sumOfYear_68 ⟨Nat.zero_le _, Nat.zero_le _⟩ ?_
          have hcr := cO_rng (d := dd) hV hEh.2.2.2.2 h_h.1 h_h.2
          refine k_S (As := [.int (J (cO V (L h) h dd))]) (rest := [.long (JL ((nxL V dd (nxE (L h) dd ((y + 1) * 365))) - dd)), .long (JL (lo (fun x j => x + rlv (cO V (L h) h (365 * y + j))) 0 (dd - 365 * y)))]) (v := .int (J (rlv (cO V (L h) h dd)))) hx hb hml hown hts hK hl.1 (c_X8_relieved l G (cO V (L h) h dd) ((by omega))) (va_cwS 1 hts gX8_sumOfYear_X8_relieved rfl rfl rfl (by decide +kernel) ⟨Nat.le_of_ble_eq_true rfl, Nat.le_of_ble_eq_true rfl⟩) trivial rfl rfl (Nat.le_of_ble_eq_true rfl) dX8_sumOfYear_71 ⟨Nat.zero_le _, Nat.zero_le _⟩ ?_
          have hrr := rlv_rng hcr
          refine j_i2l hx hb (by omega) (by omega) dX8_sumOfYear_74 ?_
          refine j_lmul hx hb dX8_sumOfYear_75 ?_
          refine j_ladd hx hb dX8_sumOfYear_76 ?_
          refine lv_lstore (lv' := [(5, .long (JL ((lo (fun x j => x + rlv (cO V (L h) h (365 * y + j))) 0 (dd - 365 * y)) + (((nxL V dd (nxE (L h) dd ((y + 1) * 365))) - dd) * (rlv (cO V (L h) h dd)))))), (8, .int (J (nxL V dd (nxE (L h) dd ((y + 1) * 365))))), (7, .int (J t)), (4, .int (J dd)), (3, .int (J ((y + 1) * 365))), (0, .ref (a 0)), (1, .ref (f 0 h)), (2, .int (J y))]) hx hb dX8_sumOfYear_77 hl (by decide) rfl (fun ls hl => ?_)
          refine lv_iload hx hb dX8_sumOfYear_79 (lv_at hl 1 rfl) ?_
          refine lv_istore (lv' := [(4, .int (J (nxL V dd (nxE (L h) dd ((y + 1) * 365))))), (5, .long (JL ((lo (fun x j => x + rlv (cO V (L h) h (365 * y + j))) 0 (dd - 365 * y)) + (((nxL V dd (nxE (L h) dd ((y + 1) * 365))) - dd) * (rlv (cO V (L h) h dd)))))), (8, .int (J (nxL V dd (nxE (L h) dd ((y + 1) * 365))))), (7, .int (J t)), (3, .int (J ((y + 1) * 365))), (0, .ref (a 0)), (1, .ref (f 0 h)), (2, .int (J y))]) hx hb dX8_sumOfYear_81 hl (by decide) rfl (fun ls hl => ?_)
          refine lv_iinc (v := J (t + 1)) (lv' := [(7, .int (J (t + 1))), (4, .int (J (nxL V dd (nxE (L h) dd ((y + 1) * 365))))), (5, .long (JL ((lo (fun x j => x + rlv (cO V (L h) h (365 * y + j))) 0 (dd - 365 * y)) + (((nxL V dd (nxE (L h) dd ((y + 1) * 365))) - dd) * (rlv (cO V (L h) h dd)))))), (8, .int (J (nxL V dd (nxE (L h) dd ((y + 1) * 365))))), (3, .int (J ((y + 1) * 365))), (0, .ref (a 0)), (1, .ref (f 0 h)), (2, .int (J y))]) hx hb dX8_sumOfYear_83 hl (k := 3) rfl (J_add _ _) (by decide) rfl (fun ls hl => ?_)
          refine lv_goto (tgt := 21) hx hb dX8_sumOfYear_86 (by decide) ?_
          exact ih21 (nxL V dd (nxE (L h) dd ((y + 1) * 365))) (t + 1) (by omega) (by omega) (by omega) _ (lv_sub hl [0, 2, 1, 4, 5, 6, 7] (by rw [show (lo (fun x j => x + rlv (cO V (L h) h (365 * y + j))) 0 ((nxL V dd (nxE (L h) dd ((y + 1) * 365))) - 365 * y) : Int) = (lo (fun x j => x + rlv (cO V (L h) h (365 * y + j))) 0 (dd - 365 * y)) + (((nxL V dd (nxE (L h) dd ((y + 1) * 365))) - dd) * (rlv (cO V (L h) h dd))) from (by exact yr_seg hV hEh.2.2.1 (by omega) (by omega))]; try rfl))
  exact lp21 367 (y * 365) 0 (by omega) (by omega) (by omega) _ (lv_sub hl [0, 1, 2, 3, 4, 5, 6] (by rw [show (lo (fun x j => x + rlv (cO V (L h) h (365 * y + j))) 0 ((y * 365) - 365 * y) : Int) = 0 from (by rw [show y * 365 - 365 * y = 0 by omega]; rfl)]; try rfl))

abbrev rmX8_on : Room := { frames := 4, cells := 0, slots := 0, locals := 95 }
set_option maxHeartbeats 4000000 in
set_option maxRecDepth 100000 in
theorem c_X8_on (l : Launch) (G : GG) (a : Nat → Nat) (f : Nat → Int → Nat) (L : Int → List EvT) (u : Nat → Int → Int) (V : St) (h d k : Int) (g_h : -2147483648 ≤ h ∧ h < 2147483648) (g_d : -2147483648 ≤ d ∧ d < 2147483648) (g_k : -2147483648 ≤ k ∧ k < 2147483648) : MP l G yX8_on wsX8_on rmX8_on [.ref (a 0), .int (J h), .int (J d), .int (J k)] (fun H => RB G H a f L u V) (.int (J (if (0 ≤ h ∧ h < V 0 0) ∧ (0 ≤ d ∧ d < 3650) ∧ 0 ≤ k ∧ k ≤ 5 then (if k = 0 then szO (L h) (V 4 h) d else if k = 1 then usO (L h) d else if k = 2 then wO V (L h) h d else if k = 3 then cO V (L h) h d else if k = 4 then rlv (cO V (L h) h d) else stO V d) else -1)) : Value) := by
  refine MP.of (cc := cX8_on) (maxL := 5) (ret := (some .int)) (by decide) rfl (Nat.le_of_ble_eq_true rfl) ?_
  intro p e s m below meth c hx hb hr hml hown hts hlk hK hP ls hl
  have hown : s.vm.findClass RX8 = some m.cls := hown
  have hl : lv_has ls 5 [(0, .ref (a 0)), (1, .int (J h)), (2, .int (J d)), (3, .int (J k))] := hl
  have inX8_ : ∀ w ∈ u_ws RX8 TX8 4, w ∈ wsX8_on := by decide +kernel
  have lk0 := hts (.fieldLink RX8 12 "RateBook" "town" "LRateBook$Town;") (by decide +kernel)
  have lk1 := hts (.fieldLink RX8 19 "RateBook" "lists" "LRateBook$Lists;") (by decide +kernel)
  have hRB : RB G s.heap a f L u V := hP
  obtain ⟨hV, hX, hT, hE, hLi, hBa, hBk⟩ := id hRB
  obtain ⟨hT1, hT2, hT3, hT4⟩ := id hT
  obtain ⟨hL1, hL2, hL3, hL4, hL5, hL6⟩ := id hLi
  have hn := hV.n
  have hnl := hV.l
  refine lv_aload_n hx hb dX8_on_0 rfl (lv_at hl 0 rfl) ?_
  refine j_get (ci := 8) (v := .ref (a 1)) hx hb hts inX8_ hown hK hX rfl 0 (by decide) lk0 (fun _ h9 => h9) rfl dX8_on_1 ?_
  refine lv_iload_n hx hb dX8_on_4 rfl (lv_at hl 1 rfl) ?_
  refine k_V (ci := 5) (b := a 1) (As := [.int (J h)]) (rest := []) (v := va_rf (qN (V 0 0) (f 0) h)) hx hb hml hown hts hK hl.1 (c_X5_at l G (a 1) (a 2) (f 0) (f 1) V h ((by omega))) (cwV 1 hts gX8_on_X5_at rfl rfl rfl (by decide +kernel) ⟨Nat.le_of_ble_eq_true rfl, Nat.le_of_ble_eq_true rfl⟩) hT2 rfl hT rfl rfl (Nat.le_of_ble_eq_true rfl) dX8_on_5 ⟨Nat.zero_le _, Nat.zero_le _⟩ ?_
  by_cases sp5 : 0 ≤ h ∧ h < V 0 0
  · refine j_qs (b := f 0 h) (qN_s sp5) ?_
    have hce_1 : At G s.heap (f 0 h) (eHo V (f 1) h) := hT4 h sp5.1 sp5.2
    have hih_2 := hT1.h sp5.1 sp5.2
    refine lv_astore (lv' := [(4, .ref (f 0 h)), (0, .ref (a 0)), (1, .int (J h)), (2, .int (J d)), (3, .int (J k))]) hx hb dX8_on_8 hl (by decide) rfl (fun ls hl => ?_)
    refine lv_aload hx hb dX8_on_10 (lv_at hl 0 rfl) ?_
    refine lv_ifnull hx hb dX8_on_12 ?_
    refine lv_iload_n hx hb dX8_on_15 rfl (lv_at hl 3 rfl) ?_
    refine j_si hx hb dX8_on_16 (by decide +kernel) ?_
    refine k_S (As := [.int (J d), .int (J 3650)]) (rest := []) (v := .int (J (pI (0 ≤ d ∧ d < 3650)))) hx hb hml hown hts hK hl.1 (c_X8_isOf l G d 3650 ((by omega)) ((by omega))) (va_cwS 2 hts gX8_on_X8_isOf rfl rfl rfl (by decide +kernel) ⟨Nat.le_of_ble_eq_true rfl, Nat.le_of_ble_eq_true rfl⟩) trivial rfl rfl (Nat.le_of_ble_eq_true rfl) dX8_on_19 ⟨Nat.zero_le _, Nat.zero_le _⟩ ?_
    refine j_neP (tgt := 27) hx hb dX8_on_22 (by decide) (fun c22 => ?_) (fun c22 => ?_)
    · refine lv_iload_n hx hb dX8_on_27 rfl (lv_at hl 4 rfl) ?_
      rcases (show k = 0 ∨ k = 1 ∨ k = 2 ∨ k = 3 ∨ k = 4 ∨ k = 5 ∨ (k < 0 ∨ 5 < k) by omega) with c28 | c28 | c28 | c28 | c28 | c28 | c28
      · refine j_tabIn (tgt := 68) hx hb 0 c28 (by decide) (by decide) dX8_on_28 (by decide) (by decide) rfl (by decide) ?_
        have hEh := hE h (by omega) (by omega)
        have hih2 := hV.h (i := h) (by omega) (by omega)
        refine lv_aload hx hb dX8_on_68 (lv_at hl 0 rfl) ?_
        refine lv_iload_n hx hb dX8_on_70 rfl (lv_at hl 3 rfl) ?_
        refine k_V (ci := 2) (b := f 0 h) (As := [.int (J d)]) (rest := []) (v := .int (J (szO (L h) (V 4 h) d))) hx hb hml hown hts hK hl.1 (c_X2_sizeOn l G (f 0) (f 1) (f 2) V (L h) h d ((by omega)) hih2 ((by omega))) (cwV 1 hts gX8_on_X2_sizeOn rfl rfl rfl (by decide +kernel) ⟨Nat.le_of_ble_eq_true rfl, Nat.le_of_ble_eq_true rfl⟩) hce_1 rfl (⟨hT4 h (by omega) (by omega), hEh⟩) rfl rfl (Nat.le_of_ble_eq_true rfl) dX8_on_71 ⟨Nat.zero_le _, Nat.zero_le _⟩ ?_
        exact r_i hx hb hr hlk (congrArg (fun z => Value.int (J z)) (show (szO (L h) (V 4 h) d : Int) = if (0 ≤ h ∧ h < V 0 0) ∧ (0 ≤ d ∧ d < 3650) ∧ 0 ≤ k ∧ k ≤ 5 then (if k = 0 then szO (L h) (V 4 h) d else if k = 1 then usO (L h) d else if k = 2 then wO V (L h) h d else if k = 3 then cO V (L h) h d else if k = 4 then rlv (cO V (L h) h d) else stO V d) else -1 from by rw [if_pos (by omega)]; rw [if_pos (by omega)])) dX8_on_74
      · refine j_tabIn (tgt := 75) hx hb 1 c28 (by decide) (by decide) dX8_on_28 (by decide) (by decide) rfl (by decide) ?_
        have hEh := hE h (by omega) (by omega)
        have hih2 := hV.h (i := h) (by omega) (by omega)
        refine lv_aload hx hb dX8_on_75 (lv_at hl 0 rfl) ?_
        refine lv_iload_n hx hb dX8_on_77 rfl (lv_at hl 3 rfl) ?_
        refine k_V (ci := 2) (b := f 0 h) (As := [.int (J d)]) (rest := []) (v := .int (J (usO (L h) d))) hx hb hml hown hts hK hl.1 (c_X2_useOn l G (f 0) (f 1) (f 2) V (L h) h d ((by omega)) hih2 ((by omega))) (cwV 1 hts gX8_on_X2_useOn rfl rfl rfl (by decide +kernel) ⟨Nat.le_of_ble_eq_true rfl, Nat.le_of_ble_eq_true rfl⟩) hce_1 rfl (⟨hT4 h (by omega) (by omega), hEh⟩) rfl rfl (Nat.le_of_ble_eq_true rfl) dX8_on_78 ⟨Nat.zero_le _, Nat.zero_le _⟩ ?_
        exact r_i hx hb hr hlk (congrArg (fun z => Value.int (J z)) (show (usO (L h) d : Int) = if (0 ≤ h ∧ h < V 0 0) ∧ (0 ≤ d ∧ d < 3650) ∧ 0 ≤ k ∧ k ≤ 5 then (if k = 0 then szO (L h) (V 4 h) d else if k = 1 then usO (L h) d else if k = 2 then wO V (L h) h d else if k = 3 then cO V (L h) h d else if k = 4 then rlv (cO V (L h) h d) else stO V d) else -1 from by rw [if_pos (by omega)]; rw [if_neg (by omega)]; rw [if_pos (by omega)])) dX8_on_81
      · refine j_tabIn (tgt := 82) hx hb 2 c28 (by decide) (by decide) dX8_on_28 (by decide) (by decide) rfl (by decide) ?_
        have hEh := hE h (by omega) (by omega)
        have hih2 := hV.h (i := h) (by omega) (by omega)
        refine lv_aload_n hx hb dX8_on_82 rfl (lv_at hl 1 rfl) ?_
        refine lv_aload hx hb dX8_on_83 (lv_at hl 0 rfl) ?_
        refine lv_iload_n hx hb dX8_on_85 rfl (lv_at hl 3 rfl) ?_
        refine k_V (ci := 8) (b := a 0) (As := [.ref (f 0 h), .int (J d)]) (rest := []) (v := .int (J (wO V (L h) h d))) hx hb hml hown hts hK hl.1 (c_X8_worthOn l G a f L u V h d ((by omega)) ((by omega))) (cwV 2 hts gX8_on_X8_worthOn rfl rfl rfl (by decide +kernel) ⟨Nat.le_of_ble_eq_true rfl, Nat.le_of_ble_eq_true rfl⟩) hX rfl hRB rfl rfl (Nat.le_of_ble_eq_true rfl) dX8_on_86 ⟨Nat.zero_le _, Nat.zero_le _⟩ ?_
        exact r_i hx hb hr hlk (congrArg (fun z => Value.int (J z)) (show (wO V (L h) h d : Int) = if (0 ≤ h ∧ h < V 0 0) ∧ (0 ≤ d ∧ d < 3650) ∧ 0 ≤ k ∧ k ≤ 5 then (if k = 0 then szO (L h) (V 4 h) d else if k = 1 then usO (L h) d else if k = 2 then wO V (L h) h d else if k = 3 then cO V (L h) h d else if k = 4 then rlv (cO V (L h) h d) else stO V d) else -1 from by rw [if_pos (by omega)]; rw [if_neg (by omega)]; rw [if_neg (by omega)]; rw [if_pos (by omega)])) dX8_on_89
      · refine j_tabIn (tgt := 90) hx hb 3 c28 (by decide) (by decide) dX8_on_28 (by decide) (by decide) rfl (by decide) ?_
        have hEh := hE h (by omega) (by omega)
        have hih2 := hV.h (i := h) (by omega) (by omega)
        refine lv_aload_n hx hb dX8_on_90 rfl (lv_at hl 1 rfl) ?_
        refine lv_aload hx hb dX8_on_91 (lv_at hl 0 rfl) ?_
        refine lv_iload_n hx hb dX8_on_93 rfl (lv_at hl 3 rfl) ?_
        refine k_V (ci := 8) (b := a 0) (As := [.ref (f 0 h), .int (J d)]) (rest := []) (v := .int (J (cO V (L h) h d))) hx hb hml hown hts hK hl.1 (c_X8_countedOn l G a f L u V h d ((by omega)) ((by omega))) (cwV 2 hts gX8_on_X8_countedOn rfl rfl rfl (by decide +kernel) ⟨Nat.le_of_ble_eq_true rfl, Nat.le_of_ble_eq_true rfl⟩) hX rfl hRB rfl rfl (Nat.le_of_ble_eq_true rfl) dX8_on_94 ⟨Nat.zero_le _, Nat.zero_le _⟩ ?_
        exact r_i hx hb hr hlk (congrArg (fun z => Value.int (J z)) (show (cO V (L h) h d : Int) = if (0 ≤ h ∧ h < V 0 0) ∧ (0 ≤ d ∧ d < 3650) ∧ 0 ≤ k ∧ k ≤ 5 then (if k = 0 then szO (L h) (V 4 h) d else if k = 1 then usO (L h) d else if k = 2 then wO V (L h) h d else if k = 3 then cO V (L h) h d else if k = 4 then rlv (cO V (L h) h d) else stO V d) else -1 from by rw [if_pos (by omega)]; rw [if_neg (by omega)]; rw [if_neg (by omega)]; rw [if_neg (by omega)]; rw [if_pos (by omega)])) dX8_on_97
      · refine j_tabIn (tgt := 98) hx hb 4 c28 (by decide) (by decide) dX8_on_28 (by decide) (by decide) rfl (by decide) ?_
        have hEh := hE h (by omega) (by omega)
        have hih2 := hV.h (i := h) (by omega) (by omega)
        have hcr := cO_rng (h := h) (d := d) hV hEh.2.2.2.2 (by omega) (by omega)
        refine lv_aload_n hx hb dX8_on_98 rfl (lv_at hl 1 rfl) ?_
        refine lv_aload hx hb dX8_on_99 (lv_at hl 0 rfl) ?_
        refine lv_iload_n hx hb dX8_on_101 rfl (lv_at hl 3 rfl) ?_
        refine k_V (ci := 8) (b := a 0) (As := [.ref (f 0 h), .int (J d)]) (rest := []) (v := .int (J (cO V (L h) h d))) hx hb hml hown hts hK hl.1 (c_X8_countedOn l G a f L u V h d ((by omega)) ((by omega))) (cwV 2 hts gX8_on_X8_countedOn rfl rfl rfl (by decide +kernel) ⟨Nat.le_of_ble_eq_true rfl, Nat.le_of_ble_eq_true rfl⟩) hX rfl hRB rfl rfl (Nat.le_of_ble_eq_true rfl) dX8_on_102 ⟨Nat.zero_le _, Nat.zero_le _⟩ ?_
        refine k_S (As := [.int (J (cO V (L h) h d))]) (rest := []) (v := .int (J (rlv (cO V (L h) h d)))) hx hb hml hown hts hK hl.1 (c_X8_relieved l G (cO V (L h) h d) ((by omega))) (va_cwS 1 hts gX8_on_X8_relieved rfl rfl rfl (by decide +kernel) ⟨Nat.le_of_ble_eq_true rfl, Nat.le_of_ble_eq_true rfl⟩) trivial rfl rfl (Nat.le_of_ble_eq_true rfl) dX8_on_105 ⟨Nat.zero_le _, Nat.zero_le _⟩ ?_
        exact r_i hx hb hr hlk (congrArg (fun z => Value.int (J z)) (show (rlv (cO V (L h) h d) : Int) = if (0 ≤ h ∧ h < V 0 0) ∧ (0 ≤ d ∧ d < 3650) ∧ 0 ≤ k ∧ k ≤ 5 then (if k = 0 then szO (L h) (V 4 h) d else if k = 1 then usO (L h) d else if k = 2 then wO V (L h) h d else if k = 3 then cO V (L h) h d else if k = 4 then rlv (cO V (L h) h d) else stO V d) else -1 from by rw [if_pos (by omega)]; rw [if_neg (by omega)]; rw [if_neg (by omega)]; rw [if_neg (by omega)]; rw [if_neg (by omega)]; rw [if_pos (by omega)])) dX8_on_108
      · refine j_tabIn (tgt := 109) hx hb 5 c28 (by decide) (by decide) dX8_on_28 (by decide) (by decide) rfl (by decide) ?_
        refine lv_aload_n hx hb dX8_on_109 rfl (lv_at hl 1 rfl) ?_
        refine j_get (ci := 8) (v := .ref (a 3)) hx hb hts inX8_ hown hK hX rfl 1 (by decide) lk1 (fun _ h9 => h9) rfl dX8_on_110 ?_
        refine lv_iload_n hx hb dX8_on_113 rfl (lv_at hl 3 rfl) ?_
        refine k_V (ci := 3) (b := a 3) (As := [.int (J d)]) (rest := []) (v := .int (J (stO V d))) hx hb hml hown hts hK hl.1 (c_X3_standingOn l G (a 3) (a 4) (f 3) (f 4) (f 5) (u 0) (u 1) V d ((by omega))) (cwV 1 hts gX8_on_X3_standingOn rfl rfl rfl (by decide +kernel) ⟨Nat.le_of_ble_eq_true rfl, Nat.le_of_ble_eq_true rfl⟩) hL2 rfl hLi rfl rfl (Nat.le_of_ble_eq_true rfl) dX8_on_114 ⟨Nat.zero_le _, Nat.zero_le _⟩ ?_
        exact r_i hx hb hr hlk (congrArg (fun z => Value.int (J z)) (show (stO V d : Int) = if (0 ≤ h ∧ h < V 0 0) ∧ (0 ≤ d ∧ d < 3650) ∧ 0 ≤ k ∧ k ≤ 5 then (if k = 0 then szO (L h) (V 4 h) d else if k = 1 then usO (L h) d else if k = 2 then wO V (L h) h d else if k = 3 then cO V (L h) h d else if k = 4 then rlv (cO V (L h) h d) else stO V d) else -1 from by rw [if_pos (by omega)]; rw [if_neg (by omega)]; rw [if_neg (by omega)]; rw [if_neg (by omega)]; rw [if_neg (by omega)]; rw [if_neg (by omega)])) dX8_on_117
      · refine j_tabOut (tgt := 118) hx hb (by omega) (by omega) dX8_on_28 c28 (by decide) ?_
        refine j_const hx hb dX8_on_118 ?_
        exact r_i hx hb hr hlk (congrArg (fun z => Value.int (J z)) (show ((-1) : Int) = if (0 ≤ h ∧ h < V 0 0) ∧ (0 ≤ d ∧ d < 3650) ∧ 0 ≤ k ∧ k ≤ 5 then (if k = 0 then szO (L h) (V 4 h) d else if k = 1 then usO (L h) d else if k = 2 then wO V (L h) h d else if k = 3 then cO V (L h) h d else if k = 4 then rlv (cO V (L h) h d) else stO V d) else -1 from by rw [if_neg (by omega)])) dX8_on_119
    · refine j_const hx hb dX8_on_25 ?_
      exact r_i hx hb hr hlk (congrArg (fun z => Value.int (J z)) (show ((-1) : Int) = if (0 ≤ h ∧ h < V 0 0) ∧ (0 ≤ d ∧ d < 3650) ∧ 0 ≤ k ∧ k ≤ 5 then (if k = 0 then szO (L h) (V 4 h) d else if k = 1 then usO (L h) d else if k = 2 then wO V (L h) h d else if k = 3 then cO V (L h) h d else if k = 4 then rlv (cO V (L h) h d) else stO V d) else -1 from by rw [if_neg (by omega)])) dX8_on_26
  · refine j_qn (qN_n sp5) ?_
    refine lv_astoreN (lv' := [(4, .null), (0, .ref (a 0)), (1, .int (J h)), (2, .int (J d)), (3, .int (J k))]) hx hb dX8_on_8 hl (by decide) rfl (fun ls hl => ?_)
    refine lv_aloadN hx hb dX8_on_10 (lv_at hl 0 rfl) ?_
    refine lv_ifnullN (tgt := 25) hx hb dX8_on_12 (by decide) ?_
    refine j_const hx hb dX8_on_25 ?_
    exact r_i hx hb hr hlk (congrArg (fun z => Value.int (J z)) (show ((-1) : Int) = if (0 ≤ h ∧ h < V 0 0) ∧ (0 ≤ d ∧ d < 3650) ∧ 0 ≤ k ∧ k ≤ 5 then (if k = 0 then szO (L h) (V 4 h) d else if k = 1 then usO (L h) d else if k = 2 then wO V (L h) h d else if k = 3 then cO V (L h) h d else if k = 4 then rlv (cO V (L h) h d) else stO V d) else -1 from by rw [if_neg (by omega)])) dX8_on_26

abbrev rmX8_year : Room := { frames := 5, cells := 0, slots := 0, locals := 123 }
set_option maxHeartbeats 4000000 in
set_option maxRecDepth 100000 in
theorem c_X8_year (l : Launch) (G : GG) (a : Nat → Nat) (f : Nat → Int → Nat) (L : Int → List EvT) (u : Nat → Int → Int) (V : St) (h y : Int) (g_h : -2147483648 ≤ h ∧ h < 2147483648) (g_y : -2147483648 ≤ y ∧ y < 2147483648) : MP l G yX8_year wsX8_year rmX8_year [.ref (a 0), .int (J h), .int (J y)] (fun H => RB G H a f L u V) (.long (JL (if (0 ≤ h ∧ h < V 0 0) ∧ 0 ≤ y ∧ y < 10 then yrO V (L h) h y else -1)) : Value) := by
  refine MP.of (cc := cX8_year) (maxL := 4) (ret := (some .long)) (by decide) rfl (Nat.le_of_ble_eq_true rfl) ?_
  intro p e s m below meth c hx hb hr hml hown hts hlk hK hP ls hl
  have hown : s.vm.findClass RX8 = some m.cls := hown
  have hl : lv_has ls 4 [(0, .ref (a 0)), (1, .int (J h)), (2, .int (J y))] := hl
  have inX8_ : ∀ w ∈ u_ws RX8 TX8 4, w ∈ wsX8_year := by decide +kernel
  have lk0 := hts (.fieldLink RX8 12 "RateBook" "town" "LRateBook$Town;") (by decide +kernel)
  have lk1 := hts (.constantLong RX8 148 (-1)) (by decide +kernel)
  have hRB : RB G s.heap a f L u V := hP
  obtain ⟨hV, hX, hT, hE, hLi, hBa, hBk⟩ := id hRB
  obtain ⟨hT1, hT2, hT3, hT4⟩ := id hT
  obtain ⟨hL1, hL2, hL3, hL4, hL5, hL6⟩ := id hLi
  have hn := hV.n
  have hnl := hV.l
  refine lv_aload_n hx hb dX8_year_0 rfl (lv_at hl 0 rfl) ?_
  refine j_get (ci := 8) (v := .ref (a 1)) hx hb hts inX8_ hown hK hX rfl 0 (by decide) lk0 (fun _ h9 => h9) rfl dX8_year_1 ?_
  refine lv_iload_n hx hb dX8_year_4 rfl (lv_at hl 1 rfl) ?_
  refine k_V (ci := 5) (b := a 1) (As := [.int (J h)]) (rest := []) (v := va_rf (qN (V 0 0) (f 0) h)) hx hb hml hown hts hK hl.1 (c_X5_at l G (a 1) (a 2) (f 0) (f 1) V h ((by omega))) (cwV 1 hts gX8_year_X5_at rfl rfl rfl (by decide +kernel) ⟨Nat.le_of_ble_eq_true rfl, Nat.le_of_ble_eq_true rfl⟩) hT2 rfl hT rfl rfl (Nat.le_of_ble_eq_true rfl) dX8_year_5 ⟨Nat.zero_le _, Nat.zero_le _⟩ ?_
  by_cases sp5 : 0 ≤ h ∧ h < V 0 0
  · refine j_qs (b := f 0 h) (qN_s sp5) ?_
    have hce_1 : At G s.heap (f 0 h) (eHo V (f 1) h) := hT4 h sp5.1 sp5.2
    have hih_2 := hT1.h sp5.1 sp5.2
    refine lv_astore_n (lv' := [(3, .ref (f 0 h)), (0, .ref (a 0)), (1, .int (J h)), (2, .int (J y))]) hx hb dX8_year_8 rfl hl (by decide) rfl (fun ls hl => ?_)
    refine lv_aload_n hx hb dX8_year_9 rfl (lv_at hl 0 rfl) ?_
    refine lv_ifnull hx hb dX8_year_10 ?_
    refine lv_iload_n hx hb dX8_year_13 rfl (lv_at hl 3 rfl) ?_
    refine j_bi hx hb dX8_year_14 (by decide +kernel) ?_
    refine k_S (As := [.int (J y), .int (J 10)]) (rest := []) (v := .int (J (pI (0 ≤ y ∧ y < 10)))) hx hb hml hown hts hK hl.1 (c_X8_isOf l G y 10 ((by omega)) ((by omega))) (va_cwS 2 hts gX8_year_X8_isOf rfl rfl rfl (by decide +kernel) ⟨Nat.le_of_ble_eq_true rfl, Nat.le_of_ble_eq_true rfl⟩) trivial rfl rfl (Nat.le_of_ble_eq_true rfl) dX8_year_16 ⟨Nat.zero_le _, Nat.zero_le _⟩ ?_
    refine j_neP (tgt := 28) hx hb dX8_year_19 (by decide) (fun c19 => ?_) (fun c19 => ?_)
    · refine lv_aload_n hx hb dX8_year_28 rfl (lv_at hl 1 rfl) ?_
      refine lv_aload_n hx hb dX8_year_29 rfl (lv_at hl 0 rfl) ?_
      refine lv_iload_n hx hb dX8_year_30 rfl (lv_at hl 3 rfl) ?_
      refine k_V (ci := 8) (b := a 0) (As := [.ref (f 0 h), .int (J y)]) (rest := []) (v := .long (JL (yrO V (L h) h y))) hx hb hml hown hts hK hl.1 (c_X8_sumOfYear l G a f L u V h y ((by omega)) ((by omega))) (cwV 2 hts gX8_year_X8_sumOfYear rfl rfl rfl (by decide +kernel) ⟨Nat.le_of_ble_eq_true rfl, Nat.le_of_ble_eq_true rfl⟩) hX rfl hRB rfl rfl (Nat.le_of_ble_eq_true rfl) dX8_year_31 ⟨Nat.zero_le _, Nat.zero_le _⟩ ?_
      exact r_l hx hb hr hlk (congrArg (fun z => Value.long (JL z)) (show (yrO V (L h) h y : Int) = if (0 ≤ h ∧ h < V 0 0) ∧ 0 ≤ y ∧ y < 10 then yrO V (L h) h y else -1 from by rw [if_pos (by omega)])) dX8_year_34
    · refine j_ldc2 hx hb hown lk1 (z := (-1)) rfl dX8_year_22 ?_
      refine lv_goto (tgt := 34) hx hb dX8_year_25 (by decide) ?_
      exact r_l hx hb hr hlk (congrArg (fun z => Value.long (JL z)) (show ((-1) : Int) = if (0 ≤ h ∧ h < V 0 0) ∧ 0 ≤ y ∧ y < 10 then yrO V (L h) h y else -1 from by rw [if_neg (by omega)])) dX8_year_34
  · refine j_qn (qN_n sp5) ?_
    refine lv_astore_nN (lv' := [(3, .null), (0, .ref (a 0)), (1, .int (J h)), (2, .int (J y))]) hx hb dX8_year_8 rfl hl (by decide) rfl (fun ls hl => ?_)
    refine lv_aload_nN hx hb dX8_year_9 rfl (lv_at hl 0 rfl) ?_
    refine lv_ifnullN (tgt := 22) hx hb dX8_year_10 (by decide) ?_
    refine j_ldc2 hx hb hown lk1 (z := (-1)) rfl dX8_year_22 ?_
    refine lv_goto (tgt := 34) hx hb dX8_year_25 (by decide) ?_
    exact r_l hx hb hr hlk (congrArg (fun z => Value.long (JL z)) (show ((-1) : Int) = if (0 ≤ h ∧ h < V 0 0) ∧ 0 ≤ y ∧ y < 10 then yrO V (L h) h y else -1 from by rw [if_neg (by omega)])) dX8_year_34

abbrev rmX8_bill : Room := { frames := 5, cells := 0, slots := 0, locals := 123 }
set_option maxHeartbeats 4000000 in
set_option maxRecDepth 100000 in
theorem c_X8_bill (l : Launch) (G : GG) (a : Nat → Nat) (f : Nat → Int → Nat) (L : Int → List EvT) (u : Nat → Int → Int) (V : St) (h y p_ : Int) (g_h : -2147483648 ≤ h ∧ h < 2147483648) (g_y : -2147483648 ≤ y ∧ y < 2147483648) (g_p_ : -2147483648 ≤ p_ ∧ p_ < 2147483648) : MP l G yX8_bill wsX8_bill rmX8_bill [.ref (a 0), .int (J h), .int (J y), .int (J p_)] (fun H => RB G H a f L u V) (.int (J (if (0 ≤ h ∧ h < V 0 0) ∧ (0 ≤ y ∧ y < 10) ∧ 0 ≤ p_ ∧ p_ ≤ 3000 then yrO V (L h) h y * p_ / 365000 else -1)) : Value) := by
  refine MP.of (cc := cX8_bill) (maxL := 5) (ret := (some .int)) (by decide) rfl (Nat.le_of_ble_eq_true rfl) ?_
  intro p e s m below meth c hx hb hr hml hown hts hlk hK hP ls hl
  have hown : s.vm.findClass RX8 = some m.cls := hown
  have hl : lv_has ls 5 [(0, .ref (a 0)), (1, .int (J h)), (2, .int (J y)), (3, .int (J p_))] := hl
  have inX8_ : ∀ w ∈ u_ws RX8 TX8 4, w ∈ wsX8_bill := by decide +kernel
  have lk0 := hts (.fieldLink RX8 12 "RateBook" "town" "LRateBook$Town;") (by decide +kernel)
  have hRB : RB G s.heap a f L u V := hP
  obtain ⟨hV, hX, hT, hE, hLi, hBa, hBk⟩ := id hRB
  obtain ⟨hT1, hT2, hT3, hT4⟩ := id hT
  obtain ⟨hL1, hL2, hL3, hL4, hL5, hL6⟩ := id hLi
  have hn := hV.n
  have hnl := hV.l
  refine lv_aload_n hx hb dX8_bill_0 rfl (lv_at hl 0 rfl) ?_
  refine j_get (ci := 8) (v := .ref (a 1)) hx hb hts inX8_ hown hK hX rfl 0 (by decide) lk0 (fun _ h9 => h9) rfl dX8_bill_1 ?_
  refine lv_iload_n hx hb dX8_bill_4 rfl (lv_at hl 1 rfl) ?_
  refine k_V (ci := 5) (b := a 1) (As := [.int (J h)]) (rest := []) (v := va_rf (qN (V 0 0) (f 0) h)) hx hb hml hown hts hK hl.1 (c_X5_at l G (a 1) (a 2) (f 0) (f 1) V h ((by omega))) (cwV 1 hts gX8_bill_X5_at rfl rfl rfl (by decide +kernel) ⟨Nat.le_of_ble_eq_true rfl, Nat.le_of_ble_eq_true rfl⟩) hT2 rfl hT rfl rfl (Nat.le_of_ble_eq_true rfl) dX8_bill_5 ⟨Nat.zero_le _, Nat.zero_le _⟩ ?_
  by_cases sp5 : 0 ≤ h ∧ h < V 0 0
  · refine j_qs (b := f 0 h) (qN_s sp5) ?_
    have hce_1 : At G s.heap (f 0 h) (eHo V (f 1) h) := hT4 h sp5.1 sp5.2
    have hih_2 := hT1.h sp5.1 sp5.2
    refine lv_astore (lv' := [(4, .ref (f 0 h)), (0, .ref (a 0)), (1, .int (J h)), (2, .int (J y)), (3, .int (J p_))]) hx hb dX8_bill_8 hl (by decide) rfl (fun ls hl => ?_)
    refine lv_aload hx hb dX8_bill_10 (lv_at hl 0 rfl) ?_
    refine lv_ifnull hx hb dX8_bill_12 ?_
    refine lv_iload_n hx hb dX8_bill_15 rfl (lv_at hl 3 rfl) ?_
    refine j_bi hx hb dX8_bill_16 (by decide +kernel) ?_
    refine k_S (As := [.int (J y), .int (J 10)]) (rest := []) (v := .int (J (pI (0 ≤ y ∧ y < 10)))) hx hb hml hown hts hK hl.1 (c_X8_isOf l G y 10 ((by omega)) ((by omega))) (va_cwS 2 hts gX8_bill_X8_isOf rfl rfl rfl (by decide +kernel) ⟨Nat.le_of_ble_eq_true rfl, Nat.le_of_ble_eq_true rfl⟩) trivial rfl rfl (Nat.le_of_ble_eq_true rfl) dX8_bill_18 ⟨Nat.zero_le _, Nat.zero_le _⟩ ?_
    refine j_eqP (tgt := 35) hx hb dX8_bill_21 (by decide) (fun c21 => ?_) (fun c21 => ?_)
    · refine j_const hx hb dX8_bill_35 ?_
      exact r_i hx hb hr hlk (congrArg (fun z => Value.int (J z)) (show ((-1) : Int) = if (0 ≤ h ∧ h < V 0 0) ∧ (0 ≤ y ∧ y < 10) ∧ 0 ≤ p_ ∧ p_ ≤ 3000 then yrO V (L h) h y * p_ / 365000 else -1 from by rw [if_neg (by omega)])) dX8_bill_36
    · refine lv_iload_n hx hb dX8_bill_24 rfl (lv_at hl 4 rfl) ?_
      refine j_const hx hb dX8_bill_25 ?_
      refine j_si hx hb dX8_bill_26 (by decide +kernel) ?_
      refine k_S (As := [.int (J p_), .int (J 0), .int (J 3000)]) (rest := []) (v := .int (J (pI (0 ≤ p_ ∧ p_ ≤ 3000)))) hx hb hml hown hts hK hl.1 (c_X8_isWithin l G p_ 0 3000 ((by omega)) ((by omega)) ((by omega))) (va_cwS 3 hts gX8_bill_X8_isWithin rfl rfl rfl (by decide +kernel) ⟨Nat.le_of_ble_eq_true rfl, Nat.le_of_ble_eq_true rfl⟩) trivial rfl rfl (Nat.le_of_ble_eq_true rfl) dX8_bill_29 ⟨Nat.zero_le _, Nat.zero_le _⟩ ?_
      refine j_neP (tgt := 37) hx hb dX8_bill_32 (by decide) (fun c32 => ?_) (fun c32 => ?_)
      · refine lv_aload_n hx hb dX8_bill_37 rfl (lv_at hl 1 rfl) ?_
        refine lv_aload hx hb dX8_bill_38 (lv_at hl 0 rfl) ?_
        refine lv_iload_n hx hb dX8_bill_40 rfl (lv_at hl 3 rfl) ?_
        refine k_V (ci := 8) (b := a 0) (As := [.ref (f 0 h), .int (J y)]) (rest := []) (v := .long (JL (yrO V (L h) h y))) hx hb hml hown hts hK hl.1 (c_X8_sumOfYear l G a f L u V h y ((by omega)) ((by omega))) (cwV 2 hts gX8_bill_X8_sumOfYear rfl rfl rfl (by decide +kernel) ⟨Nat.le_of_ble_eq_true rfl, Nat.le_of_ble_eq_true rfl⟩) hX rfl hRB rfl rfl (Nat.le_of_ble_eq_true rfl) dX8_bill_41 ⟨Nat.zero_le _, Nat.zero_le _⟩ ?_
        have hEh := hE h (by omega) (by omega)
        have hih2 := hV.h (i := h) (by omega) (by omega)
        have hyo := yrO_rng (h := h) (y := y) hV hEh.2.2.2.2 (by omega) (by omega)
        refine lv_iload_n hx hb dX8_bill_44 rfl (lv_at hl 4 rfl) ?_
        refine k_S (As := [.long (JL (yrO V (L h) h y)), .int (J p_)]) (rest := []) (v := .int (J ((yrO V (L h) h y) * p_ / 365000))) hx hb hml hown hts hK hl.1 (c_X8_billFor l G (yrO V (L h) h y) p_ ((by omega)) ((by omega))) (va_cwS 2 hts gX8_bill_X8_billFor rfl rfl rfl (by decide +kernel) ⟨Nat.le_of_ble_eq_true rfl, Nat.le_of_ble_eq_true rfl⟩) trivial rfl rfl (Nat.le_of_ble_eq_true rfl) dX8_bill_45 ⟨Nat.zero_le _, Nat.zero_le _⟩ ?_
        exact r_i hx hb hr hlk (congrArg (fun z => Value.int (J z)) (show ((yrO V (L h) h y) * p_ / 365000 : Int) = if (0 ≤ h ∧ h < V 0 0) ∧ (0 ≤ y ∧ y < 10) ∧ 0 ≤ p_ ∧ p_ ≤ 3000 then yrO V (L h) h y * p_ / 365000 else -1 from by rw [if_pos (by omega)])) dX8_bill_48
      · refine j_const hx hb dX8_bill_35 ?_
        exact r_i hx hb hr hlk (congrArg (fun z => Value.int (J z)) (show ((-1) : Int) = if (0 ≤ h ∧ h < V 0 0) ∧ (0 ≤ y ∧ y < 10) ∧ 0 ≤ p_ ∧ p_ ≤ 3000 then yrO V (L h) h y * p_ / 365000 else -1 from by rw [if_neg (by omega)])) dX8_bill_36
  · refine j_qn (qN_n sp5) ?_
    refine lv_astoreN (lv' := [(4, .null), (0, .ref (a 0)), (1, .int (J h)), (2, .int (J y)), (3, .int (J p_))]) hx hb dX8_bill_8 hl (by decide) rfl (fun ls hl => ?_)
    refine lv_aloadN hx hb dX8_bill_10 (lv_at hl 0 rfl) ?_
    refine lv_ifnullN (tgt := 35) hx hb dX8_bill_12 (by decide) ?_
    refine j_const hx hb dX8_bill_35 ?_
    exact r_i hx hb hr hlk (congrArg (fun z => Value.int (J z)) (show ((-1) : Int) = if (0 ≤ h ∧ h < V 0 0) ∧ (0 ≤ y ∧ y < 10) ∧ 0 ≤ p_ ∧ p_ ≤ 3000 then yrO V (L h) h y * p_ / 365000 else -1 from by rw [if_neg (by omega)])) dX8_bill_36

abbrev rmX8_paid : Room := { frames := 1, cells := 0, slots := 0, locals := 21 }
set_option maxHeartbeats 4000000 in
set_option maxRecDepth 100000 in
theorem c_X8_paid (l : Launch) (G : GG) (a : Nat → Nat) (f : Nat → Int → Nat) (L : Int → List EvT) (u : Nat → Int → Int) (V : St) (h y k : Int) (g_h : -2147483648 ≤ h ∧ h < 2147483648) (g_y : -2147483648 ≤ y ∧ y < 2147483648) (g_k : -2147483648 ≤ k ∧ k < 2147483648) : MP l G yX8_paid wsX8_paid rmX8_paid [.ref (a 0), .int (J h), .int (J y), .int (J k)] (fun H => RB G H a f L u V) (.int (J (if (0 ≤ h ∧ h < V 0 0) ∧ (0 ≤ y ∧ y < 10) ∧ 0 ≤ k ∧ k < 2 then (if k = 0 then blF V y h else pdF V y h) else -1)) : Value) := by
  refine MP.of (cc := cX8_paid) (maxL := 5) (ret := (some .int)) (by decide) rfl (Nat.le_of_ble_eq_true rfl) ?_
  intro p e s m below meth c hx hb hr hml hown hts hlk hK hP ls hl
  have hown : s.vm.findClass RX8 = some m.cls := hown
  have hl : lv_has ls 5 [(0, .ref (a 0)), (1, .int (J h)), (2, .int (J y)), (3, .int (J k))] := hl
  have inX8_ : ∀ w ∈ u_ws RX8 TX8 4, w ∈ wsX8_paid := by decide +kernel
  have lk0 := hts (.fieldLink RX8 12 "RateBook" "town" "LRateBook$Town;") (by decide +kernel)
  have hRB : RB G s.heap a f L u V := hP
  obtain ⟨hV, hX, hT, hE, hLi, hBa, hBk⟩ := id hRB
  obtain ⟨hT1, hT2, hT3, hT4⟩ := id hT
  obtain ⟨hL1, hL2, hL3, hL4, hL5, hL6⟩ := id hLi
  have hn := hV.n
  have hnl := hV.l
  refine lv_aload_n hx hb dX8_paid_0 rfl (lv_at hl 0 rfl) ?_
  refine lv_iload_n hx hb dX8_paid_1 rfl (lv_at hl 2 rfl) ?_
  refine k_V (ci := 8) (b := a 0) (As := [.int (J y)]) (rest := []) (v := va_rf (qN 10 (f 6) y)) hx hb hml hown hts hK hl.1 (c_X8_bookOf l G a f L u V y ((by omega))) (cwV 1 hts gX8_paid_X8_bookOf rfl rfl rfl (by decide +kernel) ⟨Nat.le_of_ble_eq_true rfl, Nat.le_of_ble_eq_true rfl⟩) hX rfl hRB rfl rfl (Nat.le_of_ble_eq_true rfl) dX8_paid_2 ⟨Nat.zero_le _, Nat.zero_le _⟩ ?_
  by_cases sp2 : 0 ≤ y ∧ y < 10
  · refine j_qs (b := f 6 y) (qN_s sp2) ?_
    have hbk := hBk y sp2.1 sp2.2
    have hyr := hV.y sp2.1 sp2.2
    refine lv_astore (lv' := [(4, .ref (f 6 y)), (0, .ref (a 0)), (1, .int (J h)), (2, .int (J y)), (3, .int (J k))]) hx hb dX8_paid_5 hl (by decide) rfl (fun ls hl => ?_)
    refine lv_aload_n hx hb dX8_paid_7 rfl (lv_at hl 1 rfl) ?_
    refine j_get (ci := 8) (v := .ref (a 1)) hx hb hts inX8_ hown hK hX rfl 0 (by decide) lk0 (fun _ h9 => h9) rfl dX8_paid_8 ?_
    refine lv_iload_n hx hb dX8_paid_11 rfl (lv_at hl 2 rfl) ?_
    refine k_V (ci := 5) (b := a 1) (As := [.int (J h)]) (rest := []) (v := va_rf (qN (V 0 0) (f 0) h)) hx hb hml hown hts hK hl.1 (c_X5_at l G (a 1) (a 2) (f 0) (f 1) V h ((by omega))) (cwV 1 hts gX8_paid_X5_at rfl rfl rfl (by decide +kernel) ⟨Nat.le_of_ble_eq_true rfl, Nat.le_of_ble_eq_true rfl⟩) hT2 rfl hT rfl rfl (Nat.le_of_ble_eq_true rfl) dX8_paid_12 ⟨Nat.zero_le _, Nat.zero_le _⟩ ?_
    by_cases sp12 : 0 ≤ h ∧ h < V 0 0
    · refine j_qs (b := f 0 h) (qN_s sp12) ?_
      have hce_1 : At G s.heap (f 0 h) (eHo V (f 1) h) := hT4 h sp12.1 sp12.2
      have hih_2 := hT1.h sp12.1 sp12.2
      refine lv_ifnull hx hb dX8_paid_15 ?_
      refine lv_aload hx hb dX8_paid_18 (lv_at hl 0 rfl) ?_
      refine lv_ifnull hx hb dX8_paid_20 ?_
      refine lv_iload_n hx hb dX8_paid_23 rfl (lv_at hl 4 rfl) ?_
      refine j_const hx hb dX8_paid_24 ?_
      refine k_S (As := [.int (J k), .int (J 2)]) (rest := []) (v := .int (J (pI (0 ≤ k ∧ k < 2)))) hx hb hml hown hts hK hl.1 (c_X8_isOf l G k 2 ((by omega)) ((by omega))) (va_cwS 2 hts gX8_paid_X8_isOf rfl rfl rfl (by decide +kernel) ⟨Nat.le_of_ble_eq_true rfl, Nat.le_of_ble_eq_true rfl⟩) trivial rfl rfl (Nat.le_of_ble_eq_true rfl) dX8_paid_25 ⟨Nat.zero_le _, Nat.zero_le _⟩ ?_
      refine j_neP (tgt := 33) hx hb dX8_paid_28 (by decide) (fun c28 => ?_) (fun c28 => ?_)
      · refine lv_iload_n hx hb dX8_paid_33 rfl (lv_at hl 4 rfl) ?_
        refine j_ne0 (tgt := 46) hx hb (by omega) (by omega) dX8_paid_34 (by decide) (fun c34 => ?_) (fun c34 => ?_)
        · refine lv_aload hx hb dX8_paid_46 (lv_at hl 0 rfl) ?_
          refine lv_iload_n hx hb dX8_paid_48 rfl (lv_at hl 2 rfl) ?_
          have ce_3 : At G s.heap (f 6 y) (eO 7 [.ref (f 7 y), .ref (f 8 y), .int (J (V 13 y)), .int (J (V 15 y)), .int (J (V 14 y))]) := (hBk y (by omega) (by omega)).2.1
          refine k_V (ci := 7) (b := f 6 y) (As := [.int (J h)]) (rest := []) (v := .int (J (pdF V y h))) hx hb hml hown hts hK hl.1 (c_X7_paidBy l G (f 6) (f 7) (f 8) V y h ((by omega))) (cwV 1 hts gX8_paid_X7_paidBy rfl rfl rfl (by decide +kernel) ⟨Nat.le_of_ble_eq_true rfl, Nat.le_of_ble_eq_true rfl⟩) ce_3 rfl hbk rfl rfl (Nat.le_of_ble_eq_true rfl) dX8_paid_49 ⟨Nat.zero_le _, Nat.zero_le _⟩ ?_
          exact r_i hx hb hr hlk (congrArg (fun z => Value.int (J z)) (show (pdF V y h : Int) = if (0 ≤ h ∧ h < V 0 0) ∧ (0 ≤ y ∧ y < 10) ∧ 0 ≤ k ∧ k < 2 then (if k = 0 then blF V y h else pdF V y h) else -1 from by rw [if_pos (by omega), if_neg (by omega)])) dX8_paid_52
        · refine lv_aload hx hb dX8_paid_37 (lv_at hl 0 rfl) ?_
          refine lv_iload_n hx hb dX8_paid_39 rfl (lv_at hl 2 rfl) ?_
          have ce_4 : At G s.heap (f 6 y) (eO 7 [.ref (f 7 y), .ref (f 8 y), .int (J (V 13 y)), .int (J (V 15 y)), .int (J (V 14 y))]) := (hBk y (by omega) (by omega)).2.1
          refine k_V (ci := 7) (b := f 6 y) (As := [.int (J h)]) (rest := []) (v := .int (J (blF V y h))) hx hb hml hown hts hK hl.1 (c_X7_billedTo l G (f 6) (f 7) (f 8) V y h ((by omega))) (cwV 1 hts gX8_paid_X7_billedTo rfl rfl rfl (by decide +kernel) ⟨Nat.le_of_ble_eq_true rfl, Nat.le_of_ble_eq_true rfl⟩) ce_4 rfl hbk rfl rfl (Nat.le_of_ble_eq_true rfl) dX8_paid_40 ⟨Nat.zero_le _, Nat.zero_le _⟩ ?_
          refine lv_goto (tgt := 52) hx hb dX8_paid_43 (by decide) ?_
          exact r_i hx hb hr hlk (congrArg (fun z => Value.int (J z)) (show (blF V y h : Int) = if (0 ≤ h ∧ h < V 0 0) ∧ (0 ≤ y ∧ y < 10) ∧ 0 ≤ k ∧ k < 2 then (if k = 0 then blF V y h else pdF V y h) else -1 from by rw [if_pos (by omega), if_pos (by omega)])) dX8_paid_52
      · refine j_const hx hb dX8_paid_31 ?_
        exact r_i hx hb hr hlk (congrArg (fun z => Value.int (J z)) (show ((-1) : Int) = if (0 ≤ h ∧ h < V 0 0) ∧ (0 ≤ y ∧ y < 10) ∧ 0 ≤ k ∧ k < 2 then (if k = 0 then blF V y h else pdF V y h) else -1 from by rw [if_neg (by omega)])) dX8_paid_32
    · refine j_qn (qN_n sp12) ?_
      refine lv_ifnullN (tgt := 31) hx hb dX8_paid_15 (by decide) ?_
      refine j_const hx hb dX8_paid_31 ?_
      exact r_i hx hb hr hlk (congrArg (fun z => Value.int (J z)) (show ((-1) : Int) = if (0 ≤ h ∧ h < V 0 0) ∧ (0 ≤ y ∧ y < 10) ∧ 0 ≤ k ∧ k < 2 then (if k = 0 then blF V y h else pdF V y h) else -1 from by rw [if_neg (by omega)])) dX8_paid_32
  · refine j_qn (qN_n sp2) ?_
    refine lv_astoreN (lv' := [(4, .null), (0, .ref (a 0)), (1, .int (J h)), (2, .int (J y)), (3, .int (J k))]) hx hb dX8_paid_5 hl (by decide) rfl (fun ls hl => ?_)
    refine lv_aload_n hx hb dX8_paid_7 rfl (lv_at hl 1 rfl) ?_
    refine j_get (ci := 8) (v := .ref (a 1)) hx hb hts inX8_ hown hK hX rfl 0 (by decide) lk0 (fun _ h9 => h9) rfl dX8_paid_8 ?_
    refine lv_iload_n hx hb dX8_paid_11 rfl (lv_at hl 2 rfl) ?_
    refine k_V (ci := 5) (b := a 1) (As := [.int (J h)]) (rest := []) (v := va_rf (qN (V 0 0) (f 0) h)) hx hb hml hown hts hK hl.1 (c_X5_at l G (a 1) (a 2) (f 0) (f 1) V h ((by omega))) (cwV 1 hts gX8_paid_X5_at rfl rfl rfl (by decide +kernel) ⟨Nat.le_of_ble_eq_true rfl, Nat.le_of_ble_eq_true rfl⟩) hT2 rfl hT rfl rfl (Nat.le_of_ble_eq_true rfl) dX8_paid_12 ⟨Nat.zero_le _, Nat.zero_le _⟩ ?_
    by_cases sp12 : 0 ≤ h ∧ h < V 0 0
    · refine j_qs (b := f 0 h) (qN_s sp12) ?_
      have hce_5 : At G s.heap (f 0 h) (eHo V (f 1) h) := hT4 h sp12.1 sp12.2
      have hih_6 := hT1.h sp12.1 sp12.2
      refine lv_ifnull hx hb dX8_paid_15 ?_
      refine lv_aloadN hx hb dX8_paid_18 (lv_at hl 0 rfl) ?_
      refine lv_ifnullN (tgt := 31) hx hb dX8_paid_20 (by decide) ?_
      refine j_const hx hb dX8_paid_31 ?_
      exact r_i hx hb hr hlk (congrArg (fun z => Value.int (J z)) (show ((-1) : Int) = if (0 ≤ h ∧ h < V 0 0) ∧ (0 ≤ y ∧ y < 10) ∧ 0 ≤ k ∧ k < 2 then (if k = 0 then blF V y h else pdF V y h) else -1 from by rw [if_neg (by omega)])) dX8_paid_32
    · refine j_qn (qN_n sp12) ?_
      refine lv_ifnullN (tgt := 31) hx hb dX8_paid_15 (by decide) ?_
      refine j_const hx hb dX8_paid_31 ?_
      exact r_i hx hb hr hlk (congrArg (fun z => Value.int (J z)) (show ((-1) : Int) = if (0 ≤ h ∧ h < V 0 0) ∧ (0 ≤ y ∧ y < 10) ∧ 0 ≤ k ∧ k < 2 then (if k = 0 then blF V y h else pdF V y h) else -1 from by rw [if_neg (by omega)])) dX8_paid_32
