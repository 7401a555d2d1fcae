abbrev rmX8_isWithin : Room := { frames := 0, cells := 0, slots := 0, locals := 0 }
set_option maxHeartbeats 4000000 in
set_option maxRecDepth 100000 in
theorem c_X8_isWithin (l : Launch) (G : GG) (v lo_ hi : Int) (g_v : -2147483648 ≤ v ∧ v < 2147483648) (g_lo_ : -2147483648 ≤ lo_ ∧ lo_ < 2147483648) (g_hi : -2147483648 ≤ hi ∧ hi < 2147483648) : MP l G yX8_isWithin wsX8_isWithin rmX8_isWithin [.int (J v), .int (J lo_), .int (J hi)] (fun H => True) (.int (J (pI (lo_ ≤ v ∧ v ≤ hi))) : Value) := by
  refine MP.of (cc := cX8_isWithin) (maxL := 3) (ret := (some .boolean)) (by decide) rfl (Nat.le_of_ble_eq_true rfl) ?_
  intro p e s m below meth c hx hb hr hml hown hts hlk hK hP ls hl
  have hown : s.vm.findClass RX8 = some m.cls := hown
  have hl : lv_has ls 3 [(0, .int (J v)), (1, .int (J lo_)), (2, .int (J hi))] := hl
  refine lv_iload_n hx hb dX8_isWithin_0 rfl (lv_at hl 0 rfl) ?_
  refine lv_iload_n hx hb dX8_isWithin_1 rfl (lv_at hl 1 rfl) ?_
  refine j_clt (tgt := 14) hx hb (by omega) (by omega) (by omega) (by omega) dX8_isWithin_2 (by decide) (fun c2 => ?_) (fun c2 => ?_)
  · refine j_const hx hb dX8_isWithin_14 ?_
    exact r_z hx hb hr hlk rfl (congrArg (fun z => Value.int (J z)) (show (0 : Int) = pI (lo_ ≤ v ∧ v ≤ hi) from (pI_f (by omega)).symm)) dX8_isWithin_15
  · refine lv_iload_n hx hb dX8_isWithin_5 rfl (lv_at hl 0 rfl) ?_
    refine lv_iload_n hx hb dX8_isWithin_6 rfl (lv_at hl 2 rfl) ?_
    refine j_cgt (tgt := 14) hx hb (by omega) (by omega) (by omega) (by omega) dX8_isWithin_7 (by decide) (fun c7 => ?_) (fun c7 => ?_)
    · refine j_const hx hb dX8_isWithin_14 ?_
      exact r_z hx hb hr hlk rfl (congrArg (fun z => Value.int (J z)) (show (0 : Int) = pI (lo_ ≤ v ∧ v ≤ hi) from (pI_f (by omega)).symm)) dX8_isWithin_15
    · refine j_const hx hb dX8_isWithin_10 ?_
      refine lv_goto (tgt := 15) hx hb dX8_isWithin_11 (by decide) ?_
      exact r_z hx hb hr hlk rfl (congrArg (fun z => Value.int (J z)) (show (1 : Int) = pI (lo_ ≤ v ∧ v ≤ hi) from (pI_t (by omega)).symm)) dX8_isWithin_15

abbrev rmX9_in : Room := { frames := 0, cells := 0, slots := 0, locals := 0 }
set_option maxHeartbeats 4000000 in
set_option maxRecDepth 100000 in
theorem c_X9_in (l : Launch) (G : GG) (v lo_ hi : Int) (g_v : -2147483648 ≤ v ∧ v < 2147483648) (g_lo_ : -2147483648 ≤ lo_ ∧ lo_ < 2147483648) (g_hi : -2147483648 ≤ hi ∧ hi < 2147483648) : MP l G yX9_in wsX9_in rmX9_in [.int (J v), .int (J lo_), .int (J hi)] (fun H => True) (.int (J (pI (lo_ ≤ v ∧ v ≤ hi))) : Value) := by
  refine MP.of (cc := cX9_in) (maxL := 3) (ret := (some .boolean)) (by decide) rfl (Nat.le_of_ble_eq_true rfl) ?_
  intro p e s m below meth c hx hb hr hml hown hts hlk hK hP ls hl
  have hown : s.vm.findClass RX9 = some m.cls := hown
  have hl : lv_has ls 3 [(0, .int (J v)), (1, .int (J lo_)), (2, .int (J hi))] := hl
  refine lv_iload_n hx hb dX9_in_0 rfl (lv_at hl 0 rfl) ?_
  refine lv_iload_n hx hb dX9_in_1 rfl (lv_at hl 1 rfl) ?_
  refine j_clt (tgt := 14) hx hb (by omega) (by omega) (by omega) (by omega) dX9_in_2 (by decide) (fun c2 => ?_) (fun c2 => ?_)
  · refine j_const hx hb dX9_in_14 ?_
    exact r_z hx hb hr hlk rfl (congrArg (fun z => Value.int (J z)) (show (0 : Int) = pI (lo_ ≤ v ∧ v ≤ hi) from (pI_f (by omega)).symm)) dX9_in_15
  · refine lv_iload_n hx hb dX9_in_5 rfl (lv_at hl 0 rfl) ?_
    refine lv_iload_n hx hb dX9_in_6 rfl (lv_at hl 2 rfl) ?_
    refine j_cgt (tgt := 14) hx hb (by omega) (by omega) (by omega) (by omega) dX9_in_7 (by decide) (fun c7 => ?_) (fun c7 => ?_)
    · refine j_const hx hb dX9_in_14 ?_
      exact r_z hx hb hr hlk rfl (congrArg (fun z => Value.int (J z)) (show (0 : Int) = pI (lo_ ≤ v ∧ v ≤ hi) from (pI_f (by omega)).symm)) dX9_in_15
    · refine j_const hx hb dX9_in_10 ?_
      refine lv_goto (tgt := 15) hx hb dX9_in_11 (by decide) ?_
      exact r_z hx hb hr hlk rfl (congrArg (fun z => Value.int (J z)) (show (1 : Int) = pI (lo_ ≤ v ∧ v ≤ hi) from (pI_t (by omega)).symm)) dX9_in_15

abbrev rmX8_isOf : Room := { frames := 0, cells := 0, slots := 0, locals := 0 }
set_option maxHeartbeats 4000000 in
set_option maxRecDepth 100000 in
theorem c_X8_isOf (l : Launch) (G : GG) (v n : Int) (g_v : -2147483648 ≤ v ∧ v < 2147483648) (g_n : -2147483648 ≤ n ∧ n < 2147483648) : MP l G yX8_isOf wsX8_isOf rmX8_isOf [.int (J v), .int (J n)] (fun H => True) (.int (J (pI (0 ≤ v ∧ v < n))) : Value) := by
  refine MP.of (cc := cX8_isOf) (maxL := 2) (ret := (some .boolean)) (by decide) rfl (Nat.le_of_ble_eq_true rfl) ?_
  intro p e s m below meth c hx hb hr hml hown hts hlk hK hP ls hl
  have hown : s.vm.findClass RX8 = some m.cls := hown
  have hl : lv_has ls 2 [(0, .int (J v)), (1, .int (J n))] := hl
  refine lv_iload_n hx hb dX8_isOf_0 rfl (lv_at hl 0 rfl) ?_
  refine j_lt0 (tgt := 13) hx hb (by omega) (by omega) dX8_isOf_1 (by decide) (fun c1 => ?_) (fun c1 => ?_)
  · refine j_const hx hb dX8_isOf_13 ?_
    exact r_z hx hb hr hlk rfl (congrArg (fun z => Value.int (J z)) (show (0 : Int) = pI (0 ≤ v ∧ v < n) from (pI_f (by omega)).symm)) dX8_isOf_14
  · refine lv_iload_n hx hb dX8_isOf_4 rfl (lv_at hl 0 rfl) ?_
    refine lv_iload_n hx hb dX8_isOf_5 rfl (lv_at hl 1 rfl) ?_
    refine j_cge (tgt := 13) hx hb (by omega) (by omega) (by omega) (by omega) dX8_isOf_6 (by decide) (fun c6 => ?_) (fun c6 => ?_)
    · refine j_const hx hb dX8_isOf_13 ?_
      exact r_z hx hb hr hlk rfl (congrArg (fun z => Value.int (J z)) (show (0 : Int) = pI (0 ≤ v ∧ v < n) from (pI_f (by omega)).symm)) dX8_isOf_14
    · refine j_const hx hb dX8_isOf_9 ?_
      refine lv_goto (tgt := 14) hx hb dX8_isOf_10 (by decide) ?_
      exact r_z hx hb hr hlk rfl (congrArg (fun z => Value.int (J z)) (show (1 : Int) = pI (0 ≤ v ∧ v < n) from (pI_t (by omega)).symm)) dX8_isOf_14

abbrev rmX8_sooner : Room := { frames := 0, cells := 0, slots := 0, locals := 0 }
set_option maxHeartbeats 4000000 in
set_option maxRecDepth 100000 in
theorem c_X8_sooner (l : Launch) (G : GG) (a d n : Int) (g_a : -2147483648 ≤ a ∧ a < 2147483648) (g_d : -2147483648 ≤ d ∧ d < 2147483648) (g_n : -2147483648 ≤ n ∧ n < 2147483648) : MP l G yX8_sooner wsX8_sooner rmX8_sooner [.int (J a), .int (J d), .int (J n)] (fun H => True) (.int (J (snr a d n)) : Value) := by
  refine MP.of (cc := cX8_sooner) (maxL := 3) (ret := (some .int)) (by decide) rfl (Nat.le_of_ble_eq_true rfl) ?_
  intro p e s m below meth c hx hb hr hml hown hts hlk hK hP ls hl
  have hown : s.vm.findClass RX8 = some m.cls := hown
  have hl : lv_has ls 3 [(0, .int (J a)), (1, .int (J d)), (2, .int (J n))] := hl
  refine lv_iload_n hx hb dX8_sooner_0 rfl (lv_at hl 0 rfl) ?_
  refine lv_iload_n hx hb dX8_sooner_1 rfl (lv_at hl 1 rfl) ?_
  refine j_cle (tgt := 14) hx hb (by omega) (by omega) (by omega) (by omega) dX8_sooner_2 (by decide) (fun c2 => ?_) (fun c2 => ?_)
  · refine lv_iload_n hx hb dX8_sooner_14 rfl (lv_at hl 2 rfl) ?_
    exact r_i hx hb hr hlk (congrArg (fun z => Value.int (J z)) (show (n : Int) = snr a d n from by unfold snr; first | rw [if_pos (by omega)] | rw [if_neg (by omega)])) dX8_sooner_15
  · refine lv_iload_n hx hb dX8_sooner_5 rfl (lv_at hl 0 rfl) ?_
    refine lv_iload_n hx hb dX8_sooner_6 rfl (lv_at hl 2 rfl) ?_
    refine j_cge (tgt := 14) hx hb (by omega) (by omega) (by omega) (by omega) dX8_sooner_7 (by decide) (fun c7 => ?_) (fun c7 => ?_)
    · refine lv_iload_n hx hb dX8_sooner_14 rfl (lv_at hl 2 rfl) ?_
      exact r_i hx hb hr hlk (congrArg (fun z => Value.int (J z)) (show (n : Int) = snr a d n from by unfold snr; first | rw [if_pos (by omega)] | rw [if_neg (by omega)])) dX8_sooner_15
    · refine lv_iload_n hx hb dX8_sooner_10 rfl (lv_at hl 0 rfl) ?_
      refine lv_goto (tgt := 15) hx hb dX8_sooner_11 (by decide) ?_
      exact r_i hx hb hr hlk (congrArg (fun z => Value.int (J z)) (show (a : Int) = snr a d n from by unfold snr; first | rw [if_pos (by omega)] | rw [if_neg (by omega)])) dX8_sooner_15

abbrev rmX8_relieved : Room := { frames := 0, cells := 0, slots := 0, locals := 0 }
set_option maxHeartbeats 4000000 in
set_option maxRecDepth 100000 in
theorem c_X8_relieved (l : Launch) (G : GG) (v : Int) (h_v : 0 ≤ v ∧ v ≤ 50000000) : MP l G yX8_relieved wsX8_relieved rmX8_relieved [.int (J v)] (fun H => True) (.int (J (rlv v)) : Value) := by
  refine MP.of (cc := cX8_relieved) (maxL := 1) (ret := (some .int)) (by decide) rfl (Nat.le_of_ble_eq_true rfl) ?_
  intro p e s m below meth c hx hb hr hml hown hts hlk hK hP ls hl
  have hown : s.vm.findClass RX8 = some m.cls := hown
  have hl : lv_has ls 1 [(0, .int (J v))] := hl
  refine lv_iload_n hx hb dX8_relieved_0 rfl (lv_at hl 0 rfl) ?_
  refine j_si hx hb dX8_relieved_1 (by decide +kernel) ?_
  refine j_cgt (tgt := 9) hx hb (by omega) (by omega) (by decide) (by decide) dX8_relieved_4 (by decide) (fun c4 => ?_) (fun c4 => ?_)
  · refine lv_iload_n hx hb dX8_relieved_9 rfl (lv_at hl 0 rfl) ?_
    refine j_si hx hb dX8_relieved_10 (by decide +kernel) ?_
    refine j_cgt (tgt := 26) hx hb (by omega) (by omega) (by decide) (by decide) dX8_relieved_13 (by decide) (fun c13 => ?_) (fun c13 => ?_)
    · refine lv_iload_n hx hb dX8_relieved_26 rfl (lv_at hl 0 rfl) ?_
      exact r_i hx hb hr hlk (congrArg (fun z => Value.int (J z)) (show (v : Int) = rlv v from by unfold rlv; (repeat' split) <;> omega)) dX8_relieved_27
    · refine j_const hx hb dX8_relieved_16 ?_
      refine lv_iload_n hx hb dX8_relieved_17 rfl (lv_at hl 0 rfl) ?_
      refine j_si hx hb dX8_relieved_18 (by decide +kernel) ?_
      refine j_sub hx hb dX8_relieved_21 ?_
      refine j_mul hx hb dX8_relieved_22 ?_
      refine lv_goto (tgt := 27) hx hb dX8_relieved_23 (by decide) ?_
      exact r_i hx hb hr hlk (congrArg (fun z => Value.int (J z)) (show (5 * (v - 1200) : Int) = rlv v from by unfold rlv; (repeat' split) <;> omega)) dX8_relieved_27
  · refine j_const hx hb dX8_relieved_7 ?_
    exact r_i hx hb hr hlk (congrArg (fun z => Value.int (J z)) (show (0 : Int) = rlv v from by unfold rlv; (repeat' split) <;> omega)) dX8_relieved_8

abbrev rmX9_relieved : Room := { frames := 0, cells := 0, slots := 0, locals := 0 }
set_option maxHeartbeats 4000000 in
set_option maxRecDepth 100000 in
theorem c_X9_relieved (l : Launch) (G : GG) (v : Int) (h_v : 0 ≤ v ∧ v ≤ 50000000) : MP l G yX9_relieved wsX9_relieved rmX9_relieved [.int (J v)] (fun H => True) (.int (J (rlv v)) : Value) := by
  refine MP.of (cc := cX9_relieved) (maxL := 1) (ret := (some .int)) (by decide) rfl (Nat.le_of_ble_eq_true rfl) ?_
  intro p e s m below meth c hx hb hr hml hown hts hlk hK hP ls hl
  have hown : s.vm.findClass RX9 = some m.cls := hown
  have hl : lv_has ls 1 [(0, .int (J v))] := hl
  refine lv_iload_n hx hb dX9_relieved_0 rfl (lv_at hl 0 rfl) ?_
  refine j_si hx hb dX9_relieved_1 (by decide +kernel) ?_
  refine j_cgt (tgt := 11) hx hb (by omega) (by omega) (by decide) (by decide) dX9_relieved_4 (by decide) (fun c4 => ?_) (fun c4 => ?_)
  · refine lv_iload_n hx hb dX9_relieved_11 rfl (lv_at hl 0 rfl) ?_
    refine j_si hx hb dX9_relieved_12 (by decide +kernel) ?_
    refine j_cgt (tgt := 28) hx hb (by omega) (by omega) (by decide) (by decide) dX9_relieved_15 (by decide) (fun c15 => ?_) (fun c15 => ?_)
    · refine lv_iload_n hx hb dX9_relieved_28 rfl (lv_at hl 0 rfl) ?_
      exact r_i hx hb hr hlk (congrArg (fun z => Value.int (J z)) (show (v : Int) = rlv v from by unfold rlv; (repeat' split) <;> omega)) dX9_relieved_29
    · refine j_const hx hb dX9_relieved_18 ?_
      refine lv_iload_n hx hb dX9_relieved_19 rfl (lv_at hl 0 rfl) ?_
      refine j_si hx hb dX9_relieved_20 (by decide +kernel) ?_
      refine j_sub hx hb dX9_relieved_23 ?_
      refine j_mul hx hb dX9_relieved_24 ?_
      refine lv_goto (tgt := 29) hx hb dX9_relieved_25 (by decide) ?_
      exact r_i hx hb hr hlk (congrArg (fun z => Value.int (J z)) (show (5 * (v - 1200) : Int) = rlv v from by unfold rlv; (repeat' split) <;> omega)) dX9_relieved_29
  · refine j_const hx hb dX9_relieved_7 ?_
    refine lv_goto (tgt := 29) hx hb dX9_relieved_8 (by decide) ?_
    exact r_i hx hb hr hlk (congrArg (fun z => Value.int (J z)) (show (0 : Int) = rlv v from by unfold rlv; (repeat' split) <;> omega)) dX9_relieved_29

abbrev rmX8_isEvent : Room := { frames := 1, cells := 0, slots := 0, locals := 22 }
set_option maxHeartbeats 4000000 in
set_option maxRecDepth 100000 in
theorem c_X8_isEvent (l : Launch) (G : GG) (k v : Int) (g_k : -2147483648 ≤ k ∧ k < 2147483648) (g_v : -2147483648 ≤ v ∧ v < 2147483648) : MP l G yX8_isEvent wsX8_isEvent rmX8_isEvent [.int (J k), .int (J v)] (fun H => True) (.int (J (pI ((k = 0 ∧ 1 ≤ v ∧ v ≤ 500) ∨ (k = 1 ∧ 0 ≤ v ∧ v ≤ 3) ∨ (k = 2 ∧ 1 ≤ v ∧ v ≤ 900)))) : Value) := by
  refine MP.of (cc := cX8_isEvent) (maxL := 2) (ret := (some .boolean)) (by decide) rfl (Nat.le_of_ble_eq_true rfl) ?_
  intro p e s m below meth c hx hb hr hml hown hts hlk hK hP ls hl
  have hown : s.vm.findClass RX8 = some m.cls := hown
  have hl : lv_has ls 2 [(0, .int (J k)), (1, .int (J v))] := hl
  refine lv_iload_n hx hb dX8_isEvent_0 rfl (lv_at hl 0 rfl) ?_
  rcases (show k = 0 ∨ k = 1 ∨ k = 2 ∨ (k < 0 ∨ 2 < k) by omega) with c1 | c1 | c1 | c1
  · refine j_tabIn (tgt := 28) hx hb 0 c1 (by decide) (by decide) dX8_isEvent_1 (by decide) (by decide) rfl (by decide) ?_
    refine lv_iload_n hx hb dX8_isEvent_28 rfl (lv_at hl 1 rfl) ?_
    refine j_const hx hb dX8_isEvent_29 ?_
    refine j_si hx hb dX8_isEvent_30 (by decide +kernel) ?_
    refine k_S (As := [.int (J v), .int (J 1), .int (J 500)]) (rest := []) (v := .int (J (pI (1 ≤ v ∧ v ≤ 500)))) hx hb hml hown hts hK hl.1 (c_X8_isWithin l G v 1 500 ((by omega)) ((by omega)) ((by omega))) (va_cwS 3 hts gX8_isEvent_X8_isWithin rfl rfl rfl (by decide +kernel) ⟨Nat.le_of_ble_eq_true rfl, Nat.le_of_ble_eq_true rfl⟩) trivial rfl rfl (Nat.le_of_ble_eq_true rfl) dX8_isEvent_33 ⟨Nat.zero_le _, Nat.zero_le _⟩ ?_
    exact r_z hx hb hr hlk (nz_pI _) (congrArg (fun z => Value.int (J z)) (show (pI (1 ≤ v ∧ v ≤ 500) : Int) = pI ((k = 0 ∧ 1 ≤ v ∧ v ≤ 500) ∨ (k = 1 ∧ 0 ≤ v ∧ v ≤ 3) ∨ (k = 2 ∧ 1 ≤ v ∧ v ≤ 900)) from pI_eq (by omega))) dX8_isEvent_36
  · refine j_tabIn (tgt := 37) hx hb 1 c1 (by decide) (by decide) dX8_isEvent_1 (by decide) (by decide) rfl (by decide) ?_
    refine lv_iload_n hx hb dX8_isEvent_37 rfl (lv_at hl 1 rfl) ?_
    refine j_const hx hb dX8_isEvent_38 ?_
    refine j_const hx hb dX8_isEvent_39 ?_
    refine k_S (As := [.int (J v), .int (J 0), .int (J 3)]) (rest := []) (v := .int (J (pI (0 ≤ v ∧ v ≤ 3)))) hx hb hml hown hts hK hl.1 (c_X8_isWithin l G v 0 3 ((by omega)) ((by omega)) ((by omega))) (va_cwS 3 hts gX8_isEvent_X8_isWithin rfl rfl rfl (by decide +kernel) ⟨Nat.le_of_ble_eq_true rfl, Nat.le_of_ble_eq_true rfl⟩) trivial rfl rfl (Nat.le_of_ble_eq_true rfl) dX8_isEvent_40 ⟨Nat.zero_le _, Nat.zero_le _⟩ ?_
    exact r_z hx hb hr hlk (nz_pI _) (congrArg (fun z => Value.int (J z)) (show (pI (0 ≤ v ∧ v ≤ 3) : Int) = pI ((k = 0 ∧ 1 ≤ v ∧ v ≤ 500) ∨ (k = 1 ∧ 0 ≤ v ∧ v ≤ 3) ∨ (k = 2 ∧ 1 ≤ v ∧ v ≤ 900)) from pI_eq (by omega))) dX8_isEvent_43
  · refine j_tabIn (tgt := 44) hx hb 2 c1 (by decide) (by decide) dX8_isEvent_1 (by decide) (by decide) rfl (by decide) ?_
    refine lv_iload_n hx hb dX8_isEvent_44 rfl (lv_at hl 1 rfl) ?_
    refine j_const hx hb dX8_isEvent_45 ?_
    refine j_si hx hb dX8_isEvent_46 (by decide +kernel) ?_
    refine k_S (As := [.int (J v), .int (J 1), .int (J 900)]) (rest := []) (v := .int (J (pI (1 ≤ v ∧ v ≤ 900)))) hx hb hml hown hts hK hl.1 (c_X8_isWithin l G v 1 900 ((by omega)) ((by omega)) ((by omega))) (va_cwS 3 hts gX8_isEvent_X8_isWithin rfl rfl rfl (by decide +kernel) ⟨Nat.le_of_ble_eq_true rfl, Nat.le_of_ble_eq_true rfl⟩) trivial rfl rfl (Nat.le_of_ble_eq_true rfl) dX8_isEvent_49 ⟨Nat.zero_le _, Nat.zero_le _⟩ ?_
    exact r_z hx hb hr hlk (nz_pI _) (congrArg (fun z => Value.int (J z)) (show (pI (1 ≤ v ∧ v ≤ 900) : Int) = pI ((k = 0 ∧ 1 ≤ v ∧ v ≤ 500) ∨ (k = 1 ∧ 0 ≤ v ∧ v ≤ 3) ∨ (k = 2 ∧ 1 ≤ v ∧ v ≤ 900)) from pI_eq (by omega))) dX8_isEvent_52
  · refine j_tabOut (tgt := 53) hx hb (by omega) (by omega) dX8_isEvent_1 c1 (by decide) ?_
    refine j_const hx hb dX8_isEvent_53 ?_
    exact r_z hx hb hr hlk rfl (congrArg (fun z => Value.int (J z)) (show (0 : Int) = pI ((k = 0 ∧ 1 ≤ v ∧ v ≤ 500) ∨ (k = 1 ∧ 0 ≤ v ∧ v ≤ 3) ∨ (k = 2 ∧ 1 ≤ v ∧ v ≤ 900)) from (pI_f (by omega)).symm)) dX8_isEvent_54

abbrev rmX9_isValue : Room := { frames := 1, cells := 0, slots := 0, locals := 22 }
set_option maxHeartbeats 4000000 in
set_option maxRecDepth 100000 in
theorem c_X9_isValue (l : Launch) (G : GG) (k v : Int) (g_k : -2147483648 ≤ k ∧ k < 2147483648) (g_v : -2147483648 ≤ v ∧ v < 2147483648) : MP l G yX9_isValue wsX9_isValue rmX9_isValue [.int (J k), .int (J v)] (fun H => True) (.int (J (pI ((k = 0 ∧ 1 ≤ v ∧ v ≤ 500) ∨ (k = 1 ∧ 0 ≤ v ∧ v ≤ 3) ∨ (k = 2 ∧ 1 ≤ v ∧ v ≤ 900)))) : Value) := by
  refine MP.of (cc := cX9_isValue) (maxL := 2) (ret := (some .boolean)) (by decide) rfl (Nat.le_of_ble_eq_true rfl) ?_
  intro p e s m below meth c hx hb hr hml hown hts hlk hK hP ls hl
  have hown : s.vm.findClass RX9 = some m.cls := hown
  have hl : lv_has ls 2 [(0, .int (J k)), (1, .int (J v))] := hl
  refine lv_iload_n hx hb dX9_isValue_0 rfl (lv_at hl 0 rfl) ?_
  refine j_ne0 (tgt := 15) hx hb (by omega) (by omega) dX9_isValue_1 (by decide) (fun c1 => ?_) (fun c1 => ?_)
  · refine lv_iload_n hx hb dX9_isValue_15 rfl (lv_at hl 0 rfl) ?_
    refine j_const hx hb dX9_isValue_16 ?_
    refine j_cne (tgt := 29) hx hb (by omega) (by omega) (by decide) (by decide) dX9_isValue_17 (by decide) (fun c17 => ?_) (fun c17 => ?_)
    · refine lv_iload_n hx hb dX9_isValue_29 rfl (lv_at hl 0 rfl) ?_
      refine j_const hx hb dX9_isValue_30 ?_
      refine j_cne (tgt := 49) hx hb (by omega) (by omega) (by decide) (by decide) dX9_isValue_31 (by decide) (fun c31 => ?_) (fun c31 => ?_)
      · refine j_const hx hb dX9_isValue_49 ?_
        exact r_z hx hb hr hlk rfl (congrArg (fun z => Value.int (J z)) (show (0 : Int) = pI ((k = 0 ∧ 1 ≤ v ∧ v ≤ 500) ∨ (k = 1 ∧ 0 ≤ v ∧ v ≤ 3) ∨ (k = 2 ∧ 1 ≤ v ∧ v ≤ 900)) from (pI_f (by omega)).symm)) dX9_isValue_50
      · refine lv_iload_n hx hb dX9_isValue_34 rfl (lv_at hl 1 rfl) ?_
        refine j_const hx hb dX9_isValue_35 ?_
        refine j_si hx hb dX9_isValue_36 (by decide +kernel) ?_
        refine k_S (As := [.int (J v), .int (J 1), .int (J 900)]) (rest := []) (v := .int (J (pI (1 ≤ v ∧ v ≤ 900)))) hx hb hml hown hts hK hl.1 (c_X9_in l G v 1 900 ((by omega)) ((by omega)) ((by omega))) (va_cwS 3 hts gX9_isValue_X9_in rfl rfl rfl (by decide +kernel) ⟨Nat.le_of_ble_eq_true rfl, Nat.le_of_ble_eq_true rfl⟩) trivial rfl rfl (Nat.le_of_ble_eq_true rfl) dX9_isValue_39 ⟨Nat.zero_le _, Nat.zero_le _⟩ ?_
        refine j_eqP (tgt := 49) hx hb dX9_isValue_42 (by decide) (fun c42 => ?_) (fun c42 => ?_)
        · refine j_const hx hb dX9_isValue_49 ?_
          exact r_z hx hb hr hlk rfl (congrArg (fun z => Value.int (J z)) (show (0 : Int) = pI ((k = 0 ∧ 1 ≤ v ∧ v ≤ 500) ∨ (k = 1 ∧ 0 ≤ v ∧ v ≤ 3) ∨ (k = 2 ∧ 1 ≤ v ∧ v ≤ 900)) from (pI_f (by omega)).symm)) dX9_isValue_50
        · refine j_const hx hb dX9_isValue_45 ?_
          refine lv_goto (tgt := 50) hx hb dX9_isValue_46 (by decide) ?_
          exact r_z hx hb hr hlk rfl (congrArg (fun z => Value.int (J z)) (show (1 : Int) = pI ((k = 0 ∧ 1 ≤ v ∧ v ≤ 500) ∨ (k = 1 ∧ 0 ≤ v ∧ v ≤ 3) ∨ (k = 2 ∧ 1 ≤ v ∧ v ≤ 900)) from (pI_t (by omega)).symm)) dX9_isValue_50
    · refine lv_iload_n hx hb dX9_isValue_20 rfl (lv_at hl 1 rfl) ?_
      refine j_const hx hb dX9_isValue_21 ?_
      refine j_const hx hb dX9_isValue_22 ?_
      refine k_S (As := [.int (J v), .int (J 0), .int (J 3)]) (rest := []) (v := .int (J (pI (0 ≤ v ∧ v ≤ 3)))) hx hb hml hown hts hK hl.1 (c_X9_in l G v 0 3 ((by omega)) ((by omega)) ((by omega))) (va_cwS 3 hts gX9_isValue_X9_in rfl rfl rfl (by decide +kernel) ⟨Nat.le_of_ble_eq_true rfl, Nat.le_of_ble_eq_true rfl⟩) trivial rfl rfl (Nat.le_of_ble_eq_true rfl) dX9_isValue_23 ⟨Nat.zero_le _, Nat.zero_le _⟩ ?_
      refine lv_goto (tgt := 50) hx hb dX9_isValue_26 (by decide) ?_
      exact r_z hx hb hr hlk (nz_pI _) (congrArg (fun z => Value.int (J z)) (show (pI (0 ≤ v ∧ v ≤ 3) : Int) = pI ((k = 0 ∧ 1 ≤ v ∧ v ≤ 500) ∨ (k = 1 ∧ 0 ≤ v ∧ v ≤ 3) ∨ (k = 2 ∧ 1 ≤ v ∧ v ≤ 900)) from pI_eq (by omega))) dX9_isValue_50
  · refine lv_iload_n hx hb dX9_isValue_4 rfl (lv_at hl 1 rfl) ?_
    refine j_const hx hb dX9_isValue_5 ?_
    refine j_si hx hb dX9_isValue_6 (by decide +kernel) ?_
    refine k_S (As := [.int (J v), .int (J 1), .int (J 500)]) (rest := []) (v := .int (J (pI (1 ≤ v ∧ v ≤ 500)))) hx hb hml hown hts hK hl.1 (c_X9_in l G v 1 500 ((by omega)) ((by omega)) ((by omega))) (va_cwS 3 hts gX9_isValue_X9_in rfl rfl rfl (by decide +kernel) ⟨Nat.le_of_ble_eq_true rfl, Nat.le_of_ble_eq_true rfl⟩) trivial rfl rfl (Nat.le_of_ble_eq_true rfl) dX9_isValue_9 ⟨Nat.zero_le _, Nat.zero_le _⟩ ?_
    refine lv_goto (tgt := 50) hx hb dX9_isValue_12 (by decide) ?_
    exact r_z hx hb hr hlk (nz_pI _) (congrArg (fun z => Value.int (J z)) (show (pI (1 ≤ v ∧ v ≤ 500) : Int) = pI ((k = 0 ∧ 1 ≤ v ∧ v ≤ 500) ∨ (k = 1 ∧ 0 ≤ v ∧ v ≤ 3) ∨ (k = 2 ∧ 1 ≤ v ∧ v ≤ 900)) from pI_eq (by omega))) dX9_isValue_50

abbrev rmX9_isDay : Room := { frames := 1, cells := 0, slots := 0, locals := 22 }
set_option maxHeartbeats 4000000 in
set_option maxRecDepth 100000 in
theorem c_X9_isDay (l : Launch) (G : GG) (v : Int) (g_v : -2147483648 ≤ v ∧ v < 2147483648) : MP l G yX9_isDay wsX9_isDay rmX9_isDay [.int (J v)] (fun H => True) (.int (J (pI (0 ≤ v ∧ v ≤ 3649))) : Value) := by
  refine MP.of (cc := cX9_isDay) (maxL := 1) (ret := (some .boolean)) (by decide) rfl (Nat.le_of_ble_eq_true rfl) ?_
  intro p e s m below meth c hx hb hr hml hown hts hlk hK hP ls hl
  have hown : s.vm.findClass RX9 = some m.cls := hown
  have hl : lv_has ls 1 [(0, .int (J v))] := hl
  refine lv_iload_n hx hb dX9_isDay_0 rfl (lv_at hl 0 rfl) ?_
  refine j_const hx hb dX9_isDay_1 ?_
  refine j_si hx hb dX9_isDay_2 (by decide +kernel) ?_
  refine k_S (As := [.int (J v), .int (J 0), .int (J 3649)]) (rest := []) (v := .int (J (pI (0 ≤ v ∧ v ≤ 3649)))) hx hb hml hown hts hK hl.1 (c_X9_in l G v 0 3649 ((by omega)) ((by omega)) ((by omega))) (va_cwS 3 hts gX9_isDay_X9_in rfl rfl rfl (by decide +kernel) ⟨Nat.le_of_ble_eq_true rfl, Nat.le_of_ble_eq_true rfl⟩) trivial rfl rfl (Nat.le_of_ble_eq_true rfl) dX9_isDay_5 ⟨Nat.zero_le _, Nat.zero_le _⟩ ?_
  exact r_z hx hb hr hlk (nz_pI _) (congrArg (fun z => Value.int (J z)) (show (pI (0 ≤ v ∧ v ≤ 3649) : Int) = pI (0 ≤ v ∧ v ≤ 3649) from rfl)) dX9_isDay_8

abbrev rmX9_isYear : Room := { frames := 1, cells := 0, slots := 0, locals := 22 }
set_option maxHeartbeats 4000000 in
set_option maxRecDepth 100000 in
theorem c_X9_isYear (l : Launch) (G : GG) (v : Int) (g_v : -2147483648 ≤ v ∧ v < 2147483648) : MP l G yX9_isYear wsX9_isYear rmX9_isYear [.int (J v)] (fun H => True) (.int (J (pI (0 ≤ v ∧ v ≤ 9))) : Value) := by
  refine MP.of (cc := cX9_isYear) (maxL := 1) (ret := (some .boolean)) (by decide) rfl (Nat.le_of_ble_eq_true rfl) ?_
  intro p e s m below meth c hx hb hr hml hown hts hlk hK hP ls hl
  have hown : s.vm.findClass RX9 = some m.cls := hown
  have hl : lv_has ls 1 [(0, .int (J v))] := hl
  refine lv_iload_n hx hb dX9_isYear_0 rfl (lv_at hl 0 rfl) ?_
  refine j_const hx hb dX9_isYear_1 ?_
  refine j_bi hx hb dX9_isYear_2 (by decide +kernel) ?_
  refine k_S (As := [.int (J v), .int (J 0), .int (J 9)]) (rest := []) (v := .int (J (pI (0 ≤ v ∧ v ≤ 9)))) hx hb hml hown hts hK hl.1 (c_X9_in l G v 0 9 ((by omega)) ((by omega)) ((by omega))) (va_cwS 3 hts gX9_isYear_X9_in rfl rfl rfl (by decide +kernel) ⟨Nat.le_of_ble_eq_true rfl, Nat.le_of_ble_eq_true rfl⟩) trivial rfl rfl (Nat.le_of_ble_eq_true rfl) dX9_isYear_4 ⟨Nat.zero_le _, Nat.zero_le _⟩ ?_
  exact r_z hx hb hr hlk (nz_pI _) (congrArg (fun z => Value.int (J z)) (show (pI (0 ≤ v ∧ v ≤ 9) : Int) = pI (0 ≤ v ∧ v ≤ 9) from rfl)) dX9_isYear_7

abbrev rmX8_billFor : Room := { frames := 0, cells := 0, slots := 0, locals := 0 }
set_option maxHeartbeats 4000000 in
set_option maxRecDepth 100000 in
theorem c_X8_billFor (l : Launch) (G : GG) (y p_ : Int) (h_y : 0 ≤ y ∧ y ≤ 20000000000) (h_p : 0 ≤ p_ ∧ p_ ≤ 3000) : MP l G yX8_billFor wsX8_billFor rmX8_billFor [.long (JL y), .int (J p_)] (fun H => True) (.int (J (y * p_ / 365000)) : Value) := by
  refine MP.of (cc := cX8_billFor) (maxL := 3) (ret := (some .int)) (by decide) rfl (Nat.le_of_ble_eq_true rfl) ?_
  intro p e s m below meth c hx hb hr hml hown hts hlk hK hP ls hl
  have hown : s.vm.findClass RX8 = some m.cls := hown
  have hl : lv_has ls 3 [(0, .long (JL y)), (2, .int (J p_))] := hl
  have lk0 := hts (.constantLong RX8 258 365000) (by decide +kernel)
  have hmm : 0 ≤ y * p_ ∧ y * p_ ≤ 20000000000 * 3000 := ⟨Int.mul_nonneg h_y.1 h_p.1, Int.mul_le_mul h_y.2 h_p.2 h_p.1 (by omega)⟩
  refine lv_lload_n hx hb dX8_billFor_0 rfl (lv_at hl 0 rfl) ?_
  refine lv_iload_n hx hb dX8_billFor_1 rfl (lv_at hl 1 rfl) ?_
  refine j_i2l hx hb (by omega) (by omega) dX8_billFor_2 ?_
  refine j_lmul hx hb dX8_billFor_3 ?_
  refine j_ldc2 hx hb hown lk0 (z := 365000) rfl dX8_billFor_4 ?_
  refine j_ldiv hx hb (by omega) (by omega) (by decide) (by decide) dX8_billFor_7 ?_
  refine j_l2i hx hb dX8_billFor_8 ?_
  exact r_i hx hb hr hlk (congrArg (fun z => Value.int (J z)) (show ((y * p_) / 365000 : Int) = y * p_ / 365000 from by omega)) dX8_billFor_9
