abbrev rmX9_isHouse : Room := { frames := 1, cells := 0, slots := 0, locals := 22 }
set_option maxHeartbeats 4000000 in
set_option maxRecDepth 100000 in
theorem c_X9_isHouse (l : Launch) (G : GG) (ad : Nat → Nat) (V : St) (fo am : Int) (ys : Int → Int) (z : Int) (hV : Iv V) (g_z : -2147483648 ≤ z ∧ z < 2147483648) : MP l G yX9_isHouse wsX9_isHouse rmX9_isHouse [.ref (ad 0), .int (J z)] (fun H => MW G H ad V fo am ys) (.int (J (pI (0 ≤ z ∧ z ≤ V 0 0 - 1))) : Value) := by
  refine MP.of (cc := cX9_isHouse) (maxL := 2) (ret := (some .boolean)) (by decide) rfl (Nat.le_of_ble_eq_true rfl) ?_
  intro p e s m below meth c hx hb hr hml hown hts hlk hK hP ls hl
  have hown : s.vm.findClass RX9 = some m.cls := hown
  have hl : lv_has ls 2 [(0, .ref (ad 0)), (1, .int (J z))] := hl
  have inX9_ : ∀ w ∈ u_ws RX9 TX9 22, w ∈ wsX9_isHouse := by decide +kernel
  have lk0 := hts (.fieldLink RX9 66 "RateBookModel" "houses" "I") (by decide +kernel)
  have hM : MW G s.heap ad V fo am ys := hP
  have hn := hV.n
  have hnl := hV.l
  refine lv_iload_n hx hb dX9_isHouse_0 rfl (lv_at hl 1 rfl) ?_
  refine j_const hx hb dX9_isHouse_1 ?_
  refine lv_aload_n hx hb dX9_isHouse_2 rfl (lv_at hl 0 rfl) ?_
  have ce_1 : At G s.heap (ad 0) (eO 9 [.int (J (V 0 0)), .ref (ad 1), .ref (ad 2), .ref (ad 3), .ref (ad 4), .ref (ad 5), .ref (ad 6), .ref (ad 7), .ref (ad 8), .ref (ad 9), .int (J (V 0 1)), .ref (ad 10), .ref (ad 11), .ref (ad 12), .ref (ad 13), .ref (ad 14), .ref (ad 15), .ref (ad 16), .ref (ad 17), .int (J fo), .int (J am), .ref (ad 18)]) := hM.1
  refine j_get (ci := 9) (v := .int (J (V 0 0))) hx hb hts inX9_ hown hK ce_1 rfl 0 (by decide) lk0 (fun _ h9 => h9) rfl dX9_isHouse_3 ?_
  refine j_const hx hb dX9_isHouse_6 ?_
  refine j_sub hx hb dX9_isHouse_7 ?_
  refine k_S (As := [.int (J z), .int (J 0), .int (J ((V 0 0) - 1))]) (rest := []) (v := .int (J (pI (0 ≤ z ∧ z ≤ ((V 0 0) - 1))))) hx hb hml hown hts hK hl.1 (c_X9_in l G z 0 ((V 0 0) - 1) (by omega) (by omega) (by omega)) (va_cwS 3 hts gX9_isHouse_X9_in rfl rfl rfl (by decide +kernel) ⟨Nat.le_of_ble_eq_true rfl, Nat.le_of_ble_eq_true rfl⟩) trivial rfl rfl (Nat.le_of_ble_eq_true rfl) dX9_isHouse_8 ⟨Nat.zero_le _, Nat.zero_le _⟩ ?_
  exact r_z hx hb hr hlk (nz_pI _) (congrArg (fun z => Value.int (J z)) (show (pI (0 ≤ z ∧ z ≤ ((V 0 0) - 1)) : Int) = pI (0 ≤ z ∧ z ≤ V 0 0 - 1) from by omega)) dX9_isHouse_11

abbrev rmX9_isAsked : Room := { frames := 0, cells := 0, slots := 0, locals := 0 }
set_option maxHeartbeats 4000000 in
set_option maxRecDepth 100000 in
theorem c_X9_isAsked (l : Launch) (G : GG) (ad : Nat → Nat) (V : St) (fo am : Int) (ys : Int → Int) (h k s_ out : Int) (hV : Iv V) (h_h : 0 ≤ h ∧ h < V 0 0) (h_s : -1 ≤ s_) (g_k : -2147483648 ≤ k ∧ k < 2147483648) (g_s_ : -2147483648 ≤ s_ ∧ s_ < 2147483648) (g_out : -2147483648 ≤ out ∧ out < 2147483648) : MP l G yX9_isAsked wsX9_isAsked rmX9_isAsked [.ref (ad 0), .int (J h), .int (J k), .int (J s_), .int (J out)] (fun H => MW G H ad V fo am ys) (.int (J (pI (asked V k s_ out h))) : Value) := by
  refine MP.of (cc := cX9_isAsked) (maxL := 5) (ret := (some .boolean)) (by decide) rfl (Nat.le_of_ble_eq_true rfl) ?_
  intro p e s m below meth c hx hb hr hml hown hts hlk hK hP ls hl
  have hown : s.vm.findClass RX9 = some m.cls := hown
  have hl : lv_has ls 5 [(0, .ref (ad 0)), (1, .int (J h)), (2, .int (J k)), (3, .int (J s_)), (4, .int (J out))] := hl
  have inX9_ : ∀ w ∈ u_ws RX9 TX9 22, w ∈ wsX9_isAsked := by decide +kernel
  have lk0 := hts (.fieldLink RX9 13 "RateBookModel" "kind" "[I") (by decide +kernel)
  have lk1 := hts (.fieldLink RX9 22 "RateBookModel" "rent" "[I") (by decide +kernel)
  have lk2 := hts (.fieldLink RX9 16 "RateBookModel" "street" "[I") (by decide +kernel)
  have hM : MW G s.heap ad V fo am ys := hP
  have hn := hV.n
  have hnl := hV.l
  refine lv_iload_n hx hb dX9_isAsked_0 rfl (lv_at hl 1 rfl) ?_
  refine lv_iload hx hb dX9_isAsked_1 (lv_at hl 4 rfl) ?_
  refine j_ceq (tgt := 43) hx hb (by omega) (by omega) (by omega) (by omega) dX9_isAsked_3 (by decide) (fun c3 => ?_) (fun c3 => ?_)
  · refine j_const hx hb dX9_isAsked_43 ?_
    exact r_z hx hb hr hlk rfl (congrArg (fun z => Value.int (J z)) (show (0 : Int) = pI (asked V k s_ out h) from (pI_f (by unfold asked; omega)).symm)) dX9_isAsked_44
  · refine lv_aload_n hx hb dX9_isAsked_6 rfl (lv_at hl 0 rfl) ?_
    have ce_1 : At G s.heap (ad 0) (eO 9 [.int (J (V 0 0)), .ref (ad 1), .ref (ad 2), .ref (ad 3), .ref (ad 4), .ref (ad 5), .ref (ad 6), .ref (ad 7), .ref (ad 8), .ref (ad 9), .int (J (V 0 1)), .ref (ad 10), .ref (ad 11), .ref (ad 12), .ref (ad 13), .ref (ad 14), .ref (ad 15), .ref (ad 16), .ref (ad 17), .int (J fo), .int (J am), .ref (ad 18)]) := hM.1
    refine j_get (ci := 9) (v := .ref (ad 2)) hx hb hts inX9_ hown hK ce_1 rfl 2 (by decide) lk0 (fun _ h9 => h9) rfl dX9_isAsked_7 ?_
    refine lv_iload_n hx hb dX9_isAsked_10 rfl (lv_at hl 1 rfl) ?_
    have ce_2 : At G s.heap (ad 2) (eI G 40 (V 2)) := (hM.2.1 2 (by decide) (by decide))
    refine j_iald hx hb hK ce_2 (by omega) (by omega) (by decide) dX9_isAsked_11 ?_
    have hr_3 := hV.h (i := h) (by omega) (by omega)
    refine lv_iload_n hx hb dX9_isAsked_12 rfl (lv_at hl 2 rfl) ?_
    refine j_cne (tgt := 43) hx hb (by omega) (by omega) (by omega) (by omega) dX9_isAsked_13 (by decide) (fun c13 => ?_) (fun c13 => ?_)
    · refine j_const hx hb dX9_isAsked_43 ?_
      exact r_z hx hb hr hlk rfl (congrArg (fun z => Value.int (J z)) (show (0 : Int) = pI (asked V k s_ out h) from (pI_f (by unfold asked; omega)).symm)) dX9_isAsked_44
    · refine lv_iload_n hx hb dX9_isAsked_16 rfl (lv_at hl 3 rfl) ?_
      refine j_lt0 (tgt := 30) hx hb (by omega) (by omega) dX9_isAsked_17 (by decide) (fun c17 => ?_) (fun c17 => ?_)
      · refine lv_aload_n hx hb dX9_isAsked_30 rfl (lv_at hl 0 rfl) ?_
        refine j_get (ci := 9) (v := .ref (ad 5)) hx hb hts inX9_ hown hK ce_1 rfl 5 (by decide) lk1 (fun _ h9 => h9) rfl dX9_isAsked_31 ?_
        refine lv_iload_n hx hb dX9_isAsked_34 rfl (lv_at hl 1 rfl) ?_
        have ce_4 : At G s.heap (ad 5) (eI G 40 (V 5)) := (hM.2.1 5 (by decide) (by decide))
        refine j_iald hx hb hK ce_4 (by omega) (by omega) (by decide) dX9_isAsked_35 ?_
        refine j_le0 (tgt := 43) hx hb (by omega) (by omega) dX9_isAsked_36 (by decide) (fun c36 => ?_) (fun c36 => ?_)
        · refine j_const hx hb dX9_isAsked_43 ?_
          exact r_z hx hb hr hlk rfl (congrArg (fun z => Value.int (J z)) (show (0 : Int) = pI (asked V k s_ out h) from (pI_f (by unfold asked; omega)).symm)) dX9_isAsked_44
        · refine j_const hx hb dX9_isAsked_39 ?_
          refine lv_goto (tgt := 44) hx hb dX9_isAsked_40 (by decide) ?_
          exact r_z hx hb hr hlk rfl (congrArg (fun z => Value.int (J z)) (show (1 : Int) = pI (asked V k s_ out h) from (pI_t (by unfold asked; omega)).symm)) dX9_isAsked_44
      · refine lv_aload_n hx hb dX9_isAsked_20 rfl (lv_at hl 0 rfl) ?_
        refine j_get (ci := 9) (v := .ref (ad 3)) hx hb hts inX9_ hown hK ce_1 rfl 3 (by decide) lk2 (fun _ h9 => h9) rfl dX9_isAsked_21 ?_
        refine lv_iload_n hx hb dX9_isAsked_24 rfl (lv_at hl 1 rfl) ?_
        have ce_5 : At G s.heap (ad 3) (eI G 40 (V 3)) := (hM.2.1 3 (by decide) (by decide))
        refine j_iald hx hb hK ce_5 (by omega) (by omega) (by decide) dX9_isAsked_25 ?_
        refine lv_iload_n hx hb dX9_isAsked_26 rfl (lv_at hl 3 rfl) ?_
        refine j_cne (tgt := 43) hx hb (by omega) (by omega) (by omega) (by omega) dX9_isAsked_27 (by decide) (fun c27 => ?_) (fun c27 => ?_)
        · refine j_const hx hb dX9_isAsked_43 ?_
          exact r_z hx hb hr hlk rfl (congrArg (fun z => Value.int (J z)) (show (0 : Int) = pI (asked V k s_ out h) from (pI_f (by unfold asked; omega)).symm)) dX9_isAsked_44
        · refine lv_aload_n hx hb dX9_isAsked_30 rfl (lv_at hl 0 rfl) ?_
          refine j_get (ci := 9) (v := .ref (ad 5)) hx hb hts inX9_ hown hK ce_1 rfl 5 (by decide) lk1 (fun _ h9 => h9) rfl dX9_isAsked_31 ?_
          refine lv_iload_n hx hb dX9_isAsked_34 rfl (lv_at hl 1 rfl) ?_
          have ce_6 : At G s.heap (ad 5) (eI G 40 (V 5)) := (hM.2.1 5 (by decide) (by decide))
          refine j_iald hx hb hK ce_6 (by omega) (by omega) (by decide) dX9_isAsked_35 ?_
          refine j_le0 (tgt := 43) hx hb (by omega) (by omega) dX9_isAsked_36 (by decide) (fun c36 => ?_) (fun c36 => ?_)
          · refine j_const hx hb dX9_isAsked_43 ?_
            exact r_z hx hb hr hlk rfl (congrArg (fun z => Value.int (J z)) (show (0 : Int) = pI (asked V k s_ out h) from (pI_f (by unfold asked; omega)).symm)) dX9_isAsked_44
          · refine j_const hx hb dX9_isAsked_39 ?_
            refine lv_goto (tgt := 44) hx hb dX9_isAsked_40 (by decide) ?_
            exact r_z hx hb hr hlk rfl (congrArg (fun z => Value.int (J z)) (show (1 : Int) = pI (asked V k s_ out h) from (pI_t (by unfold asked; omega)).symm)) dX9_isAsked_44

abbrev rmX9_isLess : Room := { frames := 0, cells := 0, slots := 0, locals := 0 }
set_option maxHeartbeats 4000000 in
set_option maxRecDepth 100000 in
theorem c_X9_isLess (l : Launch) (G : GG) (ad : Nat → Nat) (V : St) (fo am : Int) (ys : Int → Int) (h j : Int) (hV : Iv V) (h_h : 0 ≤ h ∧ h < V 0 0) (h_j : 0 ≤ j ∧ j < V 0 0) : MP l G yX9_isLess wsX9_isLess rmX9_isLess [.ref (ad 0), .int (J h), .int (J j)] (fun H => MW G H ad V fo am ys) (.int (J (pI (less V h j))) : Value) := by
  refine MP.of (cc := cX9_isLess) (maxL := 5) (ret := (some .boolean)) (by decide) rfl (Nat.le_of_ble_eq_true rfl) ?_
  intro p e s m below meth c hx hb hr hml hown hts hlk hK hP ls hl
  have hown : s.vm.findClass RX9 = some m.cls := hown
  have hl : lv_has ls 5 [(0, .ref (ad 0)), (1, .int (J h)), (2, .int (J j))] := hl
  have inX9_ : ∀ w ∈ u_ws RX9 TX9 22, w ∈ wsX9_isLess := by decide +kernel
  have lk0 := hts (.fieldLink RX9 22 "RateBookModel" "rent" "[I") (by decide +kernel)
  have lk1 := hts (.fieldLink RX9 19 "RateBookModel" "size" "[I") (by decide +kernel)
  have hM : MW G s.heap ad V fo am ys := hP
  have hn := hV.n
  have hnl := hV.l
  have m1 := mulb (a := V 5 h) (b := V 4 j) (A := 100000) (B := 500) (by have := hV.h h_h.1 h_h.2; have := hV.h h_j.1 h_j.2; omega) (by have := hV.h h_h.1 h_h.2; have := hV.h h_j.1 h_j.2; omega) (by have := hV.h h_h.1 h_h.2; have := hV.h h_j.1 h_j.2; omega) (by have := hV.h h_h.1 h_h.2; have := hV.h h_j.1 h_j.2; omega)
  have m2 := mulb (a := V 5 j) (b := V 4 h) (A := 100000) (B := 500) (by have := hV.h h_h.1 h_h.2; have := hV.h h_j.1 h_j.2; omega) (by have := hV.h h_h.1 h_h.2; have := hV.h h_j.1 h_j.2; omega) (by have := hV.h h_h.1 h_h.2; have := hV.h h_j.1 h_j.2; omega) (by have := hV.h h_h.1 h_h.2; have := hV.h h_j.1 h_j.2; omega)
  refine lv_aload_n hx hb dX9_isLess_0 rfl (lv_at hl 0 rfl) ?_
  have ce_1 : At G s.heap (ad 0) (eO 9 [.int (J (V 0 0)), .ref (ad 1), .ref (ad 2), .ref (ad 3), .ref (ad 4), .ref (ad 5), .ref (ad 6), .ref (ad 7), .ref (ad 8), .ref (ad 9), .int (J (V 0 1)), .ref (ad 10), .ref (ad 11), .ref (ad 12), .ref (ad 13), .ref (ad 14), .ref (ad 15), .ref (ad 16), .ref (ad 17), .int (J fo), .int (J am), .ref (ad 18)]) := hM.1
  refine j_get (ci := 9) (v := .ref (ad 5)) hx hb hts inX9_ hown hK ce_1 rfl 5 (by decide) lk0 (fun _ h9 => h9) rfl dX9_isLess_1 ?_
  refine lv_iload_n hx hb dX9_isLess_4 rfl (lv_at hl 1 rfl) ?_
  have ce_2 : At G s.heap (ad 5) (eI G 40 (V 5)) := (hM.2.1 5 (by decide) (by decide))
  refine j_iald hx hb hK ce_2 (by omega) (by omega) (by decide) dX9_isLess_5 ?_
  have hr_3 := hV.h (i := h) (by omega) (by omega)
  refine lv_aload_n hx hb dX9_isLess_6 rfl (lv_at hl 0 rfl) ?_
  refine j_get (ci := 9) (v := .ref (ad 4)) hx hb hts inX9_ hown hK ce_1 rfl 4 (by decide) lk1 (fun _ h9 => h9) rfl dX9_isLess_7 ?_
  refine lv_iload_n hx hb dX9_isLess_10 rfl (lv_at hl 2 rfl) ?_
  have ce_4 : At G s.heap (ad 4) (eI G 40 (V 4)) := (hM.2.1 4 (by decide) (by decide))
  refine j_iald hx hb hK ce_4 (by omega) (by omega) (by decide) dX9_isLess_11 ?_
  have hr_5 := hV.h (i := j) (by omega) (by omega)
  refine j_mul hx hb dX9_isLess_12 ?_
  refine lv_istore_n (lv' := [(3, .int (J (((V 5) h) * ((V 4) j)))), (0, .ref (ad 0)), (1, .int (J h)), (2, .int (J j))]) hx hb dX9_isLess_13 rfl hl (by decide) rfl (fun ls hl => ?_)
  refine lv_aload_n hx hb dX9_isLess_14 rfl (lv_at hl 1 rfl) ?_
  refine j_get (ci := 9) (v := .ref (ad 5)) hx hb hts inX9_ hown hK ce_1 rfl 5 (by decide) lk0 (fun _ h9 => h9) rfl dX9_isLess_15 ?_
  refine lv_iload_n hx hb dX9_isLess_18 rfl (lv_at hl 3 rfl) ?_
  refine j_iald hx hb hK ce_2 (by omega) (by omega) (by decide) dX9_isLess_19 ?_
  refine lv_aload_n hx hb dX9_isLess_20 rfl (lv_at hl 1 rfl) ?_
  refine j_get (ci := 9) (v := .ref (ad 4)) hx hb hts inX9_ hown hK ce_1 rfl 4 (by decide) lk1 (fun _ h9 => h9) rfl dX9_isLess_21 ?_
  refine lv_iload_n hx hb dX9_isLess_24 rfl (lv_at hl 2 rfl) ?_
  refine j_iald hx hb hK ce_4 (by omega) (by omega) (by decide) dX9_isLess_25 ?_
  refine j_mul hx hb dX9_isLess_26 ?_
  refine lv_istore (lv' := [(4, .int (J (((V 5) j) * ((V 4) h)))), (3, .int (J (((V 5) h) * ((V 4) j)))), (0, .ref (ad 0)), (1, .int (J h)), (2, .int (J j))]) hx hb dX9_isLess_27 hl (by decide) rfl (fun ls hl => ?_)
  refine lv_iload_n hx hb dX9_isLess_29 rfl (lv_at hl 1 rfl) ?_
  refine lv_iload hx hb dX9_isLess_30 (lv_at hl 0 rfl) ?_
  refine j_clt (tgt := 46) hx hb (by omega) (by omega) (by omega) (by omega) dX9_isLess_32 (by decide) (fun c32 => ?_) (fun c32 => ?_)
  · refine j_const hx hb dX9_isLess_46 ?_
    refine lv_goto (tgt := 51) hx hb dX9_isLess_47 (by decide) ?_
    exact r_z hx hb hr hlk rfl (congrArg (fun z => Value.int (J z)) (show (1 : Int) = pI (less V h j) from (pI_t (by unfold less; omega)).symm)) dX9_isLess_51
  · refine lv_iload_n hx hb dX9_isLess_35 rfl (lv_at hl 1 rfl) ?_
    refine lv_iload hx hb dX9_isLess_36 (lv_at hl 0 rfl) ?_
    refine j_cne (tgt := 50) hx hb (by omega) (by omega) (by omega) (by omega) dX9_isLess_38 (by decide) (fun c38 => ?_) (fun c38 => ?_)
    · refine j_const hx hb dX9_isLess_50 ?_
      exact r_z hx hb hr hlk rfl (congrArg (fun z => Value.int (J z)) (show (0 : Int) = pI (less V h j) from (pI_f (by unfold less; omega)).symm)) dX9_isLess_51
    · refine lv_iload_n hx hb dX9_isLess_41 rfl (lv_at hl 3 rfl) ?_
      refine lv_iload_n hx hb dX9_isLess_42 rfl (lv_at hl 4 rfl) ?_
      refine j_cge (tgt := 50) hx hb (by omega) (by omega) (by omega) (by omega) dX9_isLess_43 (by decide) (fun c43 => ?_) (fun c43 => ?_)
      · refine j_const hx hb dX9_isLess_50 ?_
        exact r_z hx hb hr hlk rfl (congrArg (fun z => Value.int (J z)) (show (0 : Int) = pI (less V h j) from (pI_f (by unfold less; omega)).symm)) dX9_isLess_51
      · refine j_const hx hb dX9_isLess_46 ?_
        refine lv_goto (tgt := 51) hx hb dX9_isLess_47 (by decide) ?_
        exact r_z hx hb hr hlk rfl (congrArg (fun z => Value.int (J z)) (show (1 : Int) = pI (less V h j) from (pI_t (by unfold less; omega)).symm)) dX9_isLess_51

abbrev rmX9_isLike : Room := { frames := 0, cells := 0, slots := 0, locals := 0 }
set_option maxHeartbeats 4000000 in
set_option maxRecDepth 100000 in
theorem c_X9_isLike (l : Launch) (G : GG) (ad : Nat → Nat) (V : St) (fo am : Int) (ys : Int → Int) (h j : Int) (hV : Iv V) (h_h : 0 ≤ h ∧ h < V 0 0) (h_j : 0 ≤ j ∧ j < V 0 0) : MP l G yX9_isLike wsX9_isLike rmX9_isLike [.ref (ad 0), .int (J h), .int (J j)] (fun H => MW G H ad V fo am ys) (.int (J (pI (V 2 h = V 2 j ∧ V 3 h = V 3 j))) : Value) := by
  refine MP.of (cc := cX9_isLike) (maxL := 3) (ret := (some .boolean)) (by decide) rfl (Nat.le_of_ble_eq_true rfl) ?_
  intro p e s m below meth c hx hb hr hml hown hts hlk hK hP ls hl
  have hown : s.vm.findClass RX9 = some m.cls := hown
  have hl : lv_has ls 3 [(0, .ref (ad 0)), (1, .int (J h)), (2, .int (J j))] := hl
  have inX9_ : ∀ w ∈ u_ws RX9 TX9 22, w ∈ wsX9_isLike := by decide +kernel
  have lk0 := hts (.fieldLink RX9 13 "RateBookModel" "kind" "[I") (by decide +kernel)
  have lk1 := hts (.fieldLink RX9 16 "RateBookModel" "street" "[I") (by decide +kernel)
  have hM : MW G s.heap ad V fo am ys := hP
  have hn := hV.n
  have hnl := hV.l
  refine lv_aload_n hx hb dX9_isLike_0 rfl (lv_at hl 0 rfl) ?_
  have ce_1 : At G s.heap (ad 0) (eO 9 [.int (J (V 0 0)), .ref (ad 1), .ref (ad 2), .ref (ad 3), .ref (ad 4), .ref (ad 5), .ref (ad 6), .ref (ad 7), .ref (ad 8), .ref (ad 9), .int (J (V 0 1)), .ref (ad 10), .ref (ad 11), .ref (ad 12), .ref (ad 13), .ref (ad 14), .ref (ad 15), .ref (ad 16), .ref (ad 17), .int (J fo), .int (J am), .ref (ad 18)]) := hM.1
  refine j_get (ci := 9) (v := .ref (ad 2)) hx hb hts inX9_ hown hK ce_1 rfl 2 (by decide) lk0 (fun _ h9 => h9) rfl dX9_isLike_1 ?_
  refine lv_iload_n hx hb dX9_isLike_4 rfl (lv_at hl 1 rfl) ?_
  have ce_2 : At G s.heap (ad 2) (eI G 40 (V 2)) := (hM.2.1 2 (by decide) (by decide))
  refine j_iald hx hb hK ce_2 (by omega) (by omega) (by decide) dX9_isLike_5 ?_
  have hr_3 := hV.h (i := h) (by omega) (by omega)
  refine lv_aload_n hx hb dX9_isLike_6 rfl (lv_at hl 0 rfl) ?_
  refine j_get (ci := 9) (v := .ref (ad 2)) hx hb hts inX9_ hown hK ce_1 rfl 2 (by decide) lk0 (fun _ h9 => h9) rfl dX9_isLike_7 ?_
  refine lv_iload_n hx hb dX9_isLike_10 rfl (lv_at hl 2 rfl) ?_
  refine j_iald hx hb hK ce_2 (by omega) (by omega) (by decide) dX9_isLike_11 ?_
  have hr_4 := hV.h (i := j) (by omega) (by omega)
  refine j_cne (tgt := 34) hx hb (by omega) (by omega) (by omega) (by omega) dX9_isLike_12 (by decide) (fun c12 => ?_) (fun c12 => ?_)
  · refine j_const hx hb dX9_isLike_34 ?_
    exact r_z hx hb hr hlk rfl (congrArg (fun z => Value.int (J z)) (show (0 : Int) = pI (V 2 h = V 2 j ∧ V 3 h = V 3 j) from (pI_f (by omega)).symm)) dX9_isLike_35
  · refine lv_aload_n hx hb dX9_isLike_15 rfl (lv_at hl 0 rfl) ?_
    refine j_get (ci := 9) (v := .ref (ad 3)) hx hb hts inX9_ hown hK ce_1 rfl 3 (by decide) lk1 (fun _ h9 => h9) rfl dX9_isLike_16 ?_
    refine lv_iload_n hx hb dX9_isLike_19 rfl (lv_at hl 1 rfl) ?_
    have ce_5 : At G s.heap (ad 3) (eI G 40 (V 3)) := (hM.2.1 3 (by decide) (by decide))
    refine j_iald hx hb hK ce_5 (by omega) (by omega) (by decide) dX9_isLike_20 ?_
    refine lv_aload_n hx hb dX9_isLike_21 rfl (lv_at hl 0 rfl) ?_
    refine j_get (ci := 9) (v := .ref (ad 3)) hx hb hts inX9_ hown hK ce_1 rfl 3 (by decide) lk1 (fun _ h9 => h9) rfl dX9_isLike_22 ?_
    refine lv_iload_n hx hb dX9_isLike_25 rfl (lv_at hl 2 rfl) ?_
    refine j_iald hx hb hK ce_5 (by omega) (by omega) (by decide) dX9_isLike_26 ?_
    refine j_cne (tgt := 34) hx hb (by omega) (by omega) (by omega) (by omega) dX9_isLike_27 (by decide) (fun c27 => ?_) (fun c27 => ?_)
    · refine j_const hx hb dX9_isLike_34 ?_
      exact r_z hx hb hr hlk rfl (congrArg (fun z => Value.int (J z)) (show (0 : Int) = pI (V 2 h = V 2 j ∧ V 3 h = V 3 j) from (pI_f (by omega)).symm)) dX9_isLike_35
    · refine j_const hx hb dX9_isLike_30 ?_
      refine lv_goto (tgt := 35) hx hb dX9_isLike_31 (by decide) ?_
      exact r_z hx hb hr hlk rfl (congrArg (fun z => Value.int (J z)) (show (1 : Int) = pI (V 2 h = V 2 j ∧ V 3 h = V 3 j) from (pI_t (by omega)).symm)) dX9_isLike_35

abbrev rmX9_counting : Room := { frames := 0, cells := 0, slots := 0, locals := 0 }
set_option maxHeartbeats 4000000 in
set_option maxRecDepth 100000 in
theorem c_X9_counting (l : Launch) (G : GG) (ad : Nat → Nat) (V : St) (fo am : Int) (ys : Int → Int) (h d k : Int) (hV : Iv V) (h_h : 0 ≤ h ∧ h < V 0 0) (g_d : -2147483648 ≤ d ∧ d < 2147483648) (g_k : -2147483648 ≤ k ∧ k < 2147483648) : MP l G yX9_counting wsX9_counting rmX9_counting [.ref (ad 0), .int (J h), .int (J d), .int (J k)] (fun H => MW G H ad V fo am ys) (.int (J (mCo V h d k)) : Value) := by
  refine MP.of (cc := cX9_counting) (maxL := 7) (ret := (some .int)) (by decide) rfl (Nat.le_of_ble_eq_true rfl) ?_
  intro p e s m below meth c hx hb hr hml hown hts hlk hK hP ls hl
  have hown : s.vm.findClass RX9 = some m.cls := hown
  have hl : lv_has ls 7 [(0, .ref (ad 0)), (1, .int (J h)), (2, .int (J d)), (3, .int (J k))] := hl
  have inX9_ : ∀ w ∈ u_ws RX9 TX9 22, w ∈ wsX9_counting := by decide +kernel
  have lk0 := hts (.fieldLink RX9 25 "RateBookModel" "events" "[I") (by decide +kernel)
  have lk1 := hts (.fieldLink RX9 31 "RateBookModel" "eventKind" "[I") (by decide +kernel)
  have lk2 := hts (.fieldLink RX9 28 "RateBookModel" "eventDay" "[I") (by decide +kernel)
  have hM : MW G s.heap ad V fo am ys := hP
  have hn := hV.n
  have hnl := hV.l
  have hih := hV.h h_h.1 h_h.2
  refine j_const hx hb dX9_counting_0 ?_
  refine lv_istore (lv' := [(4, .int (J (-1))), (0, .ref (ad 0)), (1, .int (J h)), (2, .int (J d)), (3, .int (J k))]) hx hb dX9_counting_1 hl (by decide) rfl (fun ls hl => ?_)
  refine j_bi hx hb dX9_counting_3 (by decide +kernel) ?_
  refine lv_iload_n hx hb dX9_counting_5 rfl (lv_at hl 2 rfl) ?_
  refine j_mul hx hb dX9_counting_6 ?_
  refine lv_istore (lv' := [(5, .int (J (12 * h))), (4, .int (J (-1))), (0, .ref (ad 0)), (1, .int (J h)), (2, .int (J d)), (3, .int (J k))]) hx hb dX9_counting_7 hl (by decide) rfl (fun ls hl => ?_)
  have lp9 : ∀ (n : Nat) (j : Int) (j0 : 0 ≤ j ∧ j ≤ V 6 h) (hm : V 6 h - j < (n : Int)) (ls : Array Slot) (hl : lv_has ls 7 [(5, .int (J (12 * h + j))), (4, .int (J (lo (cnG V h d k) (-1) j))), (0, .ref (ad 0)), (1, .int (J h)), (2, .int (J d)), (3, .int (J k))]), W p l e (headSpec wsX9_counting rmX9_counting).room s m ([.ref (ad 0), .int (J h), .int (J d), .int (J k)] : List Value).toArray below meth c s.heap [] 0 0 (MQ below (k2_QcV (.int (J (mCo V h d k)) : Value)) ([.ref (ad 0), .int (J h), .int (J d), .int (J k)] : List Value).toArray s 0 0 (fun _ => False)) (F0 m 9 ls []) := by
    intro n
    induction n with
    | zero =>
      intro j j0 hm ls hl
      exact absurd hm (by omega)
    | succ n ih9 =>
      intro j j0 hm ls hl
      have hcr := cn_rng hV (d := d) (k := k) h_h.1 h_h.2 j0.1 j0.2
      refine lv_iload hx hb dX9_counting_9 (lv_at hl 0 rfl) ?_
      refine j_bi hx hb dX9_counting_11 (by decide +kernel) ?_
      refine lv_iload_n hx hb dX9_counting_13 rfl (lv_at hl 3 rfl) ?_
      refine j_mul hx hb dX9_counting_14 ?_
      refine lv_aload_n hx hb dX9_counting_15 rfl (lv_at hl 2 rfl) ?_
      have ce_1 : At G s.heap (ad 0) (eO 9 [.int (J (V 0 0)), .ref (ad 1), .ref (ad 2), .ref (ad 3), .ref (ad 4), .ref (ad 5), .ref (ad 6), .ref (ad 7), .ref (ad 8), .ref (ad 9), .int (J (V 0 1)), .ref (ad 10), .ref (ad 11), .ref (ad 12), .ref (ad 13), .ref (ad 14), .ref (ad 15), .ref (ad 16), .ref (ad 17), .int (J fo), .int (J am), .ref (ad 18)]) := hM.1
      refine j_get (ci := 9) (v := .ref (ad 6)) hx hb hts inX9_ hown hK ce_1 rfl 6 (by decide) lk0 (fun _ h9 => h9) rfl dX9_counting_16 ?_
      refine lv_iload_n hx hb dX9_counting_19 rfl (lv_at hl 3 rfl) ?_
      have ce_2 : At G s.heap (ad 6) (eI G 40 (V 6)) := (hM.2.1 6 (by decide) (by decide))
      refine j_iald hx hb hK ce_2 (by omega) (by omega) (by decide) dX9_counting_20 ?_
      have hr_3 := hV.h (i := h) (by omega) (by omega)
      refine j_add hx hb dX9_counting_21 ?_
      refine j_cge (tgt := 96) hx hb (by omega) (by omega) (by omega) (by omega) dX9_counting_22 (by decide) (fun c22 => ?_) (fun c22 => ?_)
      · refine lv_iload hx hb dX9_counting_96 (lv_at hl 1 rfl) ?_
        exact r_i hx hb hr hlk (congrArg (fun z => Value.int (J z)) (show (lo (cnG V h d k) (-1) j : Int) = mCo V h d k from by rw [show j = V 6 h by omega]; rfl)) dX9_counting_98
      · refine lv_aload_n hx hb dX9_counting_25 rfl (lv_at hl 2 rfl) ?_
        refine j_get (ci := 9) (v := .ref (ad 8)) hx hb hts inX9_ hown hK ce_1 rfl 8 (by decide) lk1 (fun _ h9 => h9) rfl dX9_counting_26 ?_
        refine lv_iload hx hb dX9_counting_29 (lv_at hl 0 rfl) ?_
        have ce_4 : At G s.heap (ad 8) (eI G 480 (V 8)) := (hM.2.1 8 (by decide) (by decide))
        refine j_iald hx hb hK ce_4 (by omega) (by omega) (by decide) dX9_counting_31 ?_
        have hr_5 := hV.e2 (h := h) (x := 12 * h + j) (by omega) (by omega) (by omega) (by omega)
        refine lv_iload_n hx hb dX9_counting_32 rfl (lv_at hl 5 rfl) ?_
        refine j_cne (tgt := 73) hx hb (by omega) (by omega) (by omega) (by omega) dX9_counting_33 (by decide) (fun c33 => ?_) (fun c33 => ?_)
        · refine j_const hx hb dX9_counting_73 ?_
          refine lv_istore (lv' := [(6, .int (J 0)), (5, .int (J (12 * h + j))), (4, .int (J (lo (cnG V h d k) (-1) j))), (0, .ref (ad 0)), (1, .int (J h)), (2, .int (J d)), (3, .int (J k))]) hx hb dX9_counting_74 hl (by decide) rfl (fun ls hl => ?_)
          refine lv_iload hx hb dX9_counting_76 (lv_at hl 0 rfl) ?_
          refine j_eq0 (tgt := 86) hx hb (by decide) (by decide) dX9_counting_78 (by decide) (fun c78 => ?_) (fun c78 => absurd c78 (by decide))
          refine lv_iload hx hb dX9_counting_86 (lv_at hl 2 rfl) ?_
          refine lv_istore (lv' := [(4, .int (J (lo (cnG V h d k) (-1) j))), (6, .int (J 0)), (5, .int (J (12 * h + j))), (0, .ref (ad 0)), (1, .int (J h)), (2, .int (J d)), (3, .int (J k))]) hx hb dX9_counting_88 hl (by decide) rfl (fun ls hl => ?_)
          refine lv_iinc (v := J ((12 * h + j) + 1)) (lv' := [(5, .int (J ((12 * h + j) + 1))), (4, .int (J (lo (cnG V h d k) (-1) j))), (6, .int (J 0)), (0, .ref (ad 0)), (1, .int (J h)), (2, .int (J d)), (3, .int (J k))]) hx hb dX9_counting_90 hl (k := 2) rfl (J_add _ _) (by decide) rfl (fun ls hl => ?_)
          refine lv_goto (tgt := 9) hx hb dX9_counting_93 (by decide) ?_
          exact ih9 (j + 1) (by omega) (by omega) _ (lv_sub hl [0, 1, 3, 4, 5, 6] (by rw [show (12 * h + (j + 1) : Int) = (12 * h + j) + 1 from (by omega)]; rw [show (lo (cnG V h d k) (-1) (j + 1) : Int) = lo (cnG V h d k) (-1) j from (by rw [lo_s _ _ (by omega)]; (try simp only [cnG]) <;> (repeat' split) <;> first | rfl | omega | (exfalso; omega) | (exfalso; contradiction) | (exfalso; simp_all))]; try rfl))
        · refine lv_aload_n hx hb dX9_counting_36 rfl (lv_at hl 2 rfl) ?_
          refine j_get (ci := 9) (v := .ref (ad 7)) hx hb hts inX9_ hown hK ce_1 rfl 7 (by decide) lk2 (fun _ h9 => h9) rfl dX9_counting_37 ?_
          refine lv_iload hx hb dX9_counting_40 (lv_at hl 0 rfl) ?_
          have ce_6 : At G s.heap (ad 7) (eI G 480 (V 7)) := (hM.2.1 7 (by decide) (by decide))
          refine j_iald hx hb hK ce_6 (by omega) (by omega) (by decide) dX9_counting_42 ?_
          refine lv_iload_n hx hb dX9_counting_43 rfl (lv_at hl 4 rfl) ?_
          refine j_cgt (tgt := 73) hx hb (by omega) (by omega) (by omega) (by omega) dX9_counting_44 (by decide) (fun c44 => ?_) (fun c44 => ?_)
          · refine j_const hx hb dX9_counting_73 ?_
            refine lv_istore (lv' := [(6, .int (J 0)), (5, .int (J (12 * h + j))), (4, .int (J (lo (cnG V h d k) (-1) j))), (0, .ref (ad 0)), (1, .int (J h)), (2, .int (J d)), (3, .int (J k))]) hx hb dX9_counting_74 hl (by decide) rfl (fun ls hl => ?_)
            refine lv_iload hx hb dX9_counting_76 (lv_at hl 0 rfl) ?_
            refine j_eq0 (tgt := 86) hx hb (by decide) (by decide) dX9_counting_78 (by decide) (fun c78 => ?_) (fun c78 => absurd c78 (by decide))
            refine lv_iload hx hb dX9_counting_86 (lv_at hl 2 rfl) ?_
            refine lv_istore (lv' := [(4, .int (J (lo (cnG V h d k) (-1) j))), (6, .int (J 0)), (5, .int (J (12 * h + j))), (0, .ref (ad 0)), (1, .int (J h)), (2, .int (J d)), (3, .int (J k))]) hx hb dX9_counting_88 hl (by decide) rfl (fun ls hl => ?_)
            refine lv_iinc (v := J ((12 * h + j) + 1)) (lv' := [(5, .int (J ((12 * h + j) + 1))), (4, .int (J (lo (cnG V h d k) (-1) j))), (6, .int (J 0)), (0, .ref (ad 0)), (1, .int (J h)), (2, .int (J d)), (3, .int (J k))]) hx hb dX9_counting_90 hl (k := 2) rfl (J_add _ _) (by decide) rfl (fun ls hl => ?_)
            refine lv_goto (tgt := 9) hx hb dX9_counting_93 (by decide) ?_
            exact ih9 (j + 1) (by omega) (by omega) _ (lv_sub hl [0, 1, 3, 4, 5, 6] (by rw [show (12 * h + (j + 1) : Int) = (12 * h + j) + 1 from (by omega)]; rw [show (lo (cnG V h d k) (-1) (j + 1) : Int) = lo (cnG V h d k) (-1) j from (by rw [lo_s _ _ (by omega)]; (try simp only [cnG]) <;> (repeat' split) <;> first | rfl | omega | (exfalso; omega) | (exfalso; contradiction) | (exfalso; simp_all))]; try rfl))
          · refine lv_iload hx hb dX9_counting_47 (lv_at hl 1 rfl) ?_
            refine j_lt0 (tgt := 69) hx hb (by omega) (by omega) dX9_counting_49 (by decide) (fun c49 => ?_) (fun c49 => ?_)
            · refine j_const hx hb dX9_counting_69 ?_
              refine lv_goto (tgt := 74) hx hb dX9_counting_70 (by decide) ?_
              refine lv_istore (lv' := [(6, .int (J 1)), (5, .int (J (12 * h + j))), (4, .int (J (lo (cnG V h d k) (-1) j))), (0, .ref (ad 0)), (1, .int (J h)), (2, .int (J d)), (3, .int (J k))]) hx hb dX9_counting_74 hl (by decide) rfl (fun ls hl => ?_)
              refine lv_iload hx hb dX9_counting_76 (lv_at hl 0 rfl) ?_
              refine j_eq0 (tgt := 86) hx hb (by decide) (by decide) dX9_counting_78 (by decide) (fun c78 => absurd c78 (by decide)) (fun c78 => ?_)
              refine lv_iload hx hb dX9_counting_81 (lv_at hl 1 rfl) ?_
              refine lv_goto (tgt := 88) hx hb dX9_counting_83 (by decide) ?_
              refine lv_istore (lv' := [(4, .int (J (12 * h + j))), (6, .int (J 1)), (5, .int (J (12 * h + j))), (0, .ref (ad 0)), (1, .int (J h)), (2, .int (J d)), (3, .int (J k))]) hx hb dX9_counting_88 hl (by decide) rfl (fun ls hl => ?_)
              refine lv_iinc (v := J ((12 * h + j) + 1)) (lv' := [(5, .int (J ((12 * h + j) + 1))), (4, .int (J (12 * h + j))), (6, .int (J 1)), (0, .ref (ad 0)), (1, .int (J h)), (2, .int (J d)), (3, .int (J k))]) hx hb dX9_counting_90 hl (k := 2) rfl (J_add _ _) (by decide) rfl (fun ls hl => ?_)
              refine lv_goto (tgt := 9) hx hb dX9_counting_93 (by decide) ?_
              exact ih9 (j + 1) (by omega) (by omega) _ (lv_sub hl [0, 1, 3, 4, 5, 6] (by rw [show (12 * h + (j + 1) : Int) = (12 * h + j) + 1 from (by omega)]; rw [show (lo (cnG V h d k) (-1) (j + 1) : Int) = 12 * h + j from (by rw [lo_s _ _ (by omega)]; (try simp only [cnG]) <;> (repeat' split) <;> first | rfl | omega | (exfalso; omega) | (exfalso; contradiction) | (exfalso; simp_all))]; try rfl))
            · refine lv_aload_n hx hb dX9_counting_52 rfl (lv_at hl 2 rfl) ?_
              refine j_get (ci := 9) (v := .ref (ad 7)) hx hb hts inX9_ hown hK ce_1 rfl 7 (by decide) lk2 (fun _ h9 => h9) rfl dX9_counting_53 ?_
              refine lv_iload hx hb dX9_counting_56 (lv_at hl 0 rfl) ?_
              refine j_iald hx hb hK ce_6 (by omega) (by omega) (by decide) dX9_counting_58 ?_
              refine lv_aload_n hx hb dX9_counting_59 rfl (lv_at hl 2 rfl) ?_
              refine j_get (ci := 9) (v := .ref (ad 7)) hx hb hts inX9_ hown hK ce_1 rfl 7 (by decide) lk2 (fun _ h9 => h9) rfl dX9_counting_60 ?_
              refine lv_iload hx hb dX9_counting_63 (lv_at hl 1 rfl) ?_
              refine j_iald hx hb hK ce_6 (by omega) (by omega) (by decide) dX9_counting_65 ?_
              have hr_7 := hV.e2 (h := h) (x := lo (cnG V h d k) (-1) j) (by omega) (by omega) (by omega) (by omega)
              refine j_clt (tgt := 73) hx hb (by omega) (by omega) (by omega) (by omega) dX9_counting_66 (by decide) (fun c66 => ?_) (fun c66 => ?_)
              · refine j_const hx hb dX9_counting_73 ?_
                refine lv_istore (lv' := [(6, .int (J 0)), (5, .int (J (12 * h + j))), (4, .int (J (lo (cnG V h d k) (-1) j))), (0, .ref (ad 0)), (1, .int (J h)), (2, .int (J d)), (3, .int (J k))]) hx hb dX9_counting_74 hl (by decide) rfl (fun ls hl => ?_)
                refine lv_iload hx hb dX9_counting_76 (lv_at hl 0 rfl) ?_
                refine j_eq0 (tgt := 86) hx hb (by decide) (by decide) dX9_counting_78 (by decide) (fun c78 => ?_) (fun c78 => absurd c78 (by decide))
                refine lv_iload hx hb dX9_counting_86 (lv_at hl 2 rfl) ?_
                refine lv_istore (lv' := [(4, .int (J (lo (cnG V h d k) (-1) j))), (6, .int (J 0)), (5, .int (J (12 * h + j))), (0, .ref (ad 0)), (1, .int (J h)), (2, .int (J d)), (3, .int (J k))]) hx hb dX9_counting_88 hl (by decide) rfl (fun ls hl => ?_)
                refine lv_iinc (v := J ((12 * h + j) + 1)) (lv' := [(5, .int (J ((12 * h + j) + 1))), (4, .int (J (lo (cnG V h d k) (-1) j))), (6, .int (J 0)), (0, .ref (ad 0)), (1, .int (J h)), (2, .int (J d)), (3, .int (J k))]) hx hb dX9_counting_90 hl (k := 2) rfl (J_add _ _) (by decide) rfl (fun ls hl => ?_)
                refine lv_goto (tgt := 9) hx hb dX9_counting_93 (by decide) ?_
                exact ih9 (j + 1) (by omega) (by omega) _ (lv_sub hl [0, 1, 3, 4, 5, 6] (by rw [show (12 * h + (j + 1) : Int) = (12 * h + j) + 1 from (by omega)]; rw [show (lo (cnG V h d k) (-1) (j + 1) : Int) = lo (cnG V h d k) (-1) j from (by rw [lo_s _ _ (by omega)]; (try simp only [cnG]) <;> (repeat' split) <;> first | rfl | omega | (exfalso; omega) | (exfalso; contradiction) | (exfalso; simp_all))]; try rfl))
              · refine j_const hx hb dX9_counting_69 ?_
                refine lv_goto (tgt := 74) hx hb dX9_counting_70 (by decide) ?_
                refine lv_istore (lv' := [(6, .int (J 1)), (5, .int (J (12 * h + j))), (4, .int (J (lo (cnG V h d k) (-1) j))), (0, .ref (ad 0)), (1, .int (J h)), (2, .int (J d)), (3, .int (J k))]) hx hb dX9_counting_74 hl (by decide) rfl (fun ls hl => ?_)
                refine lv_iload hx hb dX9_counting_76 (lv_at hl 0 rfl) ?_
                refine j_eq0 (tgt := 86) hx hb (by decide) (by decide) dX9_counting_78 (by decide) (fun c78 => absurd c78 (by decide)) (fun c78 => ?_)
                refine lv_iload hx hb dX9_counting_81 (lv_at hl 1 rfl) ?_
                refine lv_goto (tgt := 88) hx hb dX9_counting_83 (by decide) ?_
                refine lv_istore (lv' := [(4, .int (J (12 * h + j))), (6, .int (J 1)), (5, .int (J (12 * h + j))), (0, .ref (ad 0)), (1, .int (J h)), (2, .int (J d)), (3, .int (J k))]) hx hb dX9_counting_88 hl (by decide) rfl (fun ls hl => ?_)
                refine lv_iinc (v := J ((12 * h + j) + 1)) (lv' := [(5, .int (J ((12 * h + j) + 1))), (4, .int (J (12 * h + j))), (6, .int (J 1)), (0, .ref (ad 0)), (1, .int (J h)), (2, .int (J d)), (3, .int (J k))]) hx hb dX9_counting_90 hl (k := 2) rfl (J_add _ _) (by decide) rfl (fun ls hl => ?_)
                refine lv_goto (tgt := 9) hx hb dX9_counting_93 (by decide) ?_
                exact ih9 (j + 1) (by omega) (by omega) _ (lv_sub hl [0, 1, 3, 4, 5, 6] (by rw [show (12 * h + (j + 1) : Int) = (12 * h + j) + 1 from (by omega)]; rw [show (lo (cnG V h d k) (-1) (j + 1) : Int) = 12 * h + j from (by rw [lo_s _ _ (by omega)]; (try simp only [cnG]) <;> (repeat' split) <;> first | rfl | omega | (exfalso; omega) | (exfalso; contradiction) | (exfalso; simp_all))]; try rfl))
  exact lp9 13 0 (by have := hV.h h_h.1 h_h.2; omega) (by have := hV.h h_h.1 h_h.2; omega) _ (lv_sub hl [0, 1, 2, 3, 4, 5] (by rw [show (12 * h + 0 : Int) = 12 * h from (by omega)]; rw [show (lo (cnG V h d k) (-1) 0 : Int) = (-1) from (by rfl)]; try rfl))

abbrev rmX9_sizeOn : Room := { frames := 1, cells := 0, slots := 0, locals := 26 }
set_option maxHeartbeats 4000000 in
set_option maxRecDepth 100000 in
theorem c_X9_sizeOn (l : Launch) (G : GG) (ad : Nat → Nat) (V : St) (fo am : Int) (ys : Int → Int) (h d : Int) (hV : Iv V) (h_h : 0 ≤ h ∧ h < V 0 0) (g_d : -2147483648 ≤ d ∧ d < 2147483648) : MP l G yX9_sizeOn wsX9_sizeOn rmX9_sizeOn [.ref (ad 0), .int (J h), .int (J d)] (fun H => MW G H ad V fo am ys) (.int (J (mSz V h d)) : Value) := by
  refine MP.of (cc := cX9_sizeOn) (maxL := 4) (ret := (some .int)) (by decide) rfl (Nat.le_of_ble_eq_true rfl) ?_
  intro p e s m below meth c hx hb hr hml hown hts hlk hK hP ls hl
  have hown : s.vm.findClass RX9 = some m.cls := hown
  have hl : lv_has ls 4 [(0, .ref (ad 0)), (1, .int (J h)), (2, .int (J d))] := hl
  have inX9_ : ∀ w ∈ u_ws RX9 TX9 22, w ∈ wsX9_sizeOn := by decide +kernel
  have lk0 := hts (.fieldLink RX9 34 "RateBookModel" "eventValue" "[I") (by decide +kernel)
  have lk1 := hts (.fieldLink RX9 19 "RateBookModel" "size" "[I") (by decide +kernel)
  have hM : MW G s.heap ad V fo am ys := hP
  have hn := hV.n
  have hnl := hV.l
  have hih := hV.h h_h.1 h_h.2
  refine lv_aload_n hx hb dX9_sizeOn_0 rfl (lv_at hl 0 rfl) ?_
  refine lv_iload_n hx hb dX9_sizeOn_1 rfl (lv_at hl 1 rfl) ?_
  refine lv_iload_n hx hb dX9_sizeOn_2 rfl (lv_at hl 2 rfl) ?_
  refine j_const hx hb dX9_sizeOn_3 ?_
  have ce_1 : At G s.heap (ad 0) (eO 9 [.int (J (V 0 0)), .ref (ad 1), .ref (ad 2), .ref (ad 3), .ref (ad 4), .ref (ad 5), .ref (ad 6), .ref (ad 7), .ref (ad 8), .ref (ad 9), .int (J (V 0 1)), .ref (ad 10), .ref (ad 11), .ref (ad 12), .ref (ad 13), .ref (ad 14), .ref (ad 15), .ref (ad 16), .ref (ad 17), .int (J fo), .int (J am), .ref (ad 18)]) := hM.1
  refine k_V (ci := 9) (b := ad 0) (As := [.int (J h), .int (J d), .int (J 0)]) (rest := []) (v := .int (J (mCo V h d 0))) hx hb hml hown hts hK hl.1 (c_X9_counting l G ad V fo am ys h d 0 hV (by omega) (by omega) (by omega)) (cwV 3 hts gX9_sizeOn_X9_counting rfl rfl rfl (by decide +kernel) ⟨Nat.le_of_ble_eq_true rfl, Nat.le_of_ble_eq_true rfl⟩) ce_1 rfl hM rfl rfl (Nat.le_of_ble_eq_true rfl) dX9_sizeOn_4 ⟨Nat.zero_le _, Nat.zero_le _⟩ ?_
  have hcr := mCo_rng hV d 0 h_h.1 h_h.2
  refine lv_istore_n (lv' := [(3, .int (J (mCo V h d 0))), (0, .ref (ad 0)), (1, .int (J h)), (2, .int (J d))]) hx hb dX9_sizeOn_7 rfl hl (by decide) rfl (fun ls hl => ?_)
  refine lv_iload_n hx hb dX9_sizeOn_8 rfl (lv_at hl 0 rfl) ?_
  refine j_ge0 (tgt := 21) hx hb (by omega) (by omega) dX9_sizeOn_9 (by decide) (fun c9 => ?_) (fun c9 => ?_)
  · refine lv_aload_n hx hb dX9_sizeOn_21 rfl (lv_at hl 1 rfl) ?_
    refine j_get (ci := 9) (v := .ref (ad 9)) hx hb hts inX9_ hown hK ce_1 rfl 9 (by decide) lk0 (fun _ h9 => h9) rfl dX9_sizeOn_22 ?_
    refine lv_iload_n hx hb dX9_sizeOn_25 rfl (lv_at hl 0 rfl) ?_
    have ce_2 : At G s.heap (ad 9) (eI G 480 (V 9)) := (hM.2.1 9 (by decide) (by decide))
    refine j_iald hx hb hK ce_2 (by omega) (by omega) (by decide) dX9_sizeOn_26 ?_
    have hr_3 := hV.e2 (h := h) (x := mCo V h d 0) (by omega) (by omega) (by omega) (by omega)
    exact r_i hx hb hr hlk (congrArg (fun z => Value.int (J z)) (show ((V 9) (mCo V h d 0) : Int) = mSz V h d from by unfold mSz; rw [if_neg (by omega)])) dX9_sizeOn_27
  · refine lv_aload_n hx hb dX9_sizeOn_12 rfl (lv_at hl 1 rfl) ?_
    refine j_get (ci := 9) (v := .ref (ad 4)) hx hb hts inX9_ hown hK ce_1 rfl 4 (by decide) lk1 (fun _ h9 => h9) rfl dX9_sizeOn_13 ?_
    refine lv_iload_n hx hb dX9_sizeOn_16 rfl (lv_at hl 2 rfl) ?_
    have ce_4 : At G s.heap (ad 4) (eI G 40 (V 4)) := (hM.2.1 4 (by decide) (by decide))
    refine j_iald hx hb hK ce_4 (by omega) (by omega) (by decide) dX9_sizeOn_17 ?_
    have hr_5 := hV.h (i := h) (by omega) (by omega)
    refine lv_goto (tgt := 27) hx hb dX9_sizeOn_18 (by decide) ?_
    exact r_i hx hb hr hlk (congrArg (fun z => Value.int (J z)) (show ((V 4) h : Int) = mSz V h d from by unfold mSz; rw [if_pos (by omega)])) dX9_sizeOn_27

abbrev rmX9_useOn : Room := { frames := 1, cells := 0, slots := 0, locals := 26 }
set_option maxHeartbeats 4000000 in
set_option maxRecDepth 100000 in
theorem c_X9_useOn (l : Launch) (G : GG) (ad : Nat → Nat) (V : St) (fo am : Int) (ys : Int → Int) (h d : Int) (hV : Iv V) (h_h : 0 ≤ h ∧ h < V 0 0) (g_d : -2147483648 ≤ d ∧ d < 2147483648) : MP l G yX9_useOn wsX9_useOn rmX9_useOn [.ref (ad 0), .int (J h), .int (J d)] (fun H => MW G H ad V fo am ys) (.int (J (mUs V h d)) : Value) := by
  refine MP.of (cc := cX9_useOn) (maxL := 4) (ret := (some .int)) (by decide) rfl (Nat.le_of_ble_eq_true rfl) ?_
  intro p e s m below meth c hx hb hr hml hown hts hlk hK hP ls hl
  have hown : s.vm.findClass RX9 = some m.cls := hown
  have hl : lv_has ls 4 [(0, .ref (ad 0)), (1, .int (J h)), (2, .int (J d))] := hl
  have inX9_ : ∀ w ∈ u_ws RX9 TX9 22, w ∈ wsX9_useOn := by decide +kernel
  have lk0 := hts (.fieldLink RX9 34 "RateBookModel" "eventValue" "[I") (by decide +kernel)
  have hM : MW G s.heap ad V fo am ys := hP
  have hn := hV.n
  have hnl := hV.l
  have hih := hV.h h_h.1 h_h.2
  refine lv_aload_n hx hb dX9_useOn_0 rfl (lv_at hl 0 rfl) ?_
  refine lv_iload_n hx hb dX9_useOn_1 rfl (lv_at hl 1 rfl) ?_
  refine lv_iload_n hx hb dX9_useOn_2 rfl (lv_at hl 2 rfl) ?_
  refine j_const hx hb dX9_useOn_3 ?_
  have ce_1 : At G s.heap (ad 0) (eO 9 [.int (J (V 0 0)), .ref (ad 1), .ref (ad 2), .ref (ad 3), .ref (ad 4), .ref (ad 5), .ref (ad 6), .ref (ad 7), .ref (ad 8), .ref (ad 9), .int (J (V 0 1)), .ref (ad 10), .ref (ad 11), .ref (ad 12), .ref (ad 13), .ref (ad 14), .ref (ad 15), .ref (ad 16), .ref (ad 17), .int (J fo), .int (J am), .ref (ad 18)]) := hM.1
  refine k_V (ci := 9) (b := ad 0) (As := [.int (J h), .int (J d), .int (J 1)]) (rest := []) (v := .int (J (mCo V h d 1))) hx hb hml hown hts hK hl.1 (c_X9_counting l G ad V fo am ys h d 1 hV (by omega) (by omega) (by omega)) (cwV 3 hts gX9_useOn_X9_counting rfl rfl rfl (by decide +kernel) ⟨Nat.le_of_ble_eq_true rfl, Nat.le_of_ble_eq_true rfl⟩) ce_1 rfl hM rfl rfl (Nat.le_of_ble_eq_true rfl) dX9_useOn_4 ⟨Nat.zero_le _, Nat.zero_le _⟩ ?_
  have hcr := mCo_rng hV d 1 h_h.1 h_h.2
  refine lv_istore_n (lv' := [(3, .int (J (mCo V h d 1))), (0, .ref (ad 0)), (1, .int (J h)), (2, .int (J d))]) hx hb dX9_useOn_7 rfl hl (by decide) rfl (fun ls hl => ?_)
  refine lv_iload_n hx hb dX9_useOn_8 rfl (lv_at hl 0 rfl) ?_
  refine j_ge0 (tgt := 16) hx hb (by omega) (by omega) dX9_useOn_9 (by decide) (fun c9 => ?_) (fun c9 => ?_)
  · refine lv_aload_n hx hb dX9_useOn_16 rfl (lv_at hl 1 rfl) ?_
    refine j_get (ci := 9) (v := .ref (ad 9)) hx hb hts inX9_ hown hK ce_1 rfl 9 (by decide) lk0 (fun _ h9 => h9) rfl dX9_useOn_17 ?_
    refine lv_iload_n hx hb dX9_useOn_20 rfl (lv_at hl 0 rfl) ?_
    have ce_2 : At G s.heap (ad 9) (eI G 480 (V 9)) := (hM.2.1 9 (by decide) (by decide))
    refine j_iald hx hb hK ce_2 (by omega) (by omega) (by decide) dX9_useOn_21 ?_
    have hr_3 := hV.e2 (h := h) (x := mCo V h d 1) (by omega) (by omega) (by omega) (by omega)
    exact r_i hx hb hr hlk (congrArg (fun z => Value.int (J z)) (show ((V 9) (mCo V h d 1) : Int) = mUs V h d from by unfold mUs; rw [if_neg (by omega)])) dX9_useOn_22
  · refine j_const hx hb dX9_useOn_12 ?_
    refine lv_goto (tgt := 22) hx hb dX9_useOn_13 (by decide) ?_
    exact r_i hx hb hr hlk (congrArg (fun z => Value.int (J z)) (show (0 : Int) = mUs V h d from by unfold mUs; rw [if_pos (by omega)])) dX9_useOn_22

abbrev rmX9_listOn : Room := { frames := 0, cells := 0, slots := 0, locals := 0 }
set_option maxHeartbeats 4000000 in
set_option maxRecDepth 100000 in
theorem c_X9_listOn (l : Launch) (G : GG) (ad : Nat → Nat) (V : St) (fo am : Int) (ys : Int → Int) (d : Int) (hV : Iv V) (g_d : -2147483648 ≤ d ∧ d < 2147483648) : MP l G yX9_listOn wsX9_listOn rmX9_listOn [.ref (ad 0), .int (J d)] (fun H => MW G H ad V fo am ys) (.int (J (stO V d)) : Value) := by
  refine MP.of (cc := cX9_listOn) (maxL := 4) (ret := (some .int)) (by decide) rfl (Nat.le_of_ble_eq_true rfl) ?_
  intro p e s m below meth c hx hb hr hml hown hts hlk hK hP ls hl
  have hown : s.vm.findClass RX9 = some m.cls := hown
  have hl : lv_has ls 4 [(0, .ref (ad 0)), (1, .int (J d))] := hl
  have inX9_ : ∀ w ∈ u_ws RX9 TX9 22, w ∈ wsX9_listOn := by decide +kernel
  have lk0 := hts (.fieldLink RX9 103 "RateBookModel" "lists" "I") (by decide +kernel)
  have lk1 := hts (.fieldLink RX9 37 "RateBookModel" "listDay" "[I") (by decide +kernel)
  have hM : MW G s.heap ad V fo am ys := hP
  have hn := hV.n
  have hnl := hV.l
  refine j_bi hx hb dX9_listOn_0 (by decide +kernel) ?_
  refine lv_istore_n (lv' := [(2, .int (J (-4))), (0, .ref (ad 0)), (1, .int (J d))]) hx hb dX9_listOn_2 rfl hl (by decide) rfl (fun ls hl => ?_)
  refine j_const hx hb dX9_listOn_3 ?_
  refine lv_istore_n (lv' := [(3, .int (J 0)), (2, .int (J (-4))), (0, .ref (ad 0)), (1, .int (J d))]) hx hb dX9_listOn_4 rfl hl (by decide) rfl (fun ls hl => ?_)
  have lp5 : ∀ (n : Nat) (i : Int) (i0 : 0 ≤ i ∧ i ≤ V 0 1) (hm : V 0 1 - i < (n : Int)) (ls : Array Slot) (hl : lv_has ls 4 [(3, .int (J i)), (2, .int (J (lo (fun x o => if V 10 o ≤ d then o else x) (-4) i))), (0, .ref (ad 0)), (1, .int (J d))]), W p l e (headSpec wsX9_listOn rmX9_listOn).room s m ([.ref (ad 0), .int (J d)] : List Value).toArray below meth c s.heap [] 0 0 (MQ below (k2_QcV (.int (J (stO V d)) : Value)) ([.ref (ad 0), .int (J d)] : List Value).toArray s 0 0 (fun _ => False)) (F0 m 5 ls []) := by
    intro n
    induction n with
    | zero =>
      intro i i0 hm ls hl
      exact absurd hm (by omega)
    | succ n ih5 =>
      intro i i0 hm ls hl
      refine lv_iload_n hx hb dX9_listOn_5 rfl (lv_at hl 0 rfl) ?_
      refine lv_aload_n hx hb dX9_listOn_6 rfl (lv_at hl 2 rfl) ?_
      have ce_1 : At G s.heap (ad 0) (eO 9 [.int (J (V 0 0)), .ref (ad 1), .ref (ad 2), .ref (ad 3), .ref (ad 4), .ref (ad 5), .ref (ad 6), .ref (ad 7), .ref (ad 8), .ref (ad 9), .int (J (V 0 1)), .ref (ad 10), .ref (ad 11), .ref (ad 12), .ref (ad 13), .ref (ad 14), .ref (ad 15), .ref (ad 16), .ref (ad 17), .int (J fo), .int (J am), .ref (ad 18)]) := hM.1
      refine j_get (ci := 9) (v := .int (J (V 0 1))) hx hb hts inX9_ hown hK ce_1 rfl 10 (by decide) lk0 (fun _ h9 => h9) rfl dX9_listOn_7 ?_
      refine j_cge (tgt := 35) hx hb (by omega) (by omega) (by omega) (by omega) dX9_listOn_10 (by decide) (fun c10 => ?_) (fun c10 => ?_)
      · refine lv_iload_n hx hb dX9_listOn_35 rfl (lv_at hl 1 rfl) ?_
        exact r_i hx hb hr hlk (congrArg (fun z => Value.int (J z)) (show (lo (fun x o => if V 10 o ≤ d then o else x) (-4) i : Int) = stO V d from by rw [show i = V 0 1 by omega]; rfl)) dX9_listOn_36
      · refine lv_aload_n hx hb dX9_listOn_13 rfl (lv_at hl 2 rfl) ?_
        refine j_get (ci := 9) (v := .ref (ad 10)) hx hb hts inX9_ hown hK ce_1 rfl 11 (by decide) lk1 (fun _ h9 => h9) rfl dX9_listOn_14 ?_
        refine lv_iload_n hx hb dX9_listOn_17 rfl (lv_at hl 0 rfl) ?_
        have ce_2 : At G s.heap (ad 10) (eI G 10 (V 10)) := (hM.2.1 10 (by decide) (by decide))
        refine j_iald hx hb hK ce_2 (by omega) (by omega) (by decide) dX9_listOn_18 ?_
        have hr_3 := hV.d (i := i) (by omega) (by omega)
        refine lv_iload_n hx hb dX9_listOn_19 rfl (lv_at hl 3 rfl) ?_
        refine j_cgt (tgt := 27) hx hb (by omega) (by omega) (by omega) (by omega) dX9_listOn_20 (by decide) (fun c20 => ?_) (fun c20 => ?_)
        · refine lv_iload_n hx hb dX9_listOn_27 rfl (lv_at hl 1 rfl) ?_
          refine lv_istore_n (lv' := [(2, .int (J (lo (fun x o => if V 10 o ≤ d then o else x) (-4) i))), (3, .int (J i)), (0, .ref (ad 0)), (1, .int (J d))]) hx hb dX9_listOn_28 rfl hl (by decide) rfl (fun ls hl => ?_)
          refine lv_iinc (v := J (i + 1)) (lv' := [(3, .int (J (i + 1))), (2, .int (J (lo (fun x o => if V 10 o ≤ d then o else x) (-4) i))), (0, .ref (ad 0)), (1, .int (J d))]) hx hb dX9_listOn_29 hl (k := 1) rfl (J_add _ _) (by decide) rfl (fun ls hl => ?_)
          refine lv_goto (tgt := 5) hx hb dX9_listOn_32 (by decide) ?_
          exact ih5 (i + 1) (by omega) (by omega) _ (lv_sub hl [0, 1, 2, 3] (by rw [show (lo (fun x o => if V 10 o ≤ d then o else x) (-4) (i + 1) : Int) = lo (fun x o => if V 10 o ≤ d then o else x) (-4) i from (by rw [lo_s _ _ (by omega)]; (try simp only [ge_iff_le]) <;> (repeat' split) <;> first | rfl | omega | (exfalso; omega) | (exfalso; contradiction) | (exfalso; simp_all))]; try rfl))
        · refine lv_iload_n hx hb dX9_listOn_23 rfl (lv_at hl 0 rfl) ?_
          refine lv_goto (tgt := 28) hx hb dX9_listOn_24 (by decide) ?_
          refine lv_istore_n (lv' := [(2, .int (J i)), (3, .int (J i)), (0, .ref (ad 0)), (1, .int (J d))]) hx hb dX9_listOn_28 rfl hl (by decide) rfl (fun ls hl => ?_)
          refine lv_iinc (v := J (i + 1)) (lv' := [(3, .int (J (i + 1))), (2, .int (J i)), (0, .ref (ad 0)), (1, .int (J d))]) hx hb dX9_listOn_29 hl (k := 1) rfl (J_add _ _) (by decide) rfl (fun ls hl => ?_)
          refine lv_goto (tgt := 5) hx hb dX9_listOn_32 (by decide) ?_
          exact ih5 (i + 1) (by omega) (by omega) _ (lv_sub hl [0, 1, 2, 3] (by rw [show (lo (fun x o => if V 10 o ≤ d then o else x) (-4) (i + 1) : Int) = i from (by rw [lo_s _ _ (by omega)]; (try simp only [ge_iff_le]) <;> (repeat' split) <;> first | rfl | omega | (exfalso; omega) | (exfalso; contradiction) | (exfalso; simp_all))]; try rfl))
  exact lp5 11 0 (by omega) (by omega) _ (lv_sub hl [0, 1, 2, 3] (by rw [show (lo (fun x o => if V 10 o ≤ d then o else x) (-4) 0 : Int) = (-4) from (by rfl)]; try rfl))

abbrev rmX9_nextCut : Room := { frames := 0, cells := 0, slots := 0, locals := 0 }
set_option maxHeartbeats 4000000 in
set_option maxRecDepth 100000 in
theorem c_X9_nextCut (l : Launch) (G : GG) (ad : Nat → Nat) (V : St) (fo am : Int) (ys : Int → Int) (h f t : Int) (hV : Iv V) (h_h : 0 ≤ h ∧ h < V 0 0) (h_f : 0 ≤ f ∧ f ≤ t) (h_t : t ≤ 3649) : MP l G yX9_nextCut wsX9_nextCut rmX9_nextCut [.ref (ad 0), .int (J h), .int (J f), .int (J t)] (fun H => MW G H ad V fo am ys) (.int (J (mNc V h f t)) : Value) := by
  refine MP.of (cc := cX9_nextCut) (maxL := 6) (ret := (some .int)) (by decide) rfl (Nat.le_of_ble_eq_true rfl) ?_
  intro p e s m below meth c hx hb hr hml hown hts hlk hK hP ls hl
  have hown : s.vm.findClass RX9 = some m.cls := hown
  have hl : lv_has ls 6 [(0, .ref (ad 0)), (1, .int (J h)), (2, .int (J f)), (3, .int (J t))] := hl
  have inX9_ : ∀ w ∈ u_ws RX9 TX9 22, w ∈ wsX9_nextCut := by decide +kernel
  have lk0 := hts (.fieldLink RX9 25 "RateBookModel" "events" "[I") (by decide +kernel)
  have lk1 := hts (.fieldLink RX9 31 "RateBookModel" "eventKind" "[I") (by decide +kernel)
  have lk2 := hts (.fieldLink RX9 28 "RateBookModel" "eventDay" "[I") (by decide +kernel)
  have hM : MW G s.heap ad V fo am ys := hP
  have hn := hV.n
  have hnl := hV.l
  have hih := hV.h h_h.1 h_h.2
  refine lv_iload_n hx hb dX9_nextCut_0 rfl (lv_at hl 3 rfl) ?_
  refine j_const hx hb dX9_nextCut_1 ?_
  refine j_add hx hb dX9_nextCut_2 ?_
  refine lv_istore (lv' := [(4, .int (J (t + 1))), (0, .ref (ad 0)), (1, .int (J h)), (2, .int (J f)), (3, .int (J t))]) hx hb dX9_nextCut_3 hl (by decide) rfl (fun ls hl => ?_)
  refine j_bi hx hb dX9_nextCut_5 (by decide +kernel) ?_
  refine lv_iload_n hx hb dX9_nextCut_7 rfl (lv_at hl 2 rfl) ?_
  refine j_mul hx hb dX9_nextCut_8 ?_
  refine lv_istore (lv' := [(5, .int (J (12 * h))), (4, .int (J (t + 1))), (0, .ref (ad 0)), (1, .int (J h)), (2, .int (J f)), (3, .int (J t))]) hx hb dX9_nextCut_9 hl (by decide) rfl (fun ls hl => ?_)
  have lp11 : ∀ (n : Nat) (j : Int) (j0 : 0 ≤ j ∧ j ≤ V 6 h) (hm : V 6 h - j < (n : Int)) (ls : Array Slot) (hl : lv_has ls 6 [(5, .int (J (12 * h + j))), (4, .int (J (lo (ncG V h f) (t + 1) j))), (0, .ref (ad 0)), (1, .int (J h)), (2, .int (J f)), (3, .int (J t))]), W p l e (headSpec wsX9_nextCut rmX9_nextCut).room s m ([.ref (ad 0), .int (J h), .int (J f), .int (J t)] : List Value).toArray below meth c s.heap [] 0 0 (MQ below (k2_QcV (.int (J (mNc V h f t)) : Value)) ([.ref (ad 0), .int (J h), .int (J f), .int (J t)] : List Value).toArray s 0 0 (fun _ => False)) (F0 m 11 ls []) := by
    intro n
    induction n with
    | zero =>
      intro j j0 hm ls hl
      exact absurd hm (by omega)
    | succ n ih11 =>
      intro j j0 hm ls hl
      have hcr := nc_rng hV (f := f) (t := t) h_h.1 h_h.2 (by omega) j0.1 j0.2
      refine lv_iload hx hb dX9_nextCut_11 (lv_at hl 0 rfl) ?_
      refine j_bi hx hb dX9_nextCut_13 (by decide +kernel) ?_
      refine lv_iload_n hx hb dX9_nextCut_15 rfl (lv_at hl 3 rfl) ?_
      refine j_mul hx hb dX9_nextCut_16 ?_
      refine lv_aload_n hx hb dX9_nextCut_17 rfl (lv_at hl 2 rfl) ?_
      have ce_1 : At G s.heap (ad 0) (eO 9 [.int (J (V 0 0)), .ref (ad 1), .ref (ad 2), .ref (ad 3), .ref (ad 4), .ref (ad 5), .ref (ad 6), .ref (ad 7), .ref (ad 8), .ref (ad 9), .int (J (V 0 1)), .ref (ad 10), .ref (ad 11), .ref (ad 12), .ref (ad 13), .ref (ad 14), .ref (ad 15), .ref (ad 16), .ref (ad 17), .int (J fo), .int (J am), .ref (ad 18)]) := hM.1
      refine j_get (ci := 9) (v := .ref (ad 6)) hx hb hts inX9_ hown hK ce_1 rfl 6 (by decide) lk0 (fun _ h9 => h9) rfl dX9_nextCut_18 ?_
      refine lv_iload_n hx hb dX9_nextCut_21 rfl (lv_at hl 3 rfl) ?_
      have ce_2 : At G s.heap (ad 6) (eI G 40 (V 6)) := (hM.2.1 6 (by decide) (by decide))
      refine j_iald hx hb hK ce_2 (by omega) (by omega) (by decide) dX9_nextCut_22 ?_
      have hr_3 := hV.h (i := h) (by omega) (by omega)
      refine j_add hx hb dX9_nextCut_23 ?_
      refine j_cge (tgt := 81) hx hb (by omega) (by omega) (by omega) (by omega) dX9_nextCut_24 (by decide) (fun c24 => ?_) (fun c24 => ?_)
      · refine lv_iload hx hb dX9_nextCut_81 (lv_at hl 1 rfl) ?_
        exact r_i hx hb hr hlk (congrArg (fun z => Value.int (J z)) (show (lo (ncG V h f) (t + 1) j : Int) = mNc V h f t from by rw [show j = V 6 h by omega]; rfl)) dX9_nextCut_83
      · refine lv_aload_n hx hb dX9_nextCut_27 rfl (lv_at hl 2 rfl) ?_
        refine j_get (ci := 9) (v := .ref (ad 8)) hx hb hts inX9_ hown hK ce_1 rfl 8 (by decide) lk1 (fun _ h9 => h9) rfl dX9_nextCut_28 ?_
        refine lv_iload hx hb dX9_nextCut_31 (lv_at hl 0 rfl) ?_
        have ce_4 : At G s.heap (ad 8) (eI G 480 (V 8)) := (hM.2.1 8 (by decide) (by decide))
        refine j_iald hx hb hK ce_4 (by omega) (by omega) (by decide) dX9_nextCut_33 ?_
        have hr_5 := hV.e2 (h := h) (x := 12 * h + j) (by omega) (by omega) (by omega) (by omega)
        refine j_const hx hb dX9_nextCut_34 ?_
        refine j_cne (tgt := 71) hx hb (by omega) (by omega) (by decide) (by decide) dX9_nextCut_35 (by decide) (fun c35 => ?_) (fun c35 => ?_)
        · refine lv_iload hx hb dX9_nextCut_71 (lv_at hl 1 rfl) ?_
          refine lv_istore (lv' := [(4, .int (J (lo (ncG V h f) (t + 1) j))), (5, .int (J (12 * h + j))), (0, .ref (ad 0)), (1, .int (J h)), (2, .int (J f)), (3, .int (J t))]) hx hb dX9_nextCut_73 hl (by decide) rfl (fun ls hl => ?_)
          refine lv_iinc (v := J ((12 * h + j) + 1)) (lv' := [(5, .int (J ((12 * h + j) + 1))), (4, .int (J (lo (ncG V h f) (t + 1) j))), (0, .ref (ad 0)), (1, .int (J h)), (2, .int (J f)), (3, .int (J t))]) hx hb dX9_nextCut_75 hl (k := 1) rfl (J_add _ _) (by decide) rfl (fun ls hl => ?_)
          refine lv_goto (tgt := 11) hx hb dX9_nextCut_78 (by decide) ?_
          exact ih11 (j + 1) (by omega) (by omega) _ (lv_sub hl [0, 1, 2, 3, 4, 5] (by rw [show (12 * h + (j + 1) : Int) = (12 * h + j) + 1 from (by omega)]; rw [show (lo (ncG V h f) (t + 1) (j + 1) : Int) = lo (ncG V h f) (t + 1) j from (by rw [lo_s _ _ (by omega)]; (try simp only [ncG]) <;> (repeat' split) <;> first | rfl | omega | (exfalso; omega) | (exfalso; contradiction) | (exfalso; simp_all))]; try rfl))
        · refine lv_aload_n hx hb dX9_nextCut_38 rfl (lv_at hl 2 rfl) ?_
          refine j_get (ci := 9) (v := .ref (ad 7)) hx hb hts inX9_ hown hK ce_1 rfl 7 (by decide) lk2 (fun _ h9 => h9) rfl dX9_nextCut_39 ?_
          refine lv_iload hx hb dX9_nextCut_42 (lv_at hl 0 rfl) ?_
          have ce_6 : At G s.heap (ad 7) (eI G 480 (V 7)) := (hM.2.1 7 (by decide) (by decide))
          refine j_iald hx hb hK ce_6 (by omega) (by omega) (by decide) dX9_nextCut_44 ?_
          refine lv_iload_n hx hb dX9_nextCut_45 rfl (lv_at hl 4 rfl) ?_
          refine j_clt (tgt := 71) hx hb (by omega) (by omega) (by omega) (by omega) dX9_nextCut_46 (by decide) (fun c46 => ?_) (fun c46 => ?_)
          · refine lv_iload hx hb dX9_nextCut_71 (lv_at hl 1 rfl) ?_
            refine lv_istore (lv' := [(4, .int (J (lo (ncG V h f) (t + 1) j))), (5, .int (J (12 * h + j))), (0, .ref (ad 0)), (1, .int (J h)), (2, .int (J f)), (3, .int (J t))]) hx hb dX9_nextCut_73 hl (by decide) rfl (fun ls hl => ?_)
            refine lv_iinc (v := J ((12 * h + j) + 1)) (lv' := [(5, .int (J ((12 * h + j) + 1))), (4, .int (J (lo (ncG V h f) (t + 1) j))), (0, .ref (ad 0)), (1, .int (J h)), (2, .int (J f)), (3, .int (J t))]) hx hb dX9_nextCut_75 hl (k := 1) rfl (J_add _ _) (by decide) rfl (fun ls hl => ?_)
            refine lv_goto (tgt := 11) hx hb dX9_nextCut_78 (by decide) ?_
            exact ih11 (j + 1) (by omega) (by omega) _ (lv_sub hl [0, 1, 2, 3, 4, 5] (by rw [show (12 * h + (j + 1) : Int) = (12 * h + j) + 1 from (by omega)]; rw [show (lo (ncG V h f) (t + 1) (j + 1) : Int) = lo (ncG V h f) (t + 1) j from (by rw [lo_s _ _ (by omega)]; (try simp only [ncG]) <;> (repeat' split) <;> first | rfl | omega | (exfalso; omega) | (exfalso; contradiction) | (exfalso; simp_all))]; try rfl))
          · refine lv_aload_n hx hb dX9_nextCut_49 rfl (lv_at hl 2 rfl) ?_
            refine j_get (ci := 9) (v := .ref (ad 7)) hx hb hts inX9_ hown hK ce_1 rfl 7 (by decide) lk2 (fun _ h9 => h9) rfl dX9_nextCut_50 ?_
            refine lv_iload hx hb dX9_nextCut_53 (lv_at hl 0 rfl) ?_
            refine j_iald hx hb hK ce_6 (by omega) (by omega) (by decide) dX9_nextCut_55 ?_
            refine lv_iload hx hb dX9_nextCut_56 (lv_at hl 1 rfl) ?_
            refine j_cge (tgt := 71) hx hb (by omega) (by omega) (by omega) (by omega) dX9_nextCut_58 (by decide) (fun c58 => ?_) (fun c58 => ?_)
            · refine lv_iload hx hb dX9_nextCut_71 (lv_at hl 1 rfl) ?_
              refine lv_istore (lv' := [(4, .int (J (lo (ncG V h f) (t + 1) j))), (5, .int (J (12 * h + j))), (0, .ref (ad 0)), (1, .int (J h)), (2, .int (J f)), (3, .int (J t))]) hx hb dX9_nextCut_73 hl (by decide) rfl (fun ls hl => ?_)
              refine lv_iinc (v := J ((12 * h + j) + 1)) (lv' := [(5, .int (J ((12 * h + j) + 1))), (4, .int (J (lo (ncG V h f) (t + 1) j))), (0, .ref (ad 0)), (1, .int (J h)), (2, .int (J f)), (3, .int (J t))]) hx hb dX9_nextCut_75 hl (k := 1) rfl (J_add _ _) (by decide) rfl (fun ls hl => ?_)
              refine lv_goto (tgt := 11) hx hb dX9_nextCut_78 (by decide) ?_
              exact ih11 (j + 1) (by omega) (by omega) _ (lv_sub hl [0, 1, 2, 3, 4, 5] (by rw [show (12 * h + (j + 1) : Int) = (12 * h + j) + 1 from (by omega)]; rw [show (lo (ncG V h f) (t + 1) (j + 1) : Int) = lo (ncG V h f) (t + 1) j from (by rw [lo_s _ _ (by omega)]; (try simp only [ncG]) <;> (repeat' split) <;> first | rfl | omega | (exfalso; omega) | (exfalso; contradiction) | (exfalso; simp_all))]; try rfl))
            · refine lv_aload_n hx hb dX9_nextCut_61 rfl (lv_at hl 2 rfl) ?_
              refine j_get (ci := 9) (v := .ref (ad 7)) hx hb hts inX9_ hown hK ce_1 rfl 7 (by decide) lk2 (fun _ h9 => h9) rfl dX9_nextCut_62 ?_
              refine lv_iload hx hb dX9_nextCut_65 (lv_at hl 0 rfl) ?_
              refine j_iald hx hb hK ce_6 (by omega) (by omega) (by decide) dX9_nextCut_67 ?_
              refine lv_goto (tgt := 73) hx hb dX9_nextCut_68 (by decide) ?_
              refine lv_istore (lv' := [(4, .int (J ((V 7) (12 * h + j)))), (5, .int (J (12 * h + j))), (0, .ref (ad 0)), (1, .int (J h)), (2, .int (J f)), (3, .int (J t))]) hx hb dX9_nextCut_73 hl (by decide) rfl (fun ls hl => ?_)
              refine lv_iinc (v := J ((12 * h + j) + 1)) (lv' := [(5, .int (J ((12 * h + j) + 1))), (4, .int (J ((V 7) (12 * h + j)))), (0, .ref (ad 0)), (1, .int (J h)), (2, .int (J f)), (3, .int (J t))]) hx hb dX9_nextCut_75 hl (k := 1) rfl (J_add _ _) (by decide) rfl (fun ls hl => ?_)
              refine lv_goto (tgt := 11) hx hb dX9_nextCut_78 (by decide) ?_
              exact ih11 (j + 1) (by omega) (by omega) _ (lv_sub hl [0, 1, 2, 3, 4, 5] (by rw [show (12 * h + (j + 1) : Int) = (12 * h + j) + 1 from (by omega)]; rw [show (lo (ncG V h f) (t + 1) (j + 1) : Int) = (V 7) (12 * h + j) from (by rw [lo_s _ _ (by omega)]; (try simp only [ncG]) <;> (repeat' split) <;> first | rfl | omega | (exfalso; omega) | (exfalso; contradiction) | (exfalso; simp_all))]; try rfl))
  exact lp11 13 0 (by have := hV.h h_h.1 h_h.2; omega) (by have := hV.h h_h.1 h_h.2; omega) _ (lv_sub hl [0, 1, 2, 3, 4, 5] (by rw [show (12 * h + 0 : Int) = 12 * h from (by omega)]; rw [show (lo (ncG V h f) (t + 1) 0 : Int) = t + 1 from (by rfl)]; try rfl))

abbrev rmX9_worthOn : Room := { frames := 2, cells := 0, slots := 0, locals := 49 }
set_option maxHeartbeats 4000000 in
set_option maxRecDepth 100000 in
theorem c_X9_worthOn (l : Launch) (G : GG) (ad : Nat → Nat) (V : St) (fo am : Int) (ys : Int → Int) (h d : Int) (hV : Iv V) (h_h : 0 ≤ h ∧ h < V 0 0) (h_d : 0 ≤ d ∧ d ≤ 3649) : MP l G yX9_worthOn wsX9_worthOn rmX9_worthOn [.ref (ad 0), .int (J h), .int (J d)] (fun H => MW G H ad V fo am ys) (.int (J (mWo V h d)) : Value) := by
  refine MP.of (cc := cX9_worthOn) (maxL := 9) (ret := (some .int)) (by decide) rfl (Nat.le_of_ble_eq_true rfl) ?_
  intro p e s m below meth c hx hb hr hml hown hts hlk hK hP ls hl
  have hown : s.vm.findClass RX9 = some m.cls := hown
  have hl : lv_has ls 9 [(0, .ref (ad 0)), (1, .int (J h)), (2, .int (J d))] := hl
  have inX9_ : ∀ w ∈ u_ws RX9 TX9 22, w ∈ wsX9_worthOn := by decide +kernel
  have lk0 := hts (.fieldLink RX9 13 "RateBookModel" "kind" "[I") (by decide +kernel)
  have lk1 := hts (.fieldLink RX9 16 "RateBookModel" "street" "[I") (by decide +kernel)
  have lk2 := hts (.fieldLink RX9 40 "RateBookModel" "above" "[I") (by decide +kernel)
  have lk3 := hts (.fieldLink RX9 43 "RateBookModel" "below" "[I") (by decide +kernel)
  have lk4 := hts (.fieldLink RX9 37 "RateBookModel" "listDay" "[I") (by decide +kernel)
  have lk5 := hts (.fieldLink RX9 25 "RateBookModel" "events" "[I") (by decide +kernel)
  have lk6 := hts (.fieldLink RX9 31 "RateBookModel" "eventKind" "[I") (by decide +kernel)
  have lk7 := hts (.fieldLink RX9 28 "RateBookModel" "eventDay" "[I") (by decide +kernel)
  have lk8 := hts (.fieldLink RX9 34 "RateBookModel" "eventValue" "[I") (by decide +kernel)
  have lk9 := hts (.constantLong RX9 134 1000) (by decide +kernel)
  have hM : MW G s.heap ad V fo am ys := hP
  have hn := hV.n
  have hnl := hV.l
  have hih := hV.h h_h.1 h_h.2
  have hst := stO_rng hV d
  have hzr := mSz_rng hV d h_h.1 h_h.2
  refine lv_aload_n hx hb dX9_worthOn_0 rfl (lv_at hl 0 rfl) ?_
  refine lv_iload_n hx hb dX9_worthOn_1 rfl (lv_at hl 2 rfl) ?_
  have ce_1 : At G s.heap (ad 0) (eO 9 [.int (J (V 0 0)), .ref (ad 1), .ref (ad 2), .ref (ad 3), .ref (ad 4), .ref (ad 5), .ref (ad 6), .ref (ad 7), .ref (ad 8), .ref (ad 9), .int (J (V 0 1)), .ref (ad 10), .ref (ad 11), .ref (ad 12), .ref (ad 13), .ref (ad 14), .ref (ad 15), .ref (ad 16), .ref (ad 17), .int (J fo), .int (J am), .ref (ad 18)]) := hM.1
  refine k_V (ci := 9) (b := ad 0) (As := [.int (J d)]) (rest := []) (v := .int (J (stO V d))) hx hb hml hown hts hK hl.1 (c_X9_listOn l G ad V fo am ys d hV (by omega)) (cwV 1 hts gX9_worthOn_X9_listOn rfl rfl rfl (by decide +kernel) ⟨Nat.le_of_ble_eq_true rfl, Nat.le_of_ble_eq_true rfl⟩) ce_1 rfl hM rfl rfl (Nat.le_of_ble_eq_true rfl) dX9_worthOn_2 ⟨Nat.zero_le _, Nat.zero_le _⟩ ?_
  refine lv_istore_n (lv' := [(3, .int (J (stO V d))), (0, .ref (ad 0)), (1, .int (J h)), (2, .int (J d))]) hx hb dX9_worthOn_5 rfl hl (by decide) rfl (fun ls hl => ?_)
  refine lv_iload_n hx hb dX9_worthOn_6 rfl (lv_at hl 0 rfl) ?_
  refine j_ge0 (tgt := 12) hx hb (by omega) (by omega) dX9_worthOn_7 (by decide) (fun c7 => ?_) (fun c7 => ?_)
  · have hur := hV.u (i := stO V d) (u := 6 * V 2 h + V 3 h) (by omega) (by omega) (by omega) (by omega)
    rw [← Int.add_assoc] at hur
    refine j_bi hx hb dX9_worthOn_12 (by decide +kernel) ?_
    refine lv_iload_n hx hb dX9_worthOn_14 rfl (lv_at hl 0 rfl) ?_
    refine j_mul hx hb dX9_worthOn_15 ?_
    refine j_bi hx hb dX9_worthOn_16 (by decide +kernel) ?_
    refine lv_aload_n hx hb dX9_worthOn_18 rfl (lv_at hl 1 rfl) ?_
    refine j_get (ci := 9) (v := .ref (ad 2)) hx hb hts inX9_ hown hK ce_1 rfl 2 (by decide) lk0 (fun _ h9 => h9) rfl dX9_worthOn_19 ?_
    refine lv_iload_n hx hb dX9_worthOn_22 rfl (lv_at hl 2 rfl) ?_
    have ce_2 : At G s.heap (ad 2) (eI G 40 (V 2)) := (hM.2.1 2 (by decide) (by decide))
    refine j_iald hx hb hK ce_2 (by omega) (by omega) (by decide) dX9_worthOn_23 ?_
    have hr_3 := hV.h (i := h) (by omega) (by omega)
    refine j_mul hx hb dX9_worthOn_24 ?_
    refine j_add hx hb dX9_worthOn_25 ?_
    refine lv_aload_n hx hb dX9_worthOn_26 rfl (lv_at hl 1 rfl) ?_
    refine j_get (ci := 9) (v := .ref (ad 3)) hx hb hts inX9_ hown hK ce_1 rfl 3 (by decide) lk1 (fun _ h9 => h9) rfl dX9_worthOn_27 ?_
    refine lv_iload_n hx hb dX9_worthOn_30 rfl (lv_at hl 2 rfl) ?_
    have ce_4 : At G s.heap (ad 3) (eI G 40 (V 3)) := (hM.2.1 3 (by decide) (by decide))
    refine j_iald hx hb hK ce_4 (by omega) (by omega) (by decide) dX9_worthOn_31 ?_
    refine j_add hx hb dX9_worthOn_32 ?_
    refine lv_istore (lv' := [(4, .int (J (((18 * (stO V d)) + (6 * ((V 2) h))) + ((V 3) h)))), (3, .int (J (stO V d))), (0, .ref (ad 0)), (1, .int (J h)), (2, .int (J d))]) hx hb dX9_worthOn_33 hl (by decide) rfl (fun ls hl => ?_)
    refine lv_aload_n hx hb dX9_worthOn_35 rfl (lv_at hl 2 rfl) ?_
    refine lv_iload_n hx hb dX9_worthOn_36 rfl (lv_at hl 3 rfl) ?_
    refine lv_iload_n hx hb dX9_worthOn_37 rfl (lv_at hl 4 rfl) ?_
    refine k_V (ci := 9) (b := ad 0) (As := [.int (J h), .int (J d)]) (rest := []) (v := .int (J (mSz V h d))) hx hb hml hown hts hK hl.1 (c_X9_sizeOn l G ad V fo am ys h d hV (by omega) (by omega)) (cwV 2 hts gX9_worthOn_X9_sizeOn rfl rfl rfl (by decide +kernel) ⟨Nat.le_of_ble_eq_true rfl, Nat.le_of_ble_eq_true rfl⟩) ce_1 rfl hM rfl rfl (Nat.le_of_ble_eq_true rfl) dX9_worthOn_38 ⟨Nat.zero_le _, Nat.zero_le _⟩ ?_
    refine j_i2l hx hb (by omega) (by omega) dX9_worthOn_41 ?_
    refine lv_aload_n hx hb dX9_worthOn_42 rfl (lv_at hl 2 rfl) ?_
    refine j_get (ci := 9) (v := .ref (ad 11)) hx hb hts inX9_ hown hK ce_1 rfl 12 (by decide) lk2 (fun _ h9 => h9) rfl dX9_worthOn_43 ?_
    refine lv_iload hx hb dX9_worthOn_46 (lv_at hl 0 rfl) ?_
    have ce_5 : At G s.heap (ad 11) (eI G 180 (V 11)) := (hM.2.1 11 (by decide) (by decide))
    refine j_iald hx hb hK ce_5 (by omega) (by omega) (by decide) dX9_worthOn_48 ?_
    refine j_i2l hx hb (by omega) (by omega) dX9_worthOn_49 ?_
    refine j_lmul hx hb dX9_worthOn_50 ?_
    refine lv_aload_n hx hb dX9_worthOn_51 rfl (lv_at hl 2 rfl) ?_
    refine j_get (ci := 9) (v := .ref (ad 12)) hx hb hts inX9_ hown hK ce_1 rfl 13 (by decide) lk3 (fun _ h9 => h9) rfl dX9_worthOn_52 ?_
    refine lv_iload hx hb dX9_worthOn_55 (lv_at hl 0 rfl) ?_
    have ce_6 : At G s.heap (ad 12) (eI G 180 (V 12)) := (hM.2.1 12 (by decide) (by decide))
    refine j_iald hx hb hK ce_6 (by omega) (by omega) (by decide) dX9_worthOn_57 ?_
    refine j_i2l hx hb (by omega) (by omega) dX9_worthOn_58 ?_
    have hmr := mulb (a := mSz V h d) (b := V 11 (18 * stO V d + 6 * V 2 h + V 3 h)) (A := 500) (B := 100000) (by omega) (by omega) (by omega) (by omega)
    have hdr := div_rng (b := V 12 (18 * stO V d + 6 * V 2 h + V 3 h)) hmr.1 hmr.2 (by omega)
    refine j_ldiv hx hb (by omega) (by omega) (by omega) (by omega) dX9_worthOn_59 ?_
    refine lv_lstore (lv' := [(5, .long (JL (((mSz V h d) * ((V 11) (((18 * (stO V d)) + (6 * ((V 2) h))) + ((V 3) h)))) / ((V 12) (((18 * (stO V d)) + (6 * ((V 2) h))) + ((V 3) h)))))), (4, .int (J (((18 * (stO V d)) + (6 * ((V 2) h))) + ((V 3) h)))), (3, .int (J (stO V d))), (0, .ref (ad 0)), (1, .int (J h)), (2, .int (J d))]) hx hb dX9_worthOn_60 hl (by decide) rfl (fun ls hl => ?_)
    refine lv_aload_n hx hb dX9_worthOn_62 rfl (lv_at hl 3 rfl) ?_
    refine j_get (ci := 9) (v := .ref (ad 10)) hx hb hts inX9_ hown hK ce_1 rfl 11 (by decide) lk4 (fun _ h9 => h9) rfl dX9_worthOn_63 ?_
    refine lv_iload_n hx hb dX9_worthOn_66 rfl (lv_at hl 2 rfl) ?_
    have ce_7 : At G s.heap (ad 10) (eI G 10 (V 10)) := (hM.2.1 10 (by decide) (by decide))
    refine j_iald hx hb hK ce_7 (by omega) (by omega) (by decide) dX9_worthOn_67 ?_
    have hr_8 := hV.d (i := stO V d) (by omega) (by omega)
    refine lv_istore (lv' := [(7, .int (J ((V 10) (stO V d)))), (5, .long (JL (((mSz V h d) * ((V 11) (((18 * (stO V d)) + (6 * ((V 2) h))) + ((V 3) h)))) / ((V 12) (((18 * (stO V d)) + (6 * ((V 2) h))) + ((V 3) h)))))), (4, .int (J (((18 * (stO V d)) + (6 * ((V 2) h))) + ((V 3) h)))), (3, .int (J (stO V d))), (0, .ref (ad 0)), (1, .int (J h)), (2, .int (J d))]) hx hb dX9_worthOn_68 hl (by decide) rfl (fun ls hl => ?_)
    have lp70 : ∀ (n : Nat) (dd : Int) (wv : Int) (d0 : V 10 (stO V d) ≤ dd ∧ dd ≤ d + 2) (w0 : 0 ≤ wv ∧ wv ≤ 50000000) (hw : wv = wUp V h (V 10 (stO V d)) (mSz V h d * V 11 (18 * stO V d + 6 * V 2 h + V 3 h) / V 12 (18 * stO V d + 6 * V 2 h + V 3 h)) (if dd ≤ d + 1 then dd else d + 1)) (hm : d + 3 - dd < (n : Int)) (ls : Array Slot) (hl : lv_has ls 9 [(7, .int (J dd)), (5, .long (JL wv)), (4, .int (J (((18 * (stO V d)) + (6 * ((V 2) h))) + ((V 3) h)))), (3, .int (J (stO V d))), (0, .ref (ad 0)), (1, .int (J h)), (2, .int (J d))]), W p l e (headSpec wsX9_worthOn rmX9_worthOn).room s m ([.ref (ad 0), .int (J h), .int (J d)] : List Value).toArray below meth c s.heap [] 0 0 (MQ below (k2_QcV (.int (J (mWo V h d)) : Value)) ([.ref (ad 0), .int (J h), .int (J d)] : List Value).toArray s 0 0 (fun _ => False)) (F0 m 70 ls []) := by
      intro n
      induction n with
      | zero =>
        intro dd wv d0 w0 hw hm ls hl
        exact absurd hm (by omega)
      | succ n ih70 =>
        intro dd wv d0 w0 hw hm ls hl
        refine lv_iload hx hb dX9_worthOn_70 (lv_at hl 0 rfl) ?_
        refine lv_iload_n hx hb dX9_worthOn_72 rfl (lv_at hl 6 rfl) ?_
        refine j_cgt (tgt := 175) hx hb (by omega) (by omega) (by omega) (by omega) dX9_worthOn_73 (by decide) (fun c73 => ?_) (fun c73 => ?_)
        · refine lv_lload hx hb dX9_worthOn_175 (lv_at hl 1 rfl) ?_
          refine j_l2i hx hb dX9_worthOn_177 ?_
          exact r_i hx hb hr hlk (congrArg (fun z => Value.int (J z)) (show (wv : Int) = mWo V h d from by unfold mWo; rw [if_neg (by omega), hw, show (if dd ≤ d + 1 then dd else d + 1) = d + 1 from by split <;> omega])) dX9_worthOn_178
        · refine lv_aload_n hx hb dX9_worthOn_76 rfl (lv_at hl 4 rfl) ?_
          refine lv_iload_n hx hb dX9_worthOn_77 rfl (lv_at hl 5 rfl) ?_
          refine lv_iload hx hb dX9_worthOn_78 (lv_at hl 0 rfl) ?_
          refine lv_iload_n hx hb dX9_worthOn_80 rfl (lv_at hl 6 rfl) ?_
          refine k_V (ci := 9) (b := ad 0) (As := [.int (J h), .int (J dd), .int (J d)]) (rest := []) (v := .int (J (mNc V h dd d))) hx hb hml hown hts hK hl.1 (c_X9_nextCut l G ad V fo am ys h dd d hV (by omega) (by omega) (by omega)) (cwV 3 hts gX9_worthOn_X9_nextCut rfl rfl rfl (by decide +kernel) ⟨Nat.le_of_ble_eq_true rfl, Nat.le_of_ble_eq_true rfl⟩) ce_1 rfl hM rfl rfl (Nat.le_of_ble_eq_true rfl) dX9_worthOn_81 ⟨Nat.zero_le _, Nat.zero_le _⟩ ?_
          have hnr : dd ≤ mNc V h dd d ∧ mNc V h dd d ≤ d + 1 := nc_rng hV (f := dd) (t := d) h_h.1 h_h.2 (by omega) hih.2.2.2.2.2.1 (Int.le_refl _)
          refine lv_istore (lv' := [(7, .int (J (mNc V h dd d))), (5, .long (JL wv)), (4, .int (J (((18 * (stO V d)) + (6 * ((V 2) h))) + ((V 3) h)))), (3, .int (J (stO V d))), (0, .ref (ad 0)), (1, .int (J h)), (2, .int (J d))]) hx hb dX9_worthOn_84 hl (by decide) rfl (fun ls hl => ?_)
          refine j_bi hx hb dX9_worthOn_86 (by decide +kernel) ?_
          refine lv_iload_n hx hb dX9_worthOn_88 rfl (lv_at hl 5 rfl) ?_
          refine j_mul hx hb dX9_worthOn_89 ?_
          refine lv_istore (lv' := [(8, .int (J (12 * h))), (7, .int (J (mNc V h dd d))), (5, .long (JL wv)), (4, .int (J (((18 * (stO V d)) + (6 * ((V 2) h))) + ((V 3) h)))), (3, .int (J (stO V d))), (0, .ref (ad 0)), (1, .int (J h)), (2, .int (J d))]) hx hb dX9_worthOn_90 hl (by decide) rfl (fun ls hl => ?_)
          have lp92 : ∀ (n : Nat) (j : Int) (j0 : 0 ≤ j ∧ j ≤ V 6 h) (hm : V 6 h - j < (n : Int)) (ls : Array Slot) (hl : lv_has ls 9 [(8, .int (J (12 * h + j))), (7, .int (J (mNc V h dd d))), (5, .long (JL (lo (inH V h (mNc V h dd d) d) wv j))), (4, .int (J (((18 * (stO V d)) + (6 * ((V 2) h))) + ((V 3) h)))), (3, .int (J (stO V d))), (0, .ref (ad 0)), (1, .int (J h)), (2, .int (J d))]), W p l e (headSpec wsX9_worthOn rmX9_worthOn).room s m ([.ref (ad 0), .int (J h), .int (J d)] : List Value).toArray below meth c s.heap [] 0 0 (MQ below (k2_QcV (.int (J (mWo V h d)) : Value)) ([.ref (ad 0), .int (J h), .int (J d)] : List Value).toArray s 0 0 (fun _ => False)) (F0 m 92 ls []) := by
            intro n
            induction n with
            | zero =>
              intro j j0 hm ls hl
              exact absurd hm (by omega)
            | succ n ih92 =>
              intro j j0 hm ls hl
              have hir := inH_rng hV (dd := mNc V h dd d) (t := d) h_h.1 h_h.2 w0 j0.1 j0.2
              refine lv_iload hx hb dX9_worthOn_92 (lv_at hl 0 rfl) ?_
              refine j_bi hx hb dX9_worthOn_94 (by decide +kernel) ?_
              refine lv_iload_n hx hb dX9_worthOn_96 rfl (lv_at hl 6 rfl) ?_
              refine j_mul hx hb dX9_worthOn_97 ?_
              refine lv_aload_n hx hb dX9_worthOn_98 rfl (lv_at hl 5 rfl) ?_
              refine j_get (ci := 9) (v := .ref (ad 6)) hx hb hts inX9_ hown hK ce_1 rfl 6 (by decide) lk5 (fun _ h9 => h9) rfl dX9_worthOn_99 ?_
              refine lv_iload_n hx hb dX9_worthOn_102 rfl (lv_at hl 6 rfl) ?_
              have ce_9 : At G s.heap (ad 6) (eI G 40 (V 6)) := (hM.2.1 6 (by decide) (by decide))
              refine j_iald hx hb hK ce_9 (by omega) (by omega) (by decide) dX9_worthOn_103 ?_
              refine j_add hx hb dX9_worthOn_104 ?_
              refine j_cge (tgt := 169) hx hb (by omega) (by omega) (by omega) (by omega) dX9_worthOn_105 (by decide) (fun c105 => ?_) (fun c105 => ?_)
              · refine lv_iinc (v := J ((mNc V h dd d) + 1)) (lv' := [(7, .int (J ((mNc V h dd d) + 1))), (8, .int (J (12 * h + j))), (5, .long (JL (lo (inH V h (mNc V h dd d) d) wv j))), (4, .int (J (((18 * (stO V d)) + (6 * ((V 2) h))) + ((V 3) h)))), (3, .int (J (stO V d))), (0, .ref (ad 0)), (1, .int (J h)), (2, .int (J d))]) hx hb dX9_worthOn_169 hl (k := 1) rfl (J_add _ _) (by decide) rfl (fun ls hl => ?_)
                refine lv_goto (tgt := 70) hx hb dX9_worthOn_172 (by decide) ?_
                exact ih70 (mNc V h dd d + 1) (lo (inH V h (mNc V h dd d) d) wv (V 6 h)) (by omega) (inH_rng hV h_h.1 h_h.2 w0 hih.2.2.2.2.2.1 (Int.le_refl _)) (wstep hV h_h.1 h_h.2 d0.1 (by omega) hw) (by omega) _ (lv_sub hl [0, 2, 3, 4, 5, 6, 7] (by rw [show ((mNc V h dd d + 1) : Int) = (mNc V h dd d) + 1 from (by omega)]; rw [show ((lo (inH V h (mNc V h dd d) d) wv (V 6 h)) : Int) = lo (inH V h (mNc V h dd d) d) wv j from (by rw [show j = V 6 h by omega])]; try rfl))
              · refine lv_aload_n hx hb dX9_worthOn_108 rfl (lv_at hl 5 rfl) ?_
                refine j_get (ci := 9) (v := .ref (ad 8)) hx hb hts inX9_ hown hK ce_1 rfl 8 (by decide) lk6 (fun _ h9 => h9) rfl dX9_worthOn_109 ?_
                refine lv_iload hx hb dX9_worthOn_112 (lv_at hl 0 rfl) ?_
                have ce_10 : At G s.heap (ad 8) (eI G 480 (V 8)) := (hM.2.1 8 (by decide) (by decide))
                refine j_iald hx hb hK ce_10 (by omega) (by omega) (by decide) dX9_worthOn_114 ?_
                have hr_11 := hV.e2 (h := h) (x := 12 * h + j) (by omega) (by omega) (by omega) (by omega)
                refine j_const hx hb dX9_worthOn_115 ?_
                refine j_cne (tgt := 159) hx hb (by omega) (by omega) (by decide) (by decide) dX9_worthOn_116 (by decide) (fun c116 => ?_) (fun c116 => ?_)
                · refine lv_lload hx hb dX9_worthOn_159 (lv_at hl 2 rfl) ?_
                  refine lv_lstore (lv' := [(5, .long (JL (lo (inH V h (mNc V h dd d) d) wv j))), (8, .int (J (12 * h + j))), (7, .int (J (mNc V h dd d))), (4, .int (J (((18 * (stO V d)) + (6 * ((V 2) h))) + ((V 3) h)))), (3, .int (J (stO V d))), (0, .ref (ad 0)), (1, .int (J h)), (2, .int (J d))]) hx hb dX9_worthOn_161 hl (by decide) rfl (fun ls hl => ?_)
                  refine lv_iinc (v := J ((12 * h + j) + 1)) (lv' := [(8, .int (J ((12 * h + j) + 1))), (5, .long (JL (lo (inH V h (mNc V h dd d) d) wv j))), (7, .int (J (mNc V h dd d))), (4, .int (J (((18 * (stO V d)) + (6 * ((V 2) h))) + ((V 3) h)))), (3, .int (J (stO V d))), (0, .ref (ad 0)), (1, .int (J h)), (2, .int (J d))]) hx hb dX9_worthOn_163 hl (k := 1) rfl (J_add _ _) (by decide) rfl (fun ls hl => ?_)
                  refine lv_goto (tgt := 92) hx hb dX9_worthOn_166 (by decide) ?_
                  exact ih92 (j + 1) (by omega) (by omega) _ (lv_sub hl [0, 2, 1, 3, 4, 5, 6, 7] (by rw [show (12 * h + (j + 1) : Int) = (12 * h + j) + 1 from (by omega)]; rw [show (lo (inH V h (mNc V h dd d) d) wv (j + 1) : Int) = lo (inH V h (mNc V h dd d) d) wv j from (by rw [lo_s _ _ (by omega)]; (try simp only [inH]) <;> (repeat' split) <;> first | rfl | omega | (exfalso; omega) | (exfalso; contradiction) | (exfalso; simp_all))]; try rfl))
                · refine lv_aload_n hx hb dX9_worthOn_119 rfl (lv_at hl 5 rfl) ?_
                  refine j_get (ci := 9) (v := .ref (ad 7)) hx hb hts inX9_ hown hK ce_1 rfl 7 (by decide) lk7 (fun _ h9 => h9) rfl dX9_worthOn_120 ?_
                  refine lv_iload hx hb dX9_worthOn_123 (lv_at hl 0 rfl) ?_
                  have ce_12 : At G s.heap (ad 7) (eI G 480 (V 7)) := (hM.2.1 7 (by decide) (by decide))
                  refine j_iald hx hb hK ce_12 (by omega) (by omega) (by decide) dX9_worthOn_125 ?_
                  refine lv_iload hx hb dX9_worthOn_126 (lv_at hl 1 rfl) ?_
                  refine j_cne (tgt := 159) hx hb (by omega) (by omega) (by omega) (by omega) dX9_worthOn_128 (by decide) (fun c128 => ?_) (fun c128 => ?_)
                  · refine lv_lload hx hb dX9_worthOn_159 (lv_at hl 2 rfl) ?_
                    refine lv_lstore (lv' := [(5, .long (JL (lo (inH V h (mNc V h dd d) d) wv j))), (8, .int (J (12 * h + j))), (7, .int (J (mNc V h dd d))), (4, .int (J (((18 * (stO V d)) + (6 * ((V 2) h))) + ((V 3) h)))), (3, .int (J (stO V d))), (0, .ref (ad 0)), (1, .int (J h)), (2, .int (J d))]) hx hb dX9_worthOn_161 hl (by decide) rfl (fun ls hl => ?_)
                    refine lv_iinc (v := J ((12 * h + j) + 1)) (lv' := [(8, .int (J ((12 * h + j) + 1))), (5, .long (JL (lo (inH V h (mNc V h dd d) d) wv j))), (7, .int (J (mNc V h dd d))), (4, .int (J (((18 * (stO V d)) + (6 * ((V 2) h))) + ((V 3) h)))), (3, .int (J (stO V d))), (0, .ref (ad 0)), (1, .int (J h)), (2, .int (J d))]) hx hb dX9_worthOn_163 hl (k := 1) rfl (J_add _ _) (by decide) rfl (fun ls hl => ?_)
                    refine lv_goto (tgt := 92) hx hb dX9_worthOn_166 (by decide) ?_
                    exact ih92 (j + 1) (by omega) (by omega) _ (lv_sub hl [0, 2, 1, 3, 4, 5, 6, 7] (by rw [show (12 * h + (j + 1) : Int) = (12 * h + j) + 1 from (by omega)]; rw [show (lo (inH V h (mNc V h dd d) d) wv (j + 1) : Int) = lo (inH V h (mNc V h dd d) d) wv j from (by rw [lo_s _ _ (by omega)]; (try simp only [inH]) <;> (repeat' split) <;> first | rfl | omega | (exfalso; omega) | (exfalso; contradiction) | (exfalso; simp_all))]; try rfl))
                  · refine lv_iload hx hb dX9_worthOn_131 (lv_at hl 1 rfl) ?_
                    refine lv_iload_n hx hb dX9_worthOn_133 rfl (lv_at hl 7 rfl) ?_
                    refine j_cgt (tgt := 159) hx hb (by omega) (by omega) (by omega) (by omega) dX9_worthOn_134 (by decide) (fun c134 => ?_) (fun c134 => ?_)
                    · refine lv_lload hx hb dX9_worthOn_159 (lv_at hl 2 rfl) ?_
                      refine lv_lstore (lv' := [(5, .long (JL (lo (inH V h (mNc V h dd d) d) wv j))), (8, .int (J (12 * h + j))), (7, .int (J (mNc V h dd d))), (4, .int (J (((18 * (stO V d)) + (6 * ((V 2) h))) + ((V 3) h)))), (3, .int (J (stO V d))), (0, .ref (ad 0)), (1, .int (J h)), (2, .int (J d))]) hx hb dX9_worthOn_161 hl (by decide) rfl (fun ls hl => ?_)
                      refine lv_iinc (v := J ((12 * h + j) + 1)) (lv' := [(8, .int (J ((12 * h + j) + 1))), (5, .long (JL (lo (inH V h (mNc V h dd d) d) wv j))), (7, .int (J (mNc V h dd d))), (4, .int (J (((18 * (stO V d)) + (6 * ((V 2) h))) + ((V 3) h)))), (3, .int (J (stO V d))), (0, .ref (ad 0)), (1, .int (J h)), (2, .int (J d))]) hx hb dX9_worthOn_163 hl (k := 1) rfl (J_add _ _) (by decide) rfl (fun ls hl => ?_)
                      refine lv_goto (tgt := 92) hx hb dX9_worthOn_166 (by decide) ?_
                      exact ih92 (j + 1) (by omega) (by omega) _ (lv_sub hl [0, 2, 1, 3, 4, 5, 6, 7] (by rw [show (12 * h + (j + 1) : Int) = (12 * h + j) + 1 from (by omega)]; rw [show (lo (inH V h (mNc V h dd d) d) wv (j + 1) : Int) = lo (inH V h (mNc V h dd d) d) wv j from (by rw [lo_s _ _ (by omega)]; (try simp only [inH]) <;> (repeat' split) <;> first | rfl | omega | (exfalso; omega) | (exfalso; contradiction) | (exfalso; simp_all))]; try rfl))
                    · have hmm := mulb (a := lo (inH V h (mNc V h dd d) d) wv j) (b := 1000 - V 9 (12 * h + j)) (A := 50000000) (B := 1000) hir.1 hir.2 (by have := hV.e2 (h := h) (x := 12 * h + j) (by omega) (by omega) (by omega) (by omega); omega) (by have := hV.e2 (h := h) (x := 12 * h + j) (by omega) (by omega) (by omega) (by omega); omega)
                      refine lv_lload hx hb dX9_worthOn_137 (lv_at hl 2 rfl) ?_
                      refine j_si hx hb dX9_worthOn_139 (by decide +kernel) ?_
                      refine lv_aload_n hx hb dX9_worthOn_142 rfl (lv_at hl 5 rfl) ?_
                      refine j_get (ci := 9) (v := .ref (ad 9)) hx hb hts inX9_ hown hK ce_1 rfl 9 (by decide) lk8 (fun _ h9 => h9) rfl dX9_worthOn_143 ?_
                      refine lv_iload hx hb dX9_worthOn_146 (lv_at hl 0 rfl) ?_
                      have ce_13 : At G s.heap (ad 9) (eI G 480 (V 9)) := (hM.2.1 9 (by decide) (by decide))
                      refine j_iald hx hb hK ce_13 (by omega) (by omega) (by decide) dX9_worthOn_148 ?_
                      refine j_sub hx hb dX9_worthOn_149 ?_
                      refine j_i2l hx hb (by omega) (by omega) dX9_worthOn_150 ?_
                      refine j_lmul hx hb dX9_worthOn_151 ?_
                      refine j_ldc2 hx hb hown lk9 (z := 1000) rfl dX9_worthOn_152 ?_
                      refine j_ldiv hx hb (by omega) (by omega) (by decide) (by decide) dX9_worthOn_155 ?_
                      refine lv_goto (tgt := 161) hx hb dX9_worthOn_156 (by decide) ?_
                      refine lv_lstore (lv' := [(5, .long (JL (((lo (inH V h (mNc V h dd d) d) wv j) * (1000 - ((V 9) (12 * h + j)))) / 1000))), (8, .int (J (12 * h + j))), (7, .int (J (mNc V h dd d))), (4, .int (J (((18 * (stO V d)) + (6 * ((V 2) h))) + ((V 3) h)))), (3, .int (J (stO V d))), (0, .ref (ad 0)), (1, .int (J h)), (2, .int (J d))]) hx hb dX9_worthOn_161 hl (by decide) rfl (fun ls hl => ?_)
                      refine lv_iinc (v := J ((12 * h + j) + 1)) (lv' := [(8, .int (J ((12 * h + j) + 1))), (5, .long (JL (((lo (inH V h (mNc V h dd d) d) wv j) * (1000 - ((V 9) (12 * h + j)))) / 1000))), (7, .int (J (mNc V h dd d))), (4, .int (J (((18 * (stO V d)) + (6 * ((V 2) h))) + ((V 3) h)))), (3, .int (J (stO V d))), (0, .ref (ad 0)), (1, .int (J h)), (2, .int (J d))]) hx hb dX9_worthOn_163 hl (k := 1) rfl (J_add _ _) (by decide) rfl (fun ls hl => ?_)
                      refine lv_goto (tgt := 92) hx hb dX9_worthOn_166 (by decide) ?_
                      exact ih92 (j + 1) (by omega) (by omega) _ (lv_sub hl [0, 2, 1, 3, 4, 5, 6, 7] (by rw [show (12 * h + (j + 1) : Int) = (12 * h + j) + 1 from (by omega)]; rw [show (lo (inH V h (mNc V h dd d) d) wv (j + 1) : Int) = ((lo (inH V h (mNc V h dd d) d) wv j) * (1000 - ((V 9) (12 * h + j)))) / 1000 from (by rw [lo_s _ _ (by omega)]; (try simp only [inH]) <;> (repeat' split) <;> first | rfl | omega | (exfalso; omega) | (exfalso; contradiction) | (exfalso; simp_all))]; try rfl))
          exact lp92 13 0 (by have := hV.h h_h.1 h_h.2; omega) (by have := hV.h h_h.1 h_h.2; omega) _ (lv_sub hl [0, 1, 2, 3, 4, 5, 6, 7] (by rw [show (12 * h + 0 : Int) = 12 * h from (by omega)]; rw [show (lo (inH V h (mNc V h dd d) d) wv 0 : Int) = wv from (by rfl)]; try rfl))
    exact lp70 3653 (V 10 (stO V d)) (mSz V h d * V 11 (18 * stO V d + 6 * V 2 h + V 3 h) / V 12 (18 * stO V d + 6 * V 2 h + V 3 h)) (by omega) (⟨hdr.1, by omega⟩) (by rw [if_pos (by omega)]; exact (wUp_0 _ _ _ _).symm) (by omega) _ (lv_sub hl [0, 1, 2, 3, 4, 5, 6] (by rw [show ((V 10 (stO V d)) : Int) = (V 10) (stO V d) from (by omega)]; rw [show ((mSz V h d * V 11 (18 * stO V d + 6 * V 2 h + V 3 h) / V 12 (18 * stO V d + 6 * V 2 h + V 3 h)) : Int) = ((mSz V h d) * ((V 11) (((18 * (stO V d)) + (6 * ((V 2) h))) + ((V 3) h)))) / ((V 12) (((18 * (stO V d)) + (6 * ((V 2) h))) + ((V 3) h))) from (by rfl)]; try rfl))
  · refine j_const hx hb dX9_worthOn_10 ?_
    exact r_i hx hb hr hlk (congrArg (fun z => Value.int (J z)) (show (0 : Int) = mWo V h d from by unfold mWo; rw [if_pos (by omega)])) dX9_worthOn_11

abbrev rmX9_countsOn : Room := { frames := 3, cells := 0, slots := 0, locals := 77 }
set_option maxHeartbeats 4000000 in
set_option maxRecDepth 100000 in
theorem c_X9_countsOn (l : Launch) (G : GG) (ad : Nat → Nat) (V : St) (fo am : Int) (ys : Int → Int) (h d : Int) (hV : Iv V) (h_h : 0 ≤ h ∧ h < V 0 0) (h_d : 0 ≤ d ∧ d ≤ 3649) : MP l G yX9_countsOn wsX9_countsOn rmX9_countsOn [.ref (ad 0), .int (J h), .int (J d)] (fun H => MW G H ad V fo am ys) (.int (J (mCt V h d)) : Value) := by
  refine MP.of (cc := cX9_countsOn) (maxL := 4) (ret := (some .int)) (by decide) rfl (Nat.le_of_ble_eq_true rfl) ?_
  intro p e s m below meth c hx hb hr hml hown hts hlk hK hP ls hl
  have hown : s.vm.findClass RX9 = some m.cls := hown
  have hl : lv_has ls 4 [(0, .ref (ad 0)), (1, .int (J h)), (2, .int (J d))] := hl
  have inX9_ : ∀ w ∈ u_ws RX9 TX9 22, w ∈ wsX9_countsOn := by decide +kernel
  have lk0 := hts (.fieldLink RX9 28 "RateBookModel" "eventDay" "[I") (by decide +kernel)
  have hM : MW G s.heap ad V fo am ys := hP
  have hn := hV.n
  have hnl := hV.l
  have hih := hV.h h_h.1 h_h.2
  have hwr := mWo_rng (d := d) hV h_h.1 h_h.2
  have hur := mUs_rng hV d h_h.1 h_h.2
  have hcr := mCo_rng hV d 1 h_h.1 h_h.2
  refine lv_aload_n hx hb dX9_countsOn_0 rfl (lv_at hl 0 rfl) ?_
  refine lv_iload_n hx hb dX9_countsOn_1 rfl (lv_at hl 1 rfl) ?_
  refine lv_iload_n hx hb dX9_countsOn_2 rfl (lv_at hl 2 rfl) ?_
  have ce_1 : At G s.heap (ad 0) (eO 9 [.int (J (V 0 0)), .ref (ad 1), .ref (ad 2), .ref (ad 3), .ref (ad 4), .ref (ad 5), .ref (ad 6), .ref (ad 7), .ref (ad 8), .ref (ad 9), .int (J (V 0 1)), .ref (ad 10), .ref (ad 11), .ref (ad 12), .ref (ad 13), .ref (ad 14), .ref (ad 15), .ref (ad 16), .ref (ad 17), .int (J fo), .int (J am), .ref (ad 18)]) := hM.1
  refine k_V (ci := 9) (b := ad 0) (As := [.int (J h), .int (J d)]) (rest := []) (v := .int (J (mWo V h d))) hx hb hml hown hts hK hl.1 (c_X9_worthOn l G ad V fo am ys h d hV (by omega) (by omega)) (cwV 2 hts gX9_countsOn_X9_worthOn rfl rfl rfl (by decide +kernel) ⟨Nat.le_of_ble_eq_true rfl, Nat.le_of_ble_eq_true rfl⟩) ce_1 rfl hM rfl rfl (Nat.le_of_ble_eq_true rfl) dX9_countsOn_3 ⟨Nat.zero_le _, Nat.zero_le _⟩ ?_
  refine lv_istore_n (lv' := [(3, .int (J (mWo V h d))), (0, .ref (ad 0)), (1, .int (J h)), (2, .int (J d))]) hx hb dX9_countsOn_6 rfl hl (by decide) rfl (fun ls hl => ?_)
  refine lv_aload_n hx hb dX9_countsOn_7 rfl (lv_at hl 1 rfl) ?_
  refine lv_iload_n hx hb dX9_countsOn_8 rfl (lv_at hl 2 rfl) ?_
  refine lv_iload_n hx hb dX9_countsOn_9 rfl (lv_at hl 3 rfl) ?_
  refine k_V (ci := 9) (b := ad 0) (As := [.int (J h), .int (J d)]) (rest := []) (v := .int (J (mUs V h d))) hx hb hml hown hts hK hl.1 (c_X9_useOn l G ad V fo am ys h d hV (by omega) (by omega)) (cwV 2 hts gX9_countsOn_X9_useOn rfl rfl rfl (by decide +kernel) ⟨Nat.le_of_ble_eq_true rfl, Nat.le_of_ble_eq_true rfl⟩) ce_1 rfl hM rfl rfl (Nat.le_of_ble_eq_true rfl) dX9_countsOn_10 ⟨Nat.zero_le _, Nat.zero_le _⟩ ?_
  rcases (show (mUs V h d) = 0 ∨ (mUs V h d) = 1 ∨ (mUs V h d) = 2 ∨ ((mUs V h d) < 0 ∨ 2 < (mUs V h d)) by omega) with c13 | c13 | c13 | c13
  · refine j_tabIn (tgt := 40) hx hb 0 c13 (by decide) (by decide) dX9_countsOn_13 (by decide) (by decide) rfl (by decide) ?_
    refine lv_iload_n hx hb dX9_countsOn_40 rfl (lv_at hl 0 rfl) ?_
    exact r_i hx hb hr hlk (congrArg (fun z => Value.int (J z)) (show (mWo V h d : Int) = mCt V h d from by unfold mCt; rw [if_pos c13])) dX9_countsOn_41
  · refine j_tabIn (tgt := 42) hx hb 1 c13 (by decide) (by decide) dX9_countsOn_13 (by decide) (by decide) rfl (by decide) ?_
    have hcp := mUs_pos (V := V) (h := h) (d := d) (by omega)
    refine lv_iload_n hx hb dX9_countsOn_42 rfl (lv_at hl 3 rfl) ?_
    refine lv_aload_n hx hb dX9_countsOn_43 rfl (lv_at hl 1 rfl) ?_
    refine j_get (ci := 9) (v := .ref (ad 7)) hx hb hts inX9_ hown hK ce_1 rfl 7 (by decide) lk0 (fun _ h9 => h9) rfl dX9_countsOn_44 ?_
    refine lv_aload_n hx hb dX9_countsOn_47 rfl (lv_at hl 1 rfl) ?_
    refine lv_iload_n hx hb dX9_countsOn_48 rfl (lv_at hl 2 rfl) ?_
    refine lv_iload_n hx hb dX9_countsOn_49 rfl (lv_at hl 3 rfl) ?_
    refine j_const hx hb dX9_countsOn_50 ?_
    refine k_V (ci := 9) (b := ad 0) (As := [.int (J h), .int (J d), .int (J 1)]) (rest := [.ref (ad 7), .int (J d)]) (v := .int (J (mCo V h d 1))) hx hb hml hown hts hK hl.1 (c_X9_counting l G ad V fo am ys h d 1 hV (by omega) (by omega) (by omega)) (cwV 3 hts gX9_countsOn_X9_counting rfl rfl rfl (by decide +kernel) ⟨Nat.le_of_ble_eq_true rfl, Nat.le_of_ble_eq_true rfl⟩) ce_1 rfl hM rfl rfl (Nat.le_of_ble_eq_true rfl) dX9_countsOn_51 ⟨Nat.zero_le _, Nat.zero_le _⟩ ?_
    have ce_2 : At G s.heap (ad 7) (eI G 480 (V 7)) := (hM.2.1 7 (by decide) (by decide))
    refine j_iald hx hb hK ce_2 (by omega) (by omega) (by decide) dX9_countsOn_54 ?_
    have hr_3 := hV.e2 (h := h) (x := mCo V h d 1) (by omega) (by omega) (by omega) (by omega)
    refine j_sub hx hb dX9_countsOn_55 ?_
    refine j_bi hx hb dX9_countsOn_56 (by decide +kernel) ?_
    refine j_cge (tgt := 65) hx hb (by omega) (by omega) (by decide) (by decide) dX9_countsOn_58 (by decide) (fun c58 => ?_) (fun c58 => ?_)
    · refine lv_iload_n hx hb dX9_countsOn_65 rfl (lv_at hl 0 rfl) ?_
      refine j_const hx hb dX9_countsOn_66 ?_
      refine j_div hx hb (by omega) (by omega) (by decide) (by decide) dX9_countsOn_67 ?_
      exact r_i hx hb hr hlk (congrArg (fun z => Value.int (J z)) (show ((mWo V h d) / 2 : Int) = mCt V h d from by unfold mCt; rw [if_neg (by omega), if_pos c13, if_neg (by omega)])) dX9_countsOn_68
    · refine j_const hx hb dX9_countsOn_61 ?_
      refine lv_goto (tgt := 68) hx hb dX9_countsOn_62 (by decide) ?_
      exact r_i hx hb hr hlk (congrArg (fun z => Value.int (J z)) (show (0 : Int) = mCt V h d from by unfold mCt; rw [if_neg (by omega), if_pos c13, if_pos (by omega)])) dX9_countsOn_68
  · refine j_tabIn (tgt := 69) hx hb 2 c13 (by decide) (by decide) dX9_countsOn_13 (by decide) (by decide) rfl (by decide) ?_
    refine lv_iload_n hx hb dX9_countsOn_69 rfl (lv_at hl 0 rfl) ?_
    refine j_const hx hb dX9_countsOn_70 ?_
    refine j_div hx hb (by omega) (by omega) (by decide) (by decide) dX9_countsOn_71 ?_
    exact r_i hx hb hr hlk (congrArg (fun z => Value.int (J z)) (show ((mWo V h d) / 2 : Int) = mCt V h d from by unfold mCt; rw [if_neg (by omega), if_neg (by omega), if_pos c13])) dX9_countsOn_72
  · refine j_tabOut (tgt := 73) hx hb (by omega) (by omega) dX9_countsOn_13 c13 (by decide) ?_
    refine lv_iload_n hx hb dX9_countsOn_73 rfl (lv_at hl 0 rfl) ?_
    refine j_const hx hb dX9_countsOn_74 ?_
    refine j_div hx hb (by omega) (by omega) (by decide) (by decide) dX9_countsOn_75 ?_
    exact r_i hx hb hr hlk (congrArg (fun z => Value.int (J z)) (show ((mWo V h d) / 5 : Int) = mCt V h d from by unfold mCt; rw [if_neg (by omega), if_neg (by omega), if_neg (by omega)])) dX9_countsOn_76

abbrev rmX9_yearOf : Room := { frames := 4, cells := 0, slots := 0, locals := 100 }
set_option maxHeartbeats 4000000 in
set_option maxRecDepth 100000 in
theorem c_X9_yearOf (l : Launch) (G : GG) (ad : Nat → Nat) (V : St) (fo am : Int) (ys : Int → Int) (h y : Int) (hV : Iv V) (h_h : 0 ≤ h ∧ h < V 0 0) (h_y : 0 ≤ y ∧ y < 10) : MP l G yX9_yearOf wsX9_yearOf rmX9_yearOf [.ref (ad 0), .int (J h), .int (J y)] (fun H => MW G H ad V fo am ys) (.long (JL (mYr V h y)) : Value) := by
  refine MP.of (cc := cX9_yearOf) (maxL := 6) (ret := (some .long)) (by decide) rfl (Nat.le_of_ble_eq_true rfl) ?_
  intro p e s m below meth c hx hb hr hml hown hts hlk hK hP ls hl
  have hown : s.vm.findClass RX9 = some m.cls := hown
  have hl : lv_has ls 6 [(0, .ref (ad 0)), (1, .int (J h)), (2, .int (J y))] := hl
  have hM : MW G s.heap ad V fo am ys := hP
  have hn := hV.n
  have hnl := hV.l
  refine j_lconst hx hb (z := 0) dX9_yearOf_0 rfl ?_
  refine lv_lstore_n (lv' := [(3, .long (JL 0)), (0, .ref (ad 0)), (1, .int (J h)), (2, .int (J y))]) hx hb dX9_yearOf_1 rfl hl (by decide) rfl (fun ls hl => ?_)
  refine j_si hx hb dX9_yearOf_2 (by decide +kernel) ?_
  refine lv_iload_n hx hb dX9_yearOf_5 rfl (lv_at hl 3 rfl) ?_
  refine j_mul hx hb dX9_yearOf_6 ?_
  refine lv_istore (lv' := [(5, .int (J (365 * y))), (3, .long (JL 0)), (0, .ref (ad 0)), (1, .int (J h)), (2, .int (J y))]) hx hb dX9_yearOf_7 hl (by decide) rfl (fun ls hl => ?_)
  have lp9 : ∀ (n : Nat) (t : Int) (t0 : 0 ≤ t ∧ t ≤ 365) (hm : 365 - t < (n : Int)) (ls : Array Slot) (hl : lv_has ls 6 [(5, .int (J (365 * y + t))), (3, .long (JL (lo (fun x j => x + rlv (mCt V h (365 * y + j))) 0 t))), (0, .ref (ad 0)), (1, .int (J h)), (2, .int (J y))]), W p l e (headSpec wsX9_yearOf rmX9_yearOf).room s m ([.ref (ad 0), .int (J h), .int (J y)] : List Value).toArray below meth c s.heap [] 0 0 (MQ below (k2_QcV (.long (JL (mYr V h y)) : Value)) ([.ref (ad 0), .int (J h), .int (J y)] : List Value).toArray s 0 0 (fun _ => False)) (F0 m 9 ls []) := by
    intro n
    induction n with
    | zero =>
      intro t t0 hm ls hl
      exact absurd hm (by omega)
    | succ n ih9 =>
      intro t t0 hm ls hl
      refine lv_iload hx hb dX9_yearOf_9 (lv_at hl 0 rfl) ?_
      refine j_si hx hb dX9_yearOf_11 (by decide +kernel) ?_
      refine lv_iload_n hx hb dX9_yearOf_14 rfl (lv_at hl 4 rfl) ?_
      refine j_mul hx hb dX9_yearOf_15 ?_
      refine j_si hx hb dX9_yearOf_16 (by decide +kernel) ?_
      refine j_add hx hb dX9_yearOf_19 ?_
      refine j_cge (tgt := 43) hx hb (by omega) (by omega) (by omega) (by omega) dX9_yearOf_20 (by decide) (fun c20 => ?_) (fun c20 => ?_)
      · refine lv_lload_n hx hb dX9_yearOf_43 rfl (lv_at hl 1 rfl) ?_
        exact r_l hx hb hr hlk (congrArg (fun z => Value.long (JL z)) (show (lo (fun x j => x + rlv (mCt V h (365 * y + j))) 0 t : Int) = mYr V h y from by rw [show t = 365 by omega]; rfl)) dX9_yearOf_44
      · refine lv_lload_n hx hb dX9_yearOf_23 rfl (lv_at hl 1 rfl) ?_
        refine lv_aload_n hx hb dX9_yearOf_24 rfl (lv_at hl 2 rfl) ?_
        refine lv_iload_n hx hb dX9_yearOf_25 rfl (lv_at hl 3 rfl) ?_
        refine lv_iload hx hb dX9_yearOf_26 (lv_at hl 0 rfl) ?_
        have ce_1 : At G s.heap (ad 0) (eO 9 [.int (J (V 0 0)), .ref (ad 1), .ref (ad 2), .ref (ad 3), .ref (ad 4), .ref (ad 5), .ref (ad 6), .ref (ad 7), .ref (ad 8), .ref (ad 9), .int (J (V 0 1)), .ref (ad 10), .ref (ad 11), .ref (ad 12), .ref (ad 13), .ref (ad 14), .ref (ad 15), .ref (ad 16), .ref (ad 17), .int (J fo), .int (J am), .ref (ad 18)]) := hM.1
        refine k_V (ci := 9) (b := ad 0) (As := [.int (J h), .int (J (365 * y + t))]) (rest := [.long (JL (lo (fun x j => x + rlv (mCt V h (365 * y + j))) 0 t))]) (v := .int (J (mCt V h (365 * y + t)))) hx hb hml hown hts hK hl.1 (c_X9_countsOn l G ad V fo am ys h (365 * y + t) hV (by omega) (by omega)) (cwV 2 hts gX9_yearOf_X9_countsOn rfl rfl rfl (by decide +kernel) ⟨Nat.le_of_ble_eq_true rfl, Nat.le_of_ble_eq_true rfl⟩) ce_1 rfl hM rfl rfl (Nat.le_of_ble_eq_true rfl) dX9_yearOf_28 ⟨Nat.zero_le _, Nat.zero_le _⟩ ?_
        have hcr := mCt_rng (d := 365 * y + t) hV h_h.1 h_h.2
        refine k_S (As := [.int (J (mCt V h (365 * y + t)))]) (rest := [.long (JL (lo (fun x j => x + rlv (mCt V h (365 * y + j))) 0 t))]) (v := .int (J (rlv (mCt V h (365 * y + t))))) hx hb hml hown hts hK hl.1 (c_X9_relieved l G (mCt V h (365 * y + t)) (by omega)) (va_cwS 1 hts gX9_yearOf_X9_relieved rfl rfl rfl (by decide +kernel) ⟨Nat.le_of_ble_eq_true rfl, Nat.le_of_ble_eq_true rfl⟩) trivial rfl rfl (Nat.le_of_ble_eq_true rfl) dX9_yearOf_31 ⟨Nat.zero_le _, Nat.zero_le _⟩ ?_
        have hrr := rlv_rng hcr
        refine j_i2l hx hb (by omega) (by omega) dX9_yearOf_34 ?_
        refine j_ladd hx hb dX9_yearOf_35 ?_
        refine lv_lstore_n (lv' := [(3, .long (JL ((lo (fun x j => x + rlv (mCt V h (365 * y + j))) 0 t) + (rlv (mCt V h (365 * y + t)))))), (5, .int (J (365 * y + t))), (0, .ref (ad 0)), (1, .int (J h)), (2, .int (J y))]) hx hb dX9_yearOf_36 rfl hl (by decide) rfl (fun ls hl => ?_)
        refine lv_iinc (v := J ((365 * y + t) + 1)) (lv' := [(5, .int (J ((365 * y + t) + 1))), (3, .long (JL ((lo (fun x j => x + rlv (mCt V h (365 * y + j))) 0 t) + (rlv (mCt V h (365 * y + t)))))), (0, .ref (ad 0)), (1, .int (J h)), (2, .int (J y))]) hx hb dX9_yearOf_37 hl (k := 1) rfl (J_add _ _) (by decide) rfl (fun ls hl => ?_)
        refine lv_goto (tgt := 9) hx hb dX9_yearOf_40 (by decide) ?_
        exact ih9 (t + 1) (by omega) (by omega) _ (lv_sub hl [0, 1, 2, 3, 4] (by rw [show (365 * y + (t + 1) : Int) = (365 * y + t) + 1 from (by omega)]; rw [show (lo (fun x j => x + rlv (mCt V h (365 * y + j))) 0 (t + 1) : Int) = (lo (fun x j => x + rlv (mCt V h (365 * y + j))) 0 t) + (rlv (mCt V h (365 * y + t))) from (by rw [lo_s _ _ (by omega)])]; try rfl))
  exact lp9 366 0 (by omega) (by omega) _ (lv_sub hl [0, 1, 2, 3, 4] (by rw [show (365 * y + 0 : Int) = 365 * y from (by omega)]; rw [show (lo (fun x j => x + rlv (mCt V h (365 * y + j))) 0 0 : Int) = 0 from (by rfl)]; try rfl))

abbrev rmX9_on : Room := { frames := 4, cells := 0, slots := 0, locals := 100 }
set_option maxHeartbeats 4000000 in
set_option maxRecDepth 100000 in
theorem c_X9_on (l : Launch) (G : GG) (ad : Nat → Nat) (V : St) (fo am : Int) (ys : Int → Int) (h d k : Int) (hV : Iv V) (g_h : -2147483648 ≤ h ∧ h < 2147483648) (g_d : -2147483648 ≤ d ∧ d < 2147483648) (g_k : -2147483648 ≤ k ∧ k < 2147483648) : MP l G yX9_on wsX9_on rmX9_on [.ref (ad 0), .int (J h), .int (J d), .int (J k)] (fun H => MW G H ad V fo am ys) (.int (J (if (0 ≤ h ∧ h < V 0 0) ∧ (0 ≤ d ∧ d < 3650) ∧ 0 ≤ k ∧ k ≤ 5 then (if k = 0 then mSz V h d else if k = 1 then mUs V h d else if k = 2 then mWo V h d else if k = 3 then mCt V h d else if k = 4 then rlv (mCt V h d) else stO V d) else -1)) : Value) := by
  refine MP.of (cc := cX9_on) (maxL := 4) (ret := (some .int)) (by decide) rfl (Nat.le_of_ble_eq_true rfl) ?_
  intro p e s m below meth c hx hb hr hml hown hts hlk hK hP ls hl
  have hown : s.vm.findClass RX9 = some m.cls := hown
  have hl : lv_has ls 4 [(0, .ref (ad 0)), (1, .int (J h)), (2, .int (J d)), (3, .int (J k))] := hl
  have hM : MW G s.heap ad V fo am ys := hP
  have hn := hV.n
  have hnl := hV.l
  refine lv_aload_n hx hb dX9_on_0 rfl (lv_at hl 0 rfl) ?_
  refine lv_iload_n hx hb dX9_on_1 rfl (lv_at hl 1 rfl) ?_
  have ce_1 : At G s.heap (ad 0) (eO 9 [.int (J (V 0 0)), .ref (ad 1), .ref (ad 2), .ref (ad 3), .ref (ad 4), .ref (ad 5), .ref (ad 6), .ref (ad 7), .ref (ad 8), .ref (ad 9), .int (J (V 0 1)), .ref (ad 10), .ref (ad 11), .ref (ad 12), .ref (ad 13), .ref (ad 14), .ref (ad 15), .ref (ad 16), .ref (ad 17), .int (J fo), .int (J am), .ref (ad 18)]) := hM.1
  refine k_V (ci := 9) (b := ad 0) (As := [.int (J h)]) (rest := []) (v := .int (J (pI (0 ≤ h ∧ h ≤ V 0 0 - 1)))) hx hb hml hown hts hK hl.1 (c_X9_isHouse l G ad V fo am ys h hV (by omega)) (cwV 1 hts gX9_on_X9_isHouse rfl rfl rfl (by decide +kernel) ⟨Nat.le_of_ble_eq_true rfl, Nat.le_of_ble_eq_true rfl⟩) ce_1 rfl hM rfl rfl (Nat.le_of_ble_eq_true rfl) dX9_on_2 ⟨Nat.zero_le _, Nat.zero_le _⟩ ?_
  refine j_eqP (tgt := 24) hx hb dX9_on_5 (by decide) (fun c5 => ?_) (fun c5 => ?_)
  · refine j_const hx hb dX9_on_24 ?_
    exact r_i hx hb hr hlk (congrArg (fun z => Value.int (J z)) (show ((-1) : Int) = if (0 ≤ h ∧ h < V 0 0) ∧ (0 ≤ d ∧ d < 3650) ∧ 0 ≤ k ∧ k ≤ 5 then (if k = 0 then mSz V h d else if k = 1 then mUs V h d else if k = 2 then mWo V h d else if k = 3 then mCt V h d else if k = 4 then rlv (mCt V h d) else stO V d) else -1 from by rw [if_neg (by omega)])) dX9_on_25
  · refine lv_iload_n hx hb dX9_on_8 rfl (lv_at hl 2 rfl) ?_
    refine k_S (As := [.int (J d)]) (rest := []) (v := .int (J (pI (0 ≤ d ∧ d ≤ 3649)))) hx hb hml hown hts hK hl.1 (c_X9_isDay l G d (by omega)) (va_cwS 1 hts gX9_on_X9_isDay rfl rfl rfl (by decide +kernel) ⟨Nat.le_of_ble_eq_true rfl, Nat.le_of_ble_eq_true rfl⟩) trivial rfl rfl (Nat.le_of_ble_eq_true rfl) dX9_on_9 ⟨Nat.zero_le _, Nat.zero_le _⟩ ?_
    refine j_eqP (tgt := 24) hx hb dX9_on_12 (by decide) (fun c12 => ?_) (fun c12 => ?_)
    · refine j_const hx hb dX9_on_24 ?_
      exact r_i hx hb hr hlk (congrArg (fun z => Value.int (J z)) (show ((-1) : Int) = if (0 ≤ h ∧ h < V 0 0) ∧ (0 ≤ d ∧ d < 3650) ∧ 0 ≤ k ∧ k ≤ 5 then (if k = 0 then mSz V h d else if k = 1 then mUs V h d else if k = 2 then mWo V h d else if k = 3 then mCt V h d else if k = 4 then rlv (mCt V h d) else stO V d) else -1 from by rw [if_neg (by omega)])) dX9_on_25
    · refine lv_iload_n hx hb dX9_on_15 rfl (lv_at hl 3 rfl) ?_
      refine j_const hx hb dX9_on_16 ?_
      refine j_const hx hb dX9_on_17 ?_
      refine k_S (As := [.int (J k), .int (J 0), .int (J 5)]) (rest := []) (v := .int (J (pI (0 ≤ k ∧ k ≤ 5)))) hx hb hml hown hts hK hl.1 (c_X9_in l G k 0 5 (by omega) (by omega) (by omega)) (va_cwS 3 hts gX9_on_X9_in rfl rfl rfl (by decide +kernel) ⟨Nat.le_of_ble_eq_true rfl, Nat.le_of_ble_eq_true rfl⟩) trivial rfl rfl (Nat.le_of_ble_eq_true rfl) dX9_on_18 ⟨Nat.zero_le _, Nat.zero_le _⟩ ?_
      refine j_neP (tgt := 26) hx hb dX9_on_21 (by decide) (fun c21 => ?_) (fun c21 => ?_)
      · refine lv_iload_n hx hb dX9_on_26 rfl (lv_at hl 3 rfl) ?_
        rcases (show k = 0 ∨ k = 1 ∨ k = 2 ∨ k = 3 ∨ k = 4 ∨ (k < 0 ∨ 4 < k) by omega) with c27 | c27 | c27 | c27 | c27 | c27
        · refine j_tabIn (tgt := 60) hx hb 0 c27 (by decide) (by decide) dX9_on_27 (by decide) (by decide) rfl (by decide) ?_
          refine lv_aload_n hx hb dX9_on_60 rfl (lv_at hl 0 rfl) ?_
          refine lv_iload_n hx hb dX9_on_61 rfl (lv_at hl 1 rfl) ?_
          refine lv_iload_n hx hb dX9_on_62 rfl (lv_at hl 2 rfl) ?_
          refine k_V (ci := 9) (b := ad 0) (As := [.int (J h), .int (J d)]) (rest := []) (v := .int (J (mSz V h d))) hx hb hml hown hts hK hl.1 (c_X9_sizeOn l G ad V fo am ys h d hV (by omega) (by omega)) (cwV 2 hts gX9_on_X9_sizeOn rfl rfl rfl (by decide +kernel) ⟨Nat.le_of_ble_eq_true rfl, Nat.le_of_ble_eq_true rfl⟩) ce_1 rfl hM rfl rfl (Nat.le_of_ble_eq_true rfl) dX9_on_63 ⟨Nat.zero_le _, Nat.zero_le _⟩ ?_
          exact r_i hx hb hr hlk (congrArg (fun z => Value.int (J z)) (show (mSz V h d : Int) = if (0 ≤ h ∧ h < V 0 0) ∧ (0 ≤ d ∧ d < 3650) ∧ 0 ≤ k ∧ k ≤ 5 then (if k = 0 then mSz V h d else if k = 1 then mUs V h d else if k = 2 then mWo V h d else if k = 3 then mCt V h d else if k = 4 then rlv (mCt V h d) else stO V d) else -1 from by rw [if_pos (by omega)]; rw [if_pos (by omega)])) dX9_on_66
        · refine j_tabIn (tgt := 67) hx hb 1 c27 (by decide) (by decide) dX9_on_27 (by decide) (by decide) rfl (by decide) ?_
          refine lv_aload_n hx hb dX9_on_67 rfl (lv_at hl 0 rfl) ?_
          refine lv_iload_n hx hb dX9_on_68 rfl (lv_at hl 1 rfl) ?_
          refine lv_iload_n hx hb dX9_on_69 rfl (lv_at hl 2 rfl) ?_
          refine k_V (ci := 9) (b := ad 0) (As := [.int (J h), .int (J d)]) (rest := []) (v := .int (J (mUs V h d))) hx hb hml hown hts hK hl.1 (c_X9_useOn l G ad V fo am ys h d hV (by omega) (by omega)) (cwV 2 hts gX9_on_X9_useOn rfl rfl rfl (by decide +kernel) ⟨Nat.le_of_ble_eq_true rfl, Nat.le_of_ble_eq_true rfl⟩) ce_1 rfl hM rfl rfl (Nat.le_of_ble_eq_true rfl) dX9_on_70 ⟨Nat.zero_le _, Nat.zero_le _⟩ ?_
          exact r_i hx hb hr hlk (congrArg (fun z => Value.int (J z)) (show (mUs V h d : Int) = if (0 ≤ h ∧ h < V 0 0) ∧ (0 ≤ d ∧ d < 3650) ∧ 0 ≤ k ∧ k ≤ 5 then (if k = 0 then mSz V h d else if k = 1 then mUs V h d else if k = 2 then mWo V h d else if k = 3 then mCt V h d else if k = 4 then rlv (mCt V h d) else stO V d) else -1 from by rw [if_pos (by omega)]; rw [if_neg (by omega)]; rw [if_pos (by omega)])) dX9_on_73
        · refine j_tabIn (tgt := 74) hx hb 2 c27 (by decide) (by decide) dX9_on_27 (by decide) (by decide) rfl (by decide) ?_
          refine lv_aload_n hx hb dX9_on_74 rfl (lv_at hl 0 rfl) ?_
          refine lv_iload_n hx hb dX9_on_75 rfl (lv_at hl 1 rfl) ?_
          refine lv_iload_n hx hb dX9_on_76 rfl (lv_at hl 2 rfl) ?_
          refine k_V (ci := 9) (b := ad 0) (As := [.int (J h), .int (J d)]) (rest := []) (v := .int (J (mWo V h d))) hx hb hml hown hts hK hl.1 (c_X9_worthOn l G ad V fo am ys h d hV (by omega) (by omega)) (cwV 2 hts gX9_on_X9_worthOn rfl rfl rfl (by decide +kernel) ⟨Nat.le_of_ble_eq_true rfl, Nat.le_of_ble_eq_true rfl⟩) ce_1 rfl hM rfl rfl (Nat.le_of_ble_eq_true rfl) dX9_on_77 ⟨Nat.zero_le _, Nat.zero_le _⟩ ?_
          exact r_i hx hb hr hlk (congrArg (fun z => Value.int (J z)) (show (mWo V h d : Int) = if (0 ≤ h ∧ h < V 0 0) ∧ (0 ≤ d ∧ d < 3650) ∧ 0 ≤ k ∧ k ≤ 5 then (if k = 0 then mSz V h d else if k = 1 then mUs V h d else if k = 2 then mWo V h d else if k = 3 then mCt V h d else if k = 4 then rlv (mCt V h d) else stO V d) else -1 from by rw [if_pos (by omega)]; rw [if_neg (by omega)]; rw [if_neg (by omega)]; rw [if_pos (by omega)])) dX9_on_80
        · refine j_tabIn (tgt := 81) hx hb 3 c27 (by decide) (by decide) dX9_on_27 (by decide) (by decide) rfl (by decide) ?_
          refine lv_aload_n hx hb dX9_on_81 rfl (lv_at hl 0 rfl) ?_
          refine lv_iload_n hx hb dX9_on_82 rfl (lv_at hl 1 rfl) ?_
          refine lv_iload_n hx hb dX9_on_83 rfl (lv_at hl 2 rfl) ?_
          refine k_V (ci := 9) (b := ad 0) (As := [.int (J h), .int (J d)]) (rest := []) (v := .int (J (mCt V h d))) hx hb hml hown hts hK hl.1 (c_X9_countsOn l G ad V fo am ys h d hV (by omega) (by omega)) (cwV 2 hts gX9_on_X9_countsOn rfl rfl rfl (by decide +kernel) ⟨Nat.le_of_ble_eq_true rfl, Nat.le_of_ble_eq_true rfl⟩) ce_1 rfl hM rfl rfl (Nat.le_of_ble_eq_true rfl) dX9_on_84 ⟨Nat.zero_le _, Nat.zero_le _⟩ ?_
          exact r_i hx hb hr hlk (congrArg (fun z => Value.int (J z)) (show (mCt V h d : Int) = if (0 ≤ h ∧ h < V 0 0) ∧ (0 ≤ d ∧ d < 3650) ∧ 0 ≤ k ∧ k ≤ 5 then (if k = 0 then mSz V h d else if k = 1 then mUs V h d else if k = 2 then mWo V h d else if k = 3 then mCt V h d else if k = 4 then rlv (mCt V h d) else stO V d) else -1 from by rw [if_pos (by omega)]; rw [if_neg (by omega)]; rw [if_neg (by omega)]; rw [if_neg (by omega)]; rw [if_pos (by omega)])) dX9_on_87
        · refine j_tabIn (tgt := 88) hx hb 4 c27 (by decide) (by decide) dX9_on_27 (by decide) (by decide) rfl (by decide) ?_
          refine lv_aload_n hx hb dX9_on_88 rfl (lv_at hl 0 rfl) ?_
          refine lv_iload_n hx hb dX9_on_89 rfl (lv_at hl 1 rfl) ?_
          refine lv_iload_n hx hb dX9_on_90 rfl (lv_at hl 2 rfl) ?_
          refine k_V (ci := 9) (b := ad 0) (As := [.int (J h), .int (J d)]) (rest := []) (v := .int (J (mCt V h d))) hx hb hml hown hts hK hl.1 (c_X9_countsOn l G ad V fo am ys h d hV (by omega) (by omega)) (cwV 2 hts gX9_on_X9_countsOn rfl rfl rfl (by decide +kernel) ⟨Nat.le_of_ble_eq_true rfl, Nat.le_of_ble_eq_true rfl⟩) ce_1 rfl hM rfl rfl (Nat.le_of_ble_eq_true rfl) dX9_on_91 ⟨Nat.zero_le _, Nat.zero_le _⟩ ?_
          have hcr := mCt_rng (h := h) (d := d) hV (by omega) (by omega)
          refine k_S (As := [.int (J (mCt V h d))]) (rest := []) (v := .int (J (rlv (mCt V h d)))) hx hb hml hown hts hK hl.1 (c_X9_relieved l G (mCt V h d) (by omega)) (va_cwS 1 hts gX9_on_X9_relieved rfl rfl rfl (by decide +kernel) ⟨Nat.le_of_ble_eq_true rfl, Nat.le_of_ble_eq_true rfl⟩) trivial rfl rfl (Nat.le_of_ble_eq_true rfl) dX9_on_94 ⟨Nat.zero_le _, Nat.zero_le _⟩ ?_
          exact r_i hx hb hr hlk (congrArg (fun z => Value.int (J z)) (show (rlv (mCt V h d) : Int) = if (0 ≤ h ∧ h < V 0 0) ∧ (0 ≤ d ∧ d < 3650) ∧ 0 ≤ k ∧ k ≤ 5 then (if k = 0 then mSz V h d else if k = 1 then mUs V h d else if k = 2 then mWo V h d else if k = 3 then mCt V h d else if k = 4 then rlv (mCt V h d) else stO V d) else -1 from by rw [if_pos (by omega)]; rw [if_neg (by omega)]; rw [if_neg (by omega)]; rw [if_neg (by omega)]; rw [if_neg (by omega)]; rw [if_pos (by omega)])) dX9_on_97
        · refine j_tabOut (tgt := 98) hx hb (by omega) (by omega) dX9_on_27 c27 (by decide) ?_
          refine lv_aload_n hx hb dX9_on_98 rfl (lv_at hl 0 rfl) ?_
          refine lv_iload_n hx hb dX9_on_99 rfl (lv_at hl 2 rfl) ?_
          refine k_V (ci := 9) (b := ad 0) (As := [.int (J d)]) (rest := []) (v := .int (J (stO V d))) hx hb hml hown hts hK hl.1 (c_X9_listOn l G ad V fo am ys d hV (by omega)) (cwV 1 hts gX9_on_X9_listOn rfl rfl rfl (by decide +kernel) ⟨Nat.le_of_ble_eq_true rfl, Nat.le_of_ble_eq_true rfl⟩) ce_1 rfl hM rfl rfl (Nat.le_of_ble_eq_true rfl) dX9_on_100 ⟨Nat.zero_le _, Nat.zero_le _⟩ ?_
          exact r_i hx hb hr hlk (congrArg (fun z => Value.int (J z)) (show (stO V d : Int) = if (0 ≤ h ∧ h < V 0 0) ∧ (0 ≤ d ∧ d < 3650) ∧ 0 ≤ k ∧ k ≤ 5 then (if k = 0 then mSz V h d else if k = 1 then mUs V h d else if k = 2 then mWo V h d else if k = 3 then mCt V h d else if k = 4 then rlv (mCt V h d) else stO V d) else -1 from by rw [if_pos (by omega)]; rw [if_neg (by omega)]; rw [if_neg (by omega)]; rw [if_neg (by omega)]; rw [if_neg (by omega)]; rw [if_neg (by omega)])) dX9_on_103
      · refine j_const hx hb dX9_on_24 ?_
        exact r_i hx hb hr hlk (congrArg (fun z => Value.int (J z)) (show ((-1) : Int) = if (0 ≤ h ∧ h < V 0 0) ∧ (0 ≤ d ∧ d < 3650) ∧ 0 ≤ k ∧ k ≤ 5 then (if k = 0 then mSz V h d else if k = 1 then mUs V h d else if k = 2 then mWo V h d else if k = 3 then mCt V h d else if k = 4 then rlv (mCt V h d) else stO V d) else -1 from by rw [if_neg (by omega)])) dX9_on_25

abbrev rmX9_year : Room := { frames := 5, cells := 0, slots := 0, locals := 125 }
set_option maxHeartbeats 4000000 in
set_option maxRecDepth 100000 in
theorem c_X9_year (l : Launch) (G : GG) (ad : Nat → Nat) (V : St) (fo am : Int) (ys : Int → Int) (h y : Int) (hV : Iv V) (g_h : -2147483648 ≤ h ∧ h < 2147483648) (g_y : -2147483648 ≤ y ∧ y < 2147483648) : MP l G yX9_year wsX9_year rmX9_year [.ref (ad 0), .int (J h), .int (J y)] (fun H => MW G H ad V fo am ys) (.long (JL (if (0 ≤ h ∧ h < V 0 0) ∧ 0 ≤ y ∧ y < 10 then mYr V h y else -1)) : Value) := by
  refine MP.of (cc := cX9_year) (maxL := 3) (ret := (some .long)) (by decide) rfl (Nat.le_of_ble_eq_true rfl) ?_
  intro p e s m below meth c hx hb hr hml hown hts hlk hK hP ls hl
  have hown : s.vm.findClass RX9 = some m.cls := hown
  have hl : lv_has ls 3 [(0, .ref (ad 0)), (1, .int (J h)), (2, .int (J y))] := hl
  have lk0 := hts (.constantLong RX9 155 (-1)) (by decide +kernel)
  have hM : MW G s.heap ad V fo am ys := hP
  have hn := hV.n
  have hnl := hV.l
  refine lv_aload_n hx hb dX9_year_0 rfl (lv_at hl 0 rfl) ?_
  refine lv_iload_n hx hb dX9_year_1 rfl (lv_at hl 1 rfl) ?_
  have ce_1 : At G s.heap (ad 0) (eO 9 [.int (J (V 0 0)), .ref (ad 1), .ref (ad 2), .ref (ad 3), .ref (ad 4), .ref (ad 5), .ref (ad 6), .ref (ad 7), .ref (ad 8), .ref (ad 9), .int (J (V 0 1)), .ref (ad 10), .ref (ad 11), .ref (ad 12), .ref (ad 13), .ref (ad 14), .ref (ad 15), .ref (ad 16), .ref (ad 17), .int (J fo), .int (J am), .ref (ad 18)]) := hM.1
  refine k_V (ci := 9) (b := ad 0) (As := [.int (J h)]) (rest := []) (v := .int (J (pI (0 ≤ h ∧ h ≤ V 0 0 - 1)))) hx hb hml hown hts hK hl.1 (c_X9_isHouse l G ad V fo am ys h hV (by omega)) (cwV 1 hts gX9_year_X9_isHouse rfl rfl rfl (by decide +kernel) ⟨Nat.le_of_ble_eq_true rfl, Nat.le_of_ble_eq_true rfl⟩) ce_1 rfl hM rfl rfl (Nat.le_of_ble_eq_true rfl) dX9_year_2 ⟨Nat.zero_le _, Nat.zero_le _⟩ ?_
  refine j_eqP (tgt := 24) hx hb dX9_year_5 (by decide) (fun c5 => ?_) (fun c5 => ?_)
  · refine j_ldc2 hx hb hown lk0 (z := (-1)) rfl dX9_year_24 ?_
    exact r_l hx hb hr hlk (congrArg (fun z => Value.long (JL z)) (show ((-1) : Int) = if (0 ≤ h ∧ h < V 0 0) ∧ 0 ≤ y ∧ y < 10 then mYr V h y else -1 from by rw [if_neg (by omega)])) dX9_year_27
  · refine lv_iload_n hx hb dX9_year_8 rfl (lv_at hl 2 rfl) ?_
    refine k_S (As := [.int (J y)]) (rest := []) (v := .int (J (pI (0 ≤ y ∧ y ≤ 9)))) hx hb hml hown hts hK hl.1 (c_X9_isYear l G y (by omega)) (va_cwS 1 hts gX9_year_X9_isYear rfl rfl rfl (by decide +kernel) ⟨Nat.le_of_ble_eq_true rfl, Nat.le_of_ble_eq_true rfl⟩) trivial rfl rfl (Nat.le_of_ble_eq_true rfl) dX9_year_9 ⟨Nat.zero_le _, Nat.zero_le _⟩ ?_
    refine j_eqP (tgt := 24) hx hb dX9_year_12 (by decide) (fun c12 => ?_) (fun c12 => ?_)
    · refine j_ldc2 hx hb hown lk0 (z := (-1)) rfl dX9_year_24 ?_
      exact r_l hx hb hr hlk (congrArg (fun z => Value.long (JL z)) (show ((-1) : Int) = if (0 ≤ h ∧ h < V 0 0) ∧ 0 ≤ y ∧ y < 10 then mYr V h y else -1 from by rw [if_neg (by omega)])) dX9_year_27
    · refine lv_aload_n hx hb dX9_year_15 rfl (lv_at hl 0 rfl) ?_
      refine lv_iload_n hx hb dX9_year_16 rfl (lv_at hl 1 rfl) ?_
      refine lv_iload_n hx hb dX9_year_17 rfl (lv_at hl 2 rfl) ?_
      refine k_V (ci := 9) (b := ad 0) (As := [.int (J h), .int (J y)]) (rest := []) (v := .long (JL (mYr V h y))) hx hb hml hown hts hK hl.1 (c_X9_yearOf l G ad V fo am ys h y hV (by omega) (by omega)) (cwV 2 hts gX9_year_X9_yearOf rfl rfl rfl (by decide +kernel) ⟨Nat.le_of_ble_eq_true rfl, Nat.le_of_ble_eq_true rfl⟩) ce_1 rfl hM rfl rfl (Nat.le_of_ble_eq_true rfl) dX9_year_18 ⟨Nat.zero_le _, Nat.zero_le _⟩ ?_
      refine lv_goto (tgt := 27) hx hb dX9_year_21 (by decide) ?_
      exact r_l hx hb hr hlk (congrArg (fun z => Value.long (JL z)) (show (mYr V h y : Int) = if (0 ≤ h ∧ h < V 0 0) ∧ 0 ≤ y ∧ y < 10 then mYr V h y else -1 from by rw [if_pos (by omega)])) dX9_year_27

abbrev rmX9_bill : Room := { frames := 5, cells := 0, slots := 0, locals := 125 }
set_option maxHeartbeats 4000000 in
set_option maxRecDepth 100000 in
theorem c_X9_bill (l : Launch) (G : GG) (ad : Nat → Nat) (V : St) (fo am : Int) (ys : Int → Int) (h y p_ : Int) (hV : Iv V) (g_h : -2147483648 ≤ h ∧ h < 2147483648) (g_y : -2147483648 ≤ y ∧ y < 2147483648) (g_p_ : -2147483648 ≤ p_ ∧ p_ < 2147483648) : MP l G yX9_bill wsX9_bill rmX9_bill [.ref (ad 0), .int (J h), .int (J y), .int (J p_)] (fun H => MW G H ad V fo am ys) (.int (J (if (0 ≤ h ∧ h < V 0 0) ∧ (0 ≤ y ∧ y < 10) ∧ 0 ≤ p_ ∧ p_ ≤ 3000 then mYr V h y * p_ / 365000 else -1)) : Value) := by
  refine MP.of (cc := cX9_bill) (maxL := 4) (ret := (some .int)) (by decide) rfl (Nat.le_of_ble_eq_true rfl) ?_
  intro p e s m below meth c hx hb hr hml hown hts hlk hK hP ls hl
  have hown : s.vm.findClass RX9 = some m.cls := hown
  have hl : lv_has ls 4 [(0, .ref (ad 0)), (1, .int (J h)), (2, .int (J y)), (3, .int (J p_))] := hl
  have lk0 := hts (.constantLong RX9 157 365000) (by decide +kernel)
  have hM : MW G s.heap ad V fo am ys := hP
  have hn := hV.n
  have hnl := hV.l
  refine lv_aload_n hx hb dX9_bill_0 rfl (lv_at hl 0 rfl) ?_
  refine lv_iload_n hx hb dX9_bill_1 rfl (lv_at hl 1 rfl) ?_
  have ce_1 : At G s.heap (ad 0) (eO 9 [.int (J (V 0 0)), .ref (ad 1), .ref (ad 2), .ref (ad 3), .ref (ad 4), .ref (ad 5), .ref (ad 6), .ref (ad 7), .ref (ad 8), .ref (ad 9), .int (J (V 0 1)), .ref (ad 10), .ref (ad 11), .ref (ad 12), .ref (ad 13), .ref (ad 14), .ref (ad 15), .ref (ad 16), .ref (ad 17), .int (J fo), .int (J am), .ref (ad 18)]) := hM.1
  refine k_V (ci := 9) (b := ad 0) (As := [.int (J h)]) (rest := []) (v := .int (J (pI (0 ≤ h ∧ h ≤ V 0 0 - 1)))) hx hb hml hown hts hK hl.1 (c_X9_isHouse l G ad V fo am ys h hV (by omega)) (cwV 1 hts gX9_bill_X9_isHouse rfl rfl rfl (by decide +kernel) ⟨Nat.le_of_ble_eq_true rfl, Nat.le_of_ble_eq_true rfl⟩) ce_1 rfl hM rfl rfl (Nat.le_of_ble_eq_true rfl) dX9_bill_2 ⟨Nat.zero_le _, Nat.zero_le _⟩ ?_
  refine j_eqP (tgt := 43) hx hb dX9_bill_5 (by decide) (fun c5 => ?_) (fun c5 => ?_)
  · refine j_const hx hb dX9_bill_43 ?_
    exact r_i hx hb hr hlk (congrArg (fun z => Value.int (J z)) (show ((-1) : Int) = if (0 ≤ h ∧ h < V 0 0) ∧ (0 ≤ y ∧ y < 10) ∧ 0 ≤ p_ ∧ p_ ≤ 3000 then mYr V h y * p_ / 365000 else -1 from by rw [if_neg (by omega)])) dX9_bill_44
  · refine lv_iload_n hx hb dX9_bill_8 rfl (lv_at hl 2 rfl) ?_
    refine k_S (As := [.int (J y)]) (rest := []) (v := .int (J (pI (0 ≤ y ∧ y ≤ 9)))) hx hb hml hown hts hK hl.1 (c_X9_isYear l G y (by omega)) (va_cwS 1 hts gX9_bill_X9_isYear rfl rfl rfl (by decide +kernel) ⟨Nat.le_of_ble_eq_true rfl, Nat.le_of_ble_eq_true rfl⟩) trivial rfl rfl (Nat.le_of_ble_eq_true rfl) dX9_bill_9 ⟨Nat.zero_le _, Nat.zero_le _⟩ ?_
    refine j_eqP (tgt := 43) hx hb dX9_bill_12 (by decide) (fun c12 => ?_) (fun c12 => ?_)
    · refine j_const hx hb dX9_bill_43 ?_
      exact r_i hx hb hr hlk (congrArg (fun z => Value.int (J z)) (show ((-1) : Int) = if (0 ≤ h ∧ h < V 0 0) ∧ (0 ≤ y ∧ y < 10) ∧ 0 ≤ p_ ∧ p_ ≤ 3000 then mYr V h y * p_ / 365000 else -1 from by rw [if_neg (by omega)])) dX9_bill_44
    · refine lv_iload_n hx hb dX9_bill_15 rfl (lv_at hl 3 rfl) ?_
      refine j_const hx hb dX9_bill_16 ?_
      refine j_si hx hb dX9_bill_17 (by decide +kernel) ?_
      refine k_S (As := [.int (J p_), .int (J 0), .int (J 3000)]) (rest := []) (v := .int (J (pI (0 ≤ p_ ∧ p_ ≤ 3000)))) hx hb hml hown hts hK hl.1 (c_X9_in l G p_ 0 3000 (by omega) (by omega) (by omega)) (va_cwS 3 hts gX9_bill_X9_in rfl rfl rfl (by decide +kernel) ⟨Nat.le_of_ble_eq_true rfl, Nat.le_of_ble_eq_true rfl⟩) trivial rfl rfl (Nat.le_of_ble_eq_true rfl) dX9_bill_20 ⟨Nat.zero_le _, Nat.zero_le _⟩ ?_
      refine j_eqP (tgt := 43) hx hb dX9_bill_23 (by decide) (fun c23 => ?_) (fun c23 => ?_)
      · refine j_const hx hb dX9_bill_43 ?_
        exact r_i hx hb hr hlk (congrArg (fun z => Value.int (J z)) (show ((-1) : Int) = if (0 ≤ h ∧ h < V 0 0) ∧ (0 ≤ y ∧ y < 10) ∧ 0 ≤ p_ ∧ p_ ≤ 3000 then mYr V h y * p_ / 365000 else -1 from by rw [if_neg (by omega)])) dX9_bill_44
      · refine lv_aload_n hx hb dX9_bill_26 rfl (lv_at hl 0 rfl) ?_
        refine lv_iload_n hx hb dX9_bill_27 rfl (lv_at hl 1 rfl) ?_
        refine lv_iload_n hx hb dX9_bill_28 rfl (lv_at hl 2 rfl) ?_
        refine k_V (ci := 9) (b := ad 0) (As := [.int (J h), .int (J y)]) (rest := []) (v := .long (JL (mYr V h y))) hx hb hml hown hts hK hl.1 (c_X9_yearOf l G ad V fo am ys h y hV (by omega) (by omega)) (cwV 2 hts gX9_bill_X9_yearOf rfl rfl rfl (by decide +kernel) ⟨Nat.le_of_ble_eq_true rfl, Nat.le_of_ble_eq_true rfl⟩) ce_1 rfl hM rfl rfl (Nat.le_of_ble_eq_true rfl) dX9_bill_29 ⟨Nat.zero_le _, Nat.zero_le _⟩ ?_
        have hyr := mYr_rng (h := h) (y := y) hV (by omega) (by omega)
        have hmm := mulb (a := mYr V h y) (b := p_) hyr.1 hyr.2 (by omega) (show p_ ≤ 3000 by omega)
        refine lv_iload_n hx hb dX9_bill_32 rfl (lv_at hl 3 rfl) ?_
        refine j_i2l hx hb (by omega) (by omega) dX9_bill_33 ?_
        refine j_lmul hx hb dX9_bill_34 ?_
        refine j_ldc2 hx hb hown lk0 (z := 365000) rfl dX9_bill_35 ?_
        refine j_ldiv hx hb (by omega) (by omega) (by decide) (by decide) dX9_bill_38 ?_
        refine j_l2i hx hb dX9_bill_39 ?_
        refine lv_goto (tgt := 44) hx hb dX9_bill_40 (by decide) ?_
        exact r_i hx hb hr hlk (congrArg (fun z => Value.int (J z)) (show (((mYr V h y) * p_) / 365000 : Int) = if (0 ≤ h ∧ h < V 0 0) ∧ (0 ≤ y ∧ y < 10) ∧ 0 ≤ p_ ∧ p_ ≤ 3000 then mYr V h y * p_ / 365000 else -1 from by rw [if_pos (by omega)])) dX9_bill_44

abbrev rmX9_paid : Room := { frames := 2, cells := 0, slots := 0, locals := 43 }
set_option maxHeartbeats 4000000 in
set_option maxRecDepth 100000 in
theorem c_X9_paid (l : Launch) (G : GG) (ad : Nat → Nat) (V : St) (fo am : Int) (ys : Int → Int) (h y k : Int) (hV : Iv V) (g_h : -2147483648 ≤ h ∧ h < 2147483648) (g_y : -2147483648 ≤ y ∧ y < 2147483648) (g_k : -2147483648 ≤ k ∧ k < 2147483648) : MP l G yX9_paid wsX9_paid rmX9_paid [.ref (ad 0), .int (J h), .int (J y), .int (J k)] (fun H => MW G H ad V fo am ys) (.int (J (if (0 ≤ h ∧ h < V 0 0) ∧ (0 ≤ y ∧ y < 10) ∧ 0 ≤ k ∧ k < 2 then (if k = 0 then V 16 (10 * h + y) else V 17 (10 * h + y)) else -1)) : Value) := by
  refine MP.of (cc := cX9_paid) (maxL := 4) (ret := (some .int)) (by decide) rfl (Nat.le_of_ble_eq_true rfl) ?_
  intro p e s m below meth c hx hb hr hml hown hts hlk hK hP ls hl
  have hown : s.vm.findClass RX9 = some m.cls := hown
  have hl : lv_has ls 4 [(0, .ref (ad 0)), (1, .int (J h)), (2, .int (J y)), (3, .int (J k))] := hl
  have inX9_ : ∀ w ∈ u_ws RX9 TX9 22, w ∈ wsX9_paid := by decide +kernel
  have lk0 := hts (.fieldLink RX9 59 "RateBookModel" "payments" "[I") (by decide +kernel)
  have lk1 := hts (.fieldLink RX9 56 "RateBookModel" "billed" "[I") (by decide +kernel)
  have hM : MW G s.heap ad V fo am ys := hP
  have hn := hV.n
  have hnl := hV.l
  refine lv_aload_n hx hb dX9_paid_0 rfl (lv_at hl 0 rfl) ?_
  refine lv_iload_n hx hb dX9_paid_1 rfl (lv_at hl 1 rfl) ?_
  have ce_1 : At G s.heap (ad 0) (eO 9 [.int (J (V 0 0)), .ref (ad 1), .ref (ad 2), .ref (ad 3), .ref (ad 4), .ref (ad 5), .ref (ad 6), .ref (ad 7), .ref (ad 8), .ref (ad 9), .int (J (V 0 1)), .ref (ad 10), .ref (ad 11), .ref (ad 12), .ref (ad 13), .ref (ad 14), .ref (ad 15), .ref (ad 16), .ref (ad 17), .int (J fo), .int (J am), .ref (ad 18)]) := hM.1
  refine k_V (ci := 9) (b := ad 0) (As := [.int (J h)]) (rest := []) (v := .int (J (pI (0 ≤ h ∧ h ≤ V 0 0 - 1)))) hx hb hml hown hts hK hl.1 (c_X9_isHouse l G ad V fo am ys h hV (by omega)) (cwV 1 hts gX9_paid_X9_isHouse rfl rfl rfl (by decide +kernel) ⟨Nat.le_of_ble_eq_true rfl, Nat.le_of_ble_eq_true rfl⟩) ce_1 rfl hM rfl rfl (Nat.le_of_ble_eq_true rfl) dX9_paid_2 ⟨Nat.zero_le _, Nat.zero_le _⟩ ?_
  refine j_eqP (tgt := 24) hx hb dX9_paid_5 (by decide) (fun c5 => ?_) (fun c5 => ?_)
  · refine j_const hx hb dX9_paid_24 ?_
    exact r_i hx hb hr hlk (congrArg (fun z => Value.int (J z)) (show ((-1) : Int) = if (0 ≤ h ∧ h < V 0 0) ∧ (0 ≤ y ∧ y < 10) ∧ 0 ≤ k ∧ k < 2 then (if k = 0 then V 16 (10 * h + y) else V 17 (10 * h + y)) else -1 from by rw [if_neg (by omega)])) dX9_paid_25
  · refine lv_iload_n hx hb dX9_paid_8 rfl (lv_at hl 2 rfl) ?_
    refine k_S (As := [.int (J y)]) (rest := []) (v := .int (J (pI (0 ≤ y ∧ y ≤ 9)))) hx hb hml hown hts hK hl.1 (c_X9_isYear l G y (by omega)) (va_cwS 1 hts gX9_paid_X9_isYear rfl rfl rfl (by decide +kernel) ⟨Nat.le_of_ble_eq_true rfl, Nat.le_of_ble_eq_true rfl⟩) trivial rfl rfl (Nat.le_of_ble_eq_true rfl) dX9_paid_9 ⟨Nat.zero_le _, Nat.zero_le _⟩ ?_
    refine j_eqP (tgt := 24) hx hb dX9_paid_12 (by decide) (fun c12 => ?_) (fun c12 => ?_)
    · refine j_const hx hb dX9_paid_24 ?_
      exact r_i hx hb hr hlk (congrArg (fun z => Value.int (J z)) (show ((-1) : Int) = if (0 ≤ h ∧ h < V 0 0) ∧ (0 ≤ y ∧ y < 10) ∧ 0 ≤ k ∧ k < 2 then (if k = 0 then V 16 (10 * h + y) else V 17 (10 * h + y)) else -1 from by rw [if_neg (by omega)])) dX9_paid_25
    · refine lv_iload_n hx hb dX9_paid_15 rfl (lv_at hl 3 rfl) ?_
      refine j_const hx hb dX9_paid_16 ?_
      refine j_const hx hb dX9_paid_17 ?_
      refine k_S (As := [.int (J k), .int (J 0), .int (J 1)]) (rest := []) (v := .int (J (pI (0 ≤ k ∧ k ≤ 1)))) hx hb hml hown hts hK hl.1 (c_X9_in l G k 0 1 (by omega) (by omega) (by omega)) (va_cwS 3 hts gX9_paid_X9_in rfl rfl rfl (by decide +kernel) ⟨Nat.le_of_ble_eq_true rfl, Nat.le_of_ble_eq_true rfl⟩) trivial rfl rfl (Nat.le_of_ble_eq_true rfl) dX9_paid_18 ⟨Nat.zero_le _, Nat.zero_le _⟩ ?_
      refine j_neP (tgt := 26) hx hb dX9_paid_21 (by decide) (fun c21 => ?_) (fun c21 => ?_)
      · refine lv_iload_n hx hb dX9_paid_26 rfl (lv_at hl 3 rfl) ?_
        refine j_ne0 (tgt := 44) hx hb (by omega) (by omega) dX9_paid_27 (by decide) (fun c27 => ?_) (fun c27 => ?_)
        · refine lv_aload_n hx hb dX9_paid_44 rfl (lv_at hl 0 rfl) ?_
          refine j_get (ci := 9) (v := .ref (ad 17)) hx hb hts inX9_ hown hK ce_1 rfl 18 (by decide) lk0 (fun _ h9 => h9) rfl dX9_paid_45 ?_
          refine j_bi hx hb dX9_paid_48 (by decide +kernel) ?_
          refine lv_iload_n hx hb dX9_paid_50 rfl (lv_at hl 1 rfl) ?_
          refine j_mul hx hb dX9_paid_51 ?_
          refine lv_iload_n hx hb dX9_paid_52 rfl (lv_at hl 2 rfl) ?_
          refine j_add hx hb dX9_paid_53 ?_
          have ce_2 : At G s.heap (ad 17) (eI G 400 (V 17)) := (hM.2.1 17 (by decide) (by decide))
          refine j_iald hx hb hK ce_2 (by omega) (by omega) (by decide) dX9_paid_54 ?_
          have hr_3 := hV.b (i := h) (y := y) (by omega) (by omega) (by omega) (by omega)
          exact r_i hx hb hr hlk (congrArg (fun z => Value.int (J z)) (show ((V 17) ((10 * h) + y) : Int) = if (0 ≤ h ∧ h < V 0 0) ∧ (0 ≤ y ∧ y < 10) ∧ 0 ≤ k ∧ k < 2 then (if k = 0 then V 16 (10 * h + y) else V 17 (10 * h + y)) else -1 from by rw [if_pos (by omega), if_neg (by omega)])) dX9_paid_55
        · refine lv_aload_n hx hb dX9_paid_30 rfl (lv_at hl 0 rfl) ?_
          refine j_get (ci := 9) (v := .ref (ad 16)) hx hb hts inX9_ hown hK ce_1 rfl 17 (by decide) lk1 (fun _ h9 => h9) rfl dX9_paid_31 ?_
          refine j_bi hx hb dX9_paid_34 (by decide +kernel) ?_
          refine lv_iload_n hx hb dX9_paid_36 rfl (lv_at hl 1 rfl) ?_
          refine j_mul hx hb dX9_paid_37 ?_
          refine lv_iload_n hx hb dX9_paid_38 rfl (lv_at hl 2 rfl) ?_
          refine j_add hx hb dX9_paid_39 ?_
          have ce_4 : At G s.heap (ad 16) (eI G 400 (V 16)) := (hM.2.1 16 (by decide) (by decide))
          refine j_iald hx hb hK ce_4 (by omega) (by omega) (by decide) dX9_paid_40 ?_
          have hr_5 := hV.b (i := h) (y := y) (by omega) (by omega) (by omega) (by omega)
          refine lv_goto (tgt := 55) hx hb dX9_paid_41 (by decide) ?_
          exact r_i hx hb hr hlk (congrArg (fun z => Value.int (J z)) (show ((V 16) ((10 * h) + y) : Int) = if (0 ≤ h ∧ h < V 0 0) ∧ (0 ≤ y ∧ y < 10) ∧ 0 ≤ k ∧ k < 2 then (if k = 0 then V 16 (10 * h + y) else V 17 (10 * h + y)) else -1 from by rw [if_pos (by omega), if_pos (by omega)])) dX9_paid_55
      · refine j_const hx hb dX9_paid_24 ?_
        exact r_i hx hb hr hlk (congrArg (fun z => Value.int (J z)) (show ((-1) : Int) = if (0 ≤ h ∧ h < V 0 0) ∧ (0 ≤ y ∧ y < 10) ∧ 0 ≤ k ∧ k < 2 then (if k = 0 then V 16 (10 * h + y) else V 17 (10 * h + y)) else -1 from by rw [if_neg (by omega)])) dX9_paid_25

abbrev rmX9_owed : Room := { frames := 2, cells := 0, slots := 0, locals := 43 }
set_option maxHeartbeats 4000000 in
set_option maxRecDepth 100000 in
theorem c_X9_owed (l : Launch) (G : GG) (ad : Nat → Nat) (V : St) (fo am : Int) (ys : Int → Int) (h w_ : Int) (hV : Iv V) (g_h : -2147483648 ≤ h ∧ h < 2147483648) (g_w_ : -2147483648 ≤ w_ ∧ w_ < 2147483648) : MP l G yX9_owed wsX9_owed rmX9_owed [.ref (ad 0), .int (J h), .int (J w_)] (fun H => MW G H ad V fo am ys) (.int (J (if (0 ≤ h ∧ h < V 0 0) ∧ 0 ≤ w_ ∧ w_ < 2 then mOw V h w_ else -1)) : Value) := by
  refine MP.of (cc := cX9_owed) (maxL := 6) (ret := (some .int)) (by decide) rfl (Nat.le_of_ble_eq_true rfl) ?_
  intro p e s m below meth c hx hb hr hml hown hts hlk hK hP ls hl
  have hown : s.vm.findClass RX9 = some m.cls := hown
  have hl : lv_has ls 6 [(0, .ref (ad 0)), (1, .int (J h)), (2, .int (J w_))] := hl
  have inX9_ : ∀ w ∈ u_ws RX9 TX9 22, w ∈ wsX9_owed := by decide +kernel
  have lk0 := hts (.fieldLink RX9 56 "RateBookModel" "billed" "[I") (by decide +kernel)
  have lk1 := hts (.fieldLink RX9 59 "RateBookModel" "payments" "[I") (by decide +kernel)
  have hM : MW G s.heap ad V fo am ys := hP
  have hn := hV.n
  have hnl := hV.l
  refine lv_aload_n hx hb dX9_owed_0 rfl (lv_at hl 0 rfl) ?_
  refine lv_iload_n hx hb dX9_owed_1 rfl (lv_at hl 1 rfl) ?_
  have ce_1 : At G s.heap (ad 0) (eO 9 [.int (J (V 0 0)), .ref (ad 1), .ref (ad 2), .ref (ad 3), .ref (ad 4), .ref (ad 5), .ref (ad 6), .ref (ad 7), .ref (ad 8), .ref (ad 9), .int (J (V 0 1)), .ref (ad 10), .ref (ad 11), .ref (ad 12), .ref (ad 13), .ref (ad 14), .ref (ad 15), .ref (ad 16), .ref (ad 17), .int (J fo), .int (J am), .ref (ad 18)]) := hM.1
  refine k_V (ci := 9) (b := ad 0) (As := [.int (J h)]) (rest := []) (v := .int (J (pI (0 ≤ h ∧ h ≤ V 0 0 - 1)))) hx hb hml hown hts hK hl.1 (c_X9_isHouse l G ad V fo am ys h hV (by omega)) (cwV 1 hts gX9_owed_X9_isHouse rfl rfl rfl (by decide +kernel) ⟨Nat.le_of_ble_eq_true rfl, Nat.le_of_ble_eq_true rfl⟩) ce_1 rfl hM rfl rfl (Nat.le_of_ble_eq_true rfl) dX9_owed_2 ⟨Nat.zero_le _, Nat.zero_le _⟩ ?_
  refine j_eqP (tgt := 17) hx hb dX9_owed_5 (by decide) (fun c5 => ?_) (fun c5 => ?_)
  · refine j_const hx hb dX9_owed_17 ?_
    exact r_i hx hb hr hlk (congrArg (fun z => Value.int (J z)) (show ((-1) : Int) = if (0 ≤ h ∧ h < V 0 0) ∧ 0 ≤ w_ ∧ w_ < 2 then mOw V h w_ else -1 from by rw [if_neg (by omega)])) dX9_owed_18
  · refine lv_iload_n hx hb dX9_owed_8 rfl (lv_at hl 2 rfl) ?_
    refine j_const hx hb dX9_owed_9 ?_
    refine j_const hx hb dX9_owed_10 ?_
    refine k_S (As := [.int (J w_), .int (J 0), .int (J 1)]) (rest := []) (v := .int (J (pI (0 ≤ w_ ∧ w_ ≤ 1)))) hx hb hml hown hts hK hl.1 (c_X9_in l G w_ 0 1 (by omega) (by omega) (by omega)) (va_cwS 3 hts gX9_owed_X9_in rfl rfl rfl (by decide +kernel) ⟨Nat.le_of_ble_eq_true rfl, Nat.le_of_ble_eq_true rfl⟩) trivial rfl rfl (Nat.le_of_ble_eq_true rfl) dX9_owed_11 ⟨Nat.zero_le _, Nat.zero_le _⟩ ?_
    refine j_neP (tgt := 19) hx hb dX9_owed_14 (by decide) (fun c14 => ?_) (fun c14 => ?_)
    · refine j_const hx hb dX9_owed_19 ?_
      refine lv_istore_n (lv' := [(3, .int (J 0)), (0, .ref (ad 0)), (1, .int (J h)), (2, .int (J w_))]) hx hb dX9_owed_20 rfl hl (by decide) rfl (fun ls hl => ?_)
      refine j_const hx hb dX9_owed_21 ?_
      refine lv_istore (lv' := [(4, .int (J 0)), (3, .int (J 0)), (0, .ref (ad 0)), (1, .int (J h)), (2, .int (J w_))]) hx hb dX9_owed_22 hl (by decide) rfl (fun ls hl => ?_)
      have lp24 : ∀ (n : Nat) (i : Int) (i0 : 0 ≤ i ∧ i ≤ 10) (hm : 10 - i < (n : Int)) (ls : Array Slot) (hl : lv_has ls 6 [(4, .int (J i)), (3, .int (J (lo (fun x o => x + (if 0 < (if w_ = 0 then mDu V h o else -mDu V h o) then (if w_ = 0 then mDu V h o else -mDu V h o) else 0)) 0 i))), (0, .ref (ad 0)), (1, .int (J h)), (2, .int (J w_))]), W p l e (headSpec wsX9_owed rmX9_owed).room s m ([.ref (ad 0), .int (J h), .int (J w_)] : List Value).toArray below meth c s.heap [] 0 0 (MQ below (k2_QcV (.int (J (if (0 ≤ h ∧ h < V 0 0) ∧ 0 ≤ w_ ∧ w_ < 2 then mOw V h w_ else -1)) : Value)) ([.ref (ad 0), .int (J h), .int (J w_)] : List Value).toArray s 0 0 (fun _ => False)) (F0 m 24 ls []) := by
        intro n
        induction n with
        | zero =>
          intro i i0 hm ls hl
          exact absurd hm (by omega)
        | succ n ih24 =>
          intro i i0 hm ls hl
          refine lv_iload hx hb dX9_owed_24 (lv_at hl 0 rfl) ?_
          refine j_bi hx hb dX9_owed_26 (by decide +kernel) ?_
          refine j_cge (tgt := 113) hx hb (by omega) (by omega) (by decide) (by decide) dX9_owed_28 (by decide) (fun c28 => ?_) (fun c28 => ?_)
          · refine lv_iload_n hx hb dX9_owed_113 rfl (lv_at hl 1 rfl) ?_
            exact r_i hx hb hr hlk (congrArg (fun z => Value.int (J z)) (show (lo (fun x o => x + (if 0 < (if w_ = 0 then mDu V h o else -mDu V h o) then (if w_ = 0 then mDu V h o else -mDu V h o) else 0)) 0 i : Int) = if (0 ≤ h ∧ h < V 0 0) ∧ 0 ≤ w_ ∧ w_ < 2 then mOw V h w_ else -1 from by rw [if_pos (by omega), show i = 10 by omega]; rfl)) dX9_owed_114
          · refine lv_aload_n hx hb dX9_owed_31 rfl (lv_at hl 2 rfl) ?_
            refine j_get (ci := 9) (v := .ref (ad 16)) hx hb hts inX9_ hown hK ce_1 rfl 17 (by decide) lk0 (fun _ h9 => h9) rfl dX9_owed_32 ?_
            refine j_bi hx hb dX9_owed_35 (by decide +kernel) ?_
            refine lv_iload_n hx hb dX9_owed_37 rfl (lv_at hl 3 rfl) ?_
            refine j_mul hx hb dX9_owed_38 ?_
            refine lv_iload hx hb dX9_owed_39 (lv_at hl 0 rfl) ?_
            refine j_add hx hb dX9_owed_41 ?_
            have ce_2 : At G s.heap (ad 16) (eI G 400 (V 16)) := (hM.2.1 16 (by decide) (by decide))
            refine j_iald hx hb hK ce_2 (by omega) (by omega) (by decide) dX9_owed_42 ?_
            have hr_3 := hV.b (i := h) (y := i) (by omega) (by omega) (by omega) (by omega)
            refine j_bi hx hb dX9_owed_43 (by decide +kernel) ?_
            refine j_cne (tgt := 52) hx hb (by omega) (by omega) (by decide) (by decide) dX9_owed_45 (by decide) (fun c45 => ?_) (fun c45 => ?_)
            · refine lv_aload_n hx hb dX9_owed_52 rfl (lv_at hl 2 rfl) ?_
              refine j_get (ci := 9) (v := .ref (ad 16)) hx hb hts inX9_ hown hK ce_1 rfl 17 (by decide) lk0 (fun _ h9 => h9) rfl dX9_owed_53 ?_
              refine j_bi hx hb dX9_owed_56 (by decide +kernel) ?_
              refine lv_iload_n hx hb dX9_owed_58 rfl (lv_at hl 3 rfl) ?_
              refine j_mul hx hb dX9_owed_59 ?_
              refine lv_iload hx hb dX9_owed_60 (lv_at hl 0 rfl) ?_
              refine j_add hx hb dX9_owed_62 ?_
              refine j_iald hx hb hK ce_2 (by omega) (by omega) (by decide) dX9_owed_63 ?_
              refine lv_aload_n hx hb dX9_owed_64 rfl (lv_at hl 2 rfl) ?_
              refine j_get (ci := 9) (v := .ref (ad 17)) hx hb hts inX9_ hown hK ce_1 rfl 18 (by decide) lk1 (fun _ h9 => h9) rfl dX9_owed_65 ?_
              refine j_bi hx hb dX9_owed_68 (by decide +kernel) ?_
              refine lv_iload_n hx hb dX9_owed_70 rfl (lv_at hl 3 rfl) ?_
              refine j_mul hx hb dX9_owed_71 ?_
              refine lv_iload hx hb dX9_owed_72 (lv_at hl 0 rfl) ?_
              refine j_add hx hb dX9_owed_74 ?_
              have ce_4 : At G s.heap (ad 17) (eI G 400 (V 17)) := (hM.2.1 17 (by decide) (by decide))
              refine j_iald hx hb hK ce_4 (by omega) (by omega) (by decide) dX9_owed_75 ?_
              refine j_sub hx hb dX9_owed_76 ?_
              refine lv_istore (lv' := [(5, .int (J (((V 16) ((10 * h) + i)) - ((V 17) ((10 * h) + i))))), (4, .int (J i)), (3, .int (J (lo (fun x o => x + (if 0 < (if w_ = 0 then mDu V h o else -mDu V h o) then (if w_ = 0 then mDu V h o else -mDu V h o) else 0)) 0 i))), (0, .ref (ad 0)), (1, .int (J h)), (2, .int (J w_))]) hx hb dX9_owed_77 hl (by decide) rfl (fun ls hl => ?_)
              refine lv_iload_n hx hb dX9_owed_79 rfl (lv_at hl 5 rfl) ?_
              refine j_ne0 (tgt := 88) hx hb (by omega) (by omega) dX9_owed_80 (by decide) (fun c80 => ?_) (fun c80 => ?_)
              · refine lv_iload hx hb dX9_owed_88 (lv_at hl 0 rfl) ?_
                refine j_neg hx hb dX9_owed_90 ?_
                refine lv_istore (lv' := [(5, .int (J (-(((V 16) ((10 * h) + i)) - ((V 17) ((10 * h) + i)))))), (4, .int (J i)), (3, .int (J (lo (fun x o => x + (if 0 < (if w_ = 0 then mDu V h o else -mDu V h o) then (if w_ = 0 then mDu V h o else -mDu V h o) else 0)) 0 i))), (0, .ref (ad 0)), (1, .int (J h)), (2, .int (J w_))]) hx hb dX9_owed_91 hl (by decide) rfl (fun ls hl => ?_)
                refine lv_iload_n hx hb dX9_owed_93 rfl (lv_at hl 2 rfl) ?_
                refine lv_iload hx hb dX9_owed_94 (lv_at hl 0 rfl) ?_
                refine j_le0 (tgt := 104) hx hb (by omega) (by omega) dX9_owed_96 (by decide) (fun c96 => ?_) (fun c96 => ?_)
                · refine j_const hx hb dX9_owed_104 ?_
                  refine j_add hx hb dX9_owed_105 ?_
                  refine lv_istore_n (lv' := [(3, .int (J ((lo (fun x o => x + (if 0 < (if w_ = 0 then mDu V h o else -mDu V h o) then (if w_ = 0 then mDu V h o else -mDu V h o) else 0)) 0 i) + 0))), (5, .int (J (-(((V 16) ((10 * h) + i)) - ((V 17) ((10 * h) + i)))))), (4, .int (J i)), (0, .ref (ad 0)), (1, .int (J h)), (2, .int (J w_))]) hx hb dX9_owed_106 rfl hl (by decide) rfl (fun ls hl => ?_)
                  refine lv_iinc (v := J (i + 1)) (lv' := [(4, .int (J (i + 1))), (3, .int (J ((lo (fun x o => x + (if 0 < (if w_ = 0 then mDu V h o else -mDu V h o) then (if w_ = 0 then mDu V h o else -mDu V h o) else 0)) 0 i) + 0))), (5, .int (J (-(((V 16) ((10 * h) + i)) - ((V 17) ((10 * h) + i)))))), (0, .ref (ad 0)), (1, .int (J h)), (2, .int (J w_))]) hx hb dX9_owed_107 hl (k := 2) rfl (J_add _ _) (by decide) rfl (fun ls hl => ?_)
                  refine lv_goto (tgt := 24) hx hb dX9_owed_110 (by decide) ?_
                  exact ih24 (i + 1) (by omega) (by omega) _ (lv_sub hl [0, 1, 3, 4, 5] (by rw [show (lo (fun x o => x + (if 0 < (if w_ = 0 then mDu V h o else -mDu V h o) then (if w_ = 0 then mDu V h o else -mDu V h o) else 0)) 0 (i + 1) : Int) = (lo (fun x o => x + (if 0 < (if w_ = 0 then mDu V h o else -mDu V h o) then (if w_ = 0 then mDu V h o else -mDu V h o) else 0)) 0 i) + 0 from (by rw [lo_s _ _ (by omega)]; (try simp only [mDu]) <;> (repeat' split) <;> first | rfl | omega | (exfalso; omega) | (exfalso; contradiction) | (exfalso; simp_all))]; try rfl))
                · refine lv_iload hx hb dX9_owed_99 (lv_at hl 0 rfl) ?_
                  refine lv_goto (tgt := 105) hx hb dX9_owed_101 (by decide) ?_
                  refine j_add hx hb dX9_owed_105 ?_
                  refine lv_istore_n (lv' := [(3, .int (J ((lo (fun x o => x + (if 0 < (if w_ = 0 then mDu V h o else -mDu V h o) then (if w_ = 0 then mDu V h o else -mDu V h o) else 0)) 0 i) + (-(((V 16) ((10 * h) + i)) - ((V 17) ((10 * h) + i))))))), (5, .int (J (-(((V 16) ((10 * h) + i)) - ((V 17) ((10 * h) + i)))))), (4, .int (J i)), (0, .ref (ad 0)), (1, .int (J h)), (2, .int (J w_))]) hx hb dX9_owed_106 rfl hl (by decide) rfl (fun ls hl => ?_)
                  refine lv_iinc (v := J (i + 1)) (lv' := [(4, .int (J (i + 1))), (3, .int (J ((lo (fun x o => x + (if 0 < (if w_ = 0 then mDu V h o else -mDu V h o) then (if w_ = 0 then mDu V h o else -mDu V h o) else 0)) 0 i) + (-(((V 16) ((10 * h) + i)) - ((V 17) ((10 * h) + i))))))), (5, .int (J (-(((V 16) ((10 * h) + i)) - ((V 17) ((10 * h) + i)))))), (0, .ref (ad 0)), (1, .int (J h)), (2, .int (J w_))]) hx hb dX9_owed_107 hl (k := 2) rfl (J_add _ _) (by decide) rfl (fun ls hl => ?_)
                  refine lv_goto (tgt := 24) hx hb dX9_owed_110 (by decide) ?_
                  exact ih24 (i + 1) (by omega) (by omega) _ (lv_sub hl [0, 1, 3, 4, 5] (by rw [show (lo (fun x o => x + (if 0 < (if w_ = 0 then mDu V h o else -mDu V h o) then (if w_ = 0 then mDu V h o else -mDu V h o) else 0)) 0 (i + 1) : Int) = (lo (fun x o => x + (if 0 < (if w_ = 0 then mDu V h o else -mDu V h o) then (if w_ = 0 then mDu V h o else -mDu V h o) else 0)) 0 i) + (-(((V 16) ((10 * h) + i)) - ((V 17) ((10 * h) + i)))) from (by rw [lo_s _ _ (by omega)]; (try simp only [mDu]) <;> (repeat' split) <;> first | rfl | omega | (exfalso; omega) | (exfalso; contradiction) | (exfalso; simp_all))]; try rfl))
              · refine lv_iload hx hb dX9_owed_83 (lv_at hl 0 rfl) ?_
                refine lv_goto (tgt := 91) hx hb dX9_owed_85 (by decide) ?_
                refine lv_istore (lv' := [(5, .int (J (((V 16) ((10 * h) + i)) - ((V 17) ((10 * h) + i))))), (4, .int (J i)), (3, .int (J (lo (fun x o => x + (if 0 < (if w_ = 0 then mDu V h o else -mDu V h o) then (if w_ = 0 then mDu V h o else -mDu V h o) else 0)) 0 i))), (0, .ref (ad 0)), (1, .int (J h)), (2, .int (J w_))]) hx hb dX9_owed_91 hl (by decide) rfl (fun ls hl => ?_)
                refine lv_iload_n hx hb dX9_owed_93 rfl (lv_at hl 2 rfl) ?_
                refine lv_iload hx hb dX9_owed_94 (lv_at hl 0 rfl) ?_
                refine j_le0 (tgt := 104) hx hb (by omega) (by omega) dX9_owed_96 (by decide) (fun c96 => ?_) (fun c96 => ?_)
                · refine j_const hx hb dX9_owed_104 ?_
                  refine j_add hx hb dX9_owed_105 ?_
                  refine lv_istore_n (lv' := [(3, .int (J ((lo (fun x o => x + (if 0 < (if w_ = 0 then mDu V h o else -mDu V h o) then (if w_ = 0 then mDu V h o else -mDu V h o) else 0)) 0 i) + 0))), (5, .int (J (((V 16) ((10 * h) + i)) - ((V 17) ((10 * h) + i))))), (4, .int (J i)), (0, .ref (ad 0)), (1, .int (J h)), (2, .int (J w_))]) hx hb dX9_owed_106 rfl hl (by decide) rfl (fun ls hl => ?_)
                  refine lv_iinc (v := J (i + 1)) (lv' := [(4, .int (J (i + 1))), (3, .int (J ((lo (fun x o => x + (if 0 < (if w_ = 0 then mDu V h o else -mDu V h o) then (if w_ = 0 then mDu V h o else -mDu V h o) else 0)) 0 i) + 0))), (5, .int (J (((V 16) ((10 * h) + i)) - ((V 17) ((10 * h) + i))))), (0, .ref (ad 0)), (1, .int (J h)), (2, .int (J w_))]) hx hb dX9_owed_107 hl (k := 2) rfl (J_add _ _) (by decide) rfl (fun ls hl => ?_)
                  refine lv_goto (tgt := 24) hx hb dX9_owed_110 (by decide) ?_
                  exact ih24 (i + 1) (by omega) (by omega) _ (lv_sub hl [0, 1, 3, 4, 5] (by rw [show (lo (fun x o => x + (if 0 < (if w_ = 0 then mDu V h o else -mDu V h o) then (if w_ = 0 then mDu V h o else -mDu V h o) else 0)) 0 (i + 1) : Int) = (lo (fun x o => x + (if 0 < (if w_ = 0 then mDu V h o else -mDu V h o) then (if w_ = 0 then mDu V h o else -mDu V h o) else 0)) 0 i) + 0 from (by rw [lo_s _ _ (by omega)]; (try simp only [mDu]) <;> (repeat' split) <;> first | rfl | omega | (exfalso; omega) | (exfalso; contradiction) | (exfalso; simp_all))]; try rfl))
                · refine lv_iload hx hb dX9_owed_99 (lv_at hl 0 rfl) ?_
                  refine lv_goto (tgt := 105) hx hb dX9_owed_101 (by decide) ?_
                  refine j_add hx hb dX9_owed_105 ?_
                  refine lv_istore_n (lv' := [(3, .int (J ((lo (fun x o => x + (if 0 < (if w_ = 0 then mDu V h o else -mDu V h o) then (if w_ = 0 then mDu V h o else -mDu V h o) else 0)) 0 i) + (((V 16) ((10 * h) + i)) - ((V 17) ((10 * h) + i)))))), (5, .int (J (((V 16) ((10 * h) + i)) - ((V 17) ((10 * h) + i))))), (4, .int (J i)), (0, .ref (ad 0)), (1, .int (J h)), (2, .int (J w_))]) hx hb dX9_owed_106 rfl hl (by decide) rfl (fun ls hl => ?_)
                  refine lv_iinc (v := J (i + 1)) (lv' := [(4, .int (J (i + 1))), (3, .int (J ((lo (fun x o => x + (if 0 < (if w_ = 0 then mDu V h o else -mDu V h o) then (if w_ = 0 then mDu V h o else -mDu V h o) else 0)) 0 i) + (((V 16) ((10 * h) + i)) - ((V 17) ((10 * h) + i)))))), (5, .int (J (((V 16) ((10 * h) + i)) - ((V 17) ((10 * h) + i))))), (0, .ref (ad 0)), (1, .int (J h)), (2, .int (J w_))]) hx hb dX9_owed_107 hl (k := 2) rfl (J_add _ _) (by decide) rfl (fun ls hl => ?_)
                  refine lv_goto (tgt := 24) hx hb dX9_owed_110 (by decide) ?_
                  exact ih24 (i + 1) (by omega) (by omega) _ (lv_sub hl [0, 1, 3, 4, 5] (by rw [show (lo (fun x o => x + (if 0 < (if w_ = 0 then mDu V h o else -mDu V h o) then (if w_ = 0 then mDu V h o else -mDu V h o) else 0)) 0 (i + 1) : Int) = (lo (fun x o => x + (if 0 < (if w_ = 0 then mDu V h o else -mDu V h o) then (if w_ = 0 then mDu V h o else -mDu V h o) else 0)) 0 i) + (((V 16) ((10 * h) + i)) - ((V 17) ((10 * h) + i))) from (by rw [lo_s _ _ (by omega)]; (try simp only [mDu]) <;> (repeat' split) <;> first | rfl | omega | (exfalso; omega) | (exfalso; contradiction) | (exfalso; simp_all))]; try rfl))
            · refine j_const hx hb dX9_owed_48 ?_
              refine lv_goto (tgt := 77) hx hb dX9_owed_49 (by decide) ?_
              refine lv_istore (lv' := [(5, .int (J 0)), (4, .int (J i)), (3, .int (J (lo (fun x o => x + (if 0 < (if w_ = 0 then mDu V h o else -mDu V h o) then (if w_ = 0 then mDu V h o else -mDu V h o) else 0)) 0 i))), (0, .ref (ad 0)), (1, .int (J h)), (2, .int (J w_))]) hx hb dX9_owed_77 hl (by decide) rfl (fun ls hl => ?_)
              refine lv_iload_n hx hb dX9_owed_79 rfl (lv_at hl 5 rfl) ?_
              refine j_ne0 (tgt := 88) hx hb (by omega) (by omega) dX9_owed_80 (by decide) (fun c80 => ?_) (fun c80 => ?_)
              · refine lv_iload hx hb dX9_owed_88 (lv_at hl 0 rfl) ?_
                refine j_neg hx hb dX9_owed_90 ?_
                refine lv_istore (lv' := [(5, .int (J (-0))), (4, .int (J i)), (3, .int (J (lo (fun x o => x + (if 0 < (if w_ = 0 then mDu V h o else -mDu V h o) then (if w_ = 0 then mDu V h o else -mDu V h o) else 0)) 0 i))), (0, .ref (ad 0)), (1, .int (J h)), (2, .int (J w_))]) hx hb dX9_owed_91 hl (by decide) rfl (fun ls hl => ?_)
                refine lv_iload_n hx hb dX9_owed_93 rfl (lv_at hl 2 rfl) ?_
                refine lv_iload hx hb dX9_owed_94 (lv_at hl 0 rfl) ?_
                refine j_le0 (tgt := 104) hx hb (by decide) (by decide) dX9_owed_96 (by decide) (fun c96 => ?_) (fun c96 => absurd c96 (by decide))
                refine j_const hx hb dX9_owed_104 ?_
                refine j_add hx hb dX9_owed_105 ?_
                refine lv_istore_n (lv' := [(3, .int (J ((lo (fun x o => x + (if 0 < (if w_ = 0 then mDu V h o else -mDu V h o) then (if w_ = 0 then mDu V h o else -mDu V h o) else 0)) 0 i) + 0))), (5, .int (J (-0))), (4, .int (J i)), (0, .ref (ad 0)), (1, .int (J h)), (2, .int (J w_))]) hx hb dX9_owed_106 rfl hl (by decide) rfl (fun ls hl => ?_)
                refine lv_iinc (v := J (i + 1)) (lv' := [(4, .int (J (i + 1))), (3, .int (J ((lo (fun x o => x + (if 0 < (if w_ = 0 then mDu V h o else -mDu V h o) then (if w_ = 0 then mDu V h o else -mDu V h o) else 0)) 0 i) + 0))), (5, .int (J (-0))), (0, .ref (ad 0)), (1, .int (J h)), (2, .int (J w_))]) hx hb dX9_owed_107 hl (k := 2) rfl (J_add _ _) (by decide) rfl (fun ls hl => ?_)
                refine lv_goto (tgt := 24) hx hb dX9_owed_110 (by decide) ?_
                exact ih24 (i + 1) (by omega) (by omega) _ (lv_sub hl [0, 1, 3, 4, 5] (by rw [show (lo (fun x o => x + (if 0 < (if w_ = 0 then mDu V h o else -mDu V h o) then (if w_ = 0 then mDu V h o else -mDu V h o) else 0)) 0 (i + 1) : Int) = (lo (fun x o => x + (if 0 < (if w_ = 0 then mDu V h o else -mDu V h o) then (if w_ = 0 then mDu V h o else -mDu V h o) else 0)) 0 i) + 0 from (by rw [lo_s _ _ (by omega)]; (try simp only [mDu]) <;> (repeat' split) <;> first | rfl | omega | (exfalso; omega) | (exfalso; contradiction) | (exfalso; simp_all))]; try rfl))
              · refine lv_iload hx hb dX9_owed_83 (lv_at hl 0 rfl) ?_
                refine lv_goto (tgt := 91) hx hb dX9_owed_85 (by decide) ?_
                refine lv_istore (lv' := [(5, .int (J 0)), (4, .int (J i)), (3, .int (J (lo (fun x o => x + (if 0 < (if w_ = 0 then mDu V h o else -mDu V h o) then (if w_ = 0 then mDu V h o else -mDu V h o) else 0)) 0 i))), (0, .ref (ad 0)), (1, .int (J h)), (2, .int (J w_))]) hx hb dX9_owed_91 hl (by decide) rfl (fun ls hl => ?_)
                refine lv_iload_n hx hb dX9_owed_93 rfl (lv_at hl 2 rfl) ?_
                refine lv_iload hx hb dX9_owed_94 (lv_at hl 0 rfl) ?_
                refine j_le0 (tgt := 104) hx hb (by decide) (by decide) dX9_owed_96 (by decide) (fun c96 => ?_) (fun c96 => absurd c96 (by decide))
                refine j_const hx hb dX9_owed_104 ?_
                refine j_add hx hb dX9_owed_105 ?_
                refine lv_istore_n (lv' := [(3, .int (J ((lo (fun x o => x + (if 0 < (if w_ = 0 then mDu V h o else -mDu V h o) then (if w_ = 0 then mDu V h o else -mDu V h o) else 0)) 0 i) + 0))), (5, .int (J 0)), (4, .int (J i)), (0, .ref (ad 0)), (1, .int (J h)), (2, .int (J w_))]) hx hb dX9_owed_106 rfl hl (by decide) rfl (fun ls hl => ?_)
                refine lv_iinc (v := J (i + 1)) (lv' := [(4, .int (J (i + 1))), (3, .int (J ((lo (fun x o => x + (if 0 < (if w_ = 0 then mDu V h o else -mDu V h o) then (if w_ = 0 then mDu V h o else -mDu V h o) else 0)) 0 i) + 0))), (5, .int (J 0)), (0, .ref (ad 0)), (1, .int (J h)), (2, .int (J w_))]) hx hb dX9_owed_107 hl (k := 2) rfl (J_add _ _) (by decide) rfl (fun ls hl => ?_)
                refine lv_goto (tgt := 24) hx hb dX9_owed_110 (by decide) ?_
                exact ih24 (i + 1) (by omega) (by omega) _ (lv_sub hl [0, 1, 3, 4, 5] (by rw [show (lo (fun x o => x + (if 0 < (if w_ = 0 then mDu V h o else -mDu V h o) then (if w_ = 0 then mDu V h o else -mDu V h o) else 0)) 0 (i + 1) : Int) = (lo (fun x o => x + (if 0 < (if w_ = 0 then mDu V h o else -mDu V h o) then (if w_ = 0 then mDu V h o else -mDu V h o) else 0)) 0 i) + 0 from (by rw [lo_s _ _ (by omega)]; (try simp only [mDu]) <;> (repeat' split) <;> first | rfl | omega | (exfalso; omega) | (exfalso; contradiction) | (exfalso; simp_all))]; try rfl))
      exact lp24 11 0 (by omega) (by omega) _ (lv_sub hl [0, 1, 2, 3, 4] (by rw [show (lo (fun x o => x + (if 0 < (if w_ = 0 then mDu V h o else -mDu V h o) then (if w_ = 0 then mDu V h o else -mDu V h o) else 0)) 0 0 : Int) = 0 from (by rfl)]; try rfl))
    · refine j_const hx hb dX9_owed_17 ?_
      exact r_i hx hb hr hlk (congrArg (fun z => Value.int (J z)) (show ((-1) : Int) = if (0 ≤ h ∧ h < V 0 0) ∧ 0 ≤ w_ ∧ w_ < 2 then mOw V h w_ else -1 from by rw [if_neg (by omega)])) dX9_owed_18

abbrev rmX9_ward : Room := { frames := 2, cells := 0, slots := 0, locals := 42 }
set_option maxHeartbeats 4000000 in
set_option maxRecDepth 100000 in
theorem c_X9_ward (l : Launch) (G : GG) (ad : Nat → Nat) (V : St) (fo am : Int) (ys : Int → Int) (w_ y k : Int) (hV : Iv V) (g_w_ : -2147483648 ≤ w_ ∧ w_ < 2147483648) (g_y : -2147483648 ≤ y ∧ y < 2147483648) (g_k : -2147483648 ≤ k ∧ k < 2147483648) : MP l G yX9_ward wsX9_ward rmX9_ward [.ref (ad 0), .int (J w_), .int (J y), .int (J k)] (fun H => MW G H ad V fo am ys) (.int (J (if (-1 ≤ w_ ∧ w_ ≤ 3) ∧ (0 ≤ y ∧ y < 10) ∧ 0 ≤ k ∧ k < 4 then (if V 13 y = 0 then -2 else if k ≤ 1 then mWa V w_ y k else if k = 2 then V 14 y else V 15 y) else -1)) : Value) := by
  refine MP.of (cc := cX9_ward) (maxL := 8) (ret := (some .int)) (by decide) rfl (Nat.le_of_ble_eq_true rfl) ?_
  intro p e s m below meth c hx hb hr hml hown hts hlk hK hP ls hl
  have hown : s.vm.findClass RX9 = some m.cls := hown
  have hl : lv_has ls 8 [(0, .ref (ad 0)), (1, .int (J w_)), (2, .int (J y)), (3, .int (J k))] := hl
  have inX9_ : ∀ w ∈ u_ws RX9 TX9 22, w ∈ wsX9_ward := by decide +kernel
  have lk0 := hts (.fieldLink RX9 46 "RateBookModel" "isStruck" "[Z") (by decide +kernel)
  have lk1 := hts (.fieldLink RX9 66 "RateBookModel" "houses" "I") (by decide +kernel)
  have lk2 := hts (.fieldLink RX9 56 "RateBookModel" "billed" "[I") (by decide +kernel)
  have lk3 := hts (.fieldLink RX9 59 "RateBookModel" "payments" "[I") (by decide +kernel)
  have lk4 := hts (.fieldLink RX9 7 "RateBookModel" "ward" "[I") (by decide +kernel)
  have lk5 := hts (.fieldLink RX9 53 "RateBookModel" "needed" "[I") (by decide +kernel)
  have lk6 := hts (.fieldLink RX9 50 "RateBookModel" "poundages" "[I") (by decide +kernel)
  have hM : MW G s.heap ad V fo am ys := hP
  have hn := hV.n
  have hnl := hV.l
  refine lv_iload_n hx hb dX9_ward_0 rfl (lv_at hl 1 rfl) ?_
  refine j_const hx hb dX9_ward_1 ?_
  refine j_const hx hb dX9_ward_2 ?_
  refine k_S (As := [.int (J w_), .int (J (-1)), .int (J 3)]) (rest := []) (v := .int (J (pI ((-1) ≤ w_ ∧ w_ ≤ 3)))) hx hb hml hown hts hK hl.1 (c_X9_in l G w_ (-1) 3 (by omega) (by omega) (by omega)) (va_cwS 3 hts gX9_ward_X9_in rfl rfl rfl (by decide +kernel) ⟨Nat.le_of_ble_eq_true rfl, Nat.le_of_ble_eq_true rfl⟩) trivial rfl rfl (Nat.le_of_ble_eq_true rfl) dX9_ward_3 ⟨Nat.zero_le _, Nat.zero_le _⟩ ?_
  refine j_eqP (tgt := 25) hx hb dX9_ward_6 (by decide) (fun c6 => ?_) (fun c6 => ?_)
  · refine j_const hx hb dX9_ward_25 ?_
    exact r_i hx hb hr hlk (congrArg (fun z => Value.int (J z)) (show ((-1) : Int) = if (-1 ≤ w_ ∧ w_ ≤ 3) ∧ (0 ≤ y ∧ y < 10) ∧ 0 ≤ k ∧ k < 4 then (if V 13 y = 0 then -2 else if k ≤ 1 then mWa V w_ y k else if k = 2 then V 14 y else V 15 y) else -1 from by rw [if_neg (by omega)])) dX9_ward_26
  · refine lv_iload_n hx hb dX9_ward_9 rfl (lv_at hl 2 rfl) ?_
    refine k_S (As := [.int (J y)]) (rest := []) (v := .int (J (pI (0 ≤ y ∧ y ≤ 9)))) hx hb hml hown hts hK hl.1 (c_X9_isYear l G y (by omega)) (va_cwS 1 hts gX9_ward_X9_isYear rfl rfl rfl (by decide +kernel) ⟨Nat.le_of_ble_eq_true rfl, Nat.le_of_ble_eq_true rfl⟩) trivial rfl rfl (Nat.le_of_ble_eq_true rfl) dX9_ward_10 ⟨Nat.zero_le _, Nat.zero_le _⟩ ?_
    refine j_eqP (tgt := 25) hx hb dX9_ward_13 (by decide) (fun c13 => ?_) (fun c13 => ?_)
    · refine j_const hx hb dX9_ward_25 ?_
      exact r_i hx hb hr hlk (congrArg (fun z => Value.int (J z)) (show ((-1) : Int) = if (-1 ≤ w_ ∧ w_ ≤ 3) ∧ (0 ≤ y ∧ y < 10) ∧ 0 ≤ k ∧ k < 4 then (if V 13 y = 0 then -2 else if k ≤ 1 then mWa V w_ y k else if k = 2 then V 14 y else V 15 y) else -1 from by rw [if_neg (by omega)])) dX9_ward_26
    · refine lv_iload_n hx hb dX9_ward_16 rfl (lv_at hl 3 rfl) ?_
      refine j_const hx hb dX9_ward_17 ?_
      refine j_const hx hb dX9_ward_18 ?_
      refine k_S (As := [.int (J k), .int (J 0), .int (J 3)]) (rest := []) (v := .int (J (pI (0 ≤ k ∧ k ≤ 3)))) hx hb hml hown hts hK hl.1 (c_X9_in l G k 0 3 (by omega) (by omega) (by omega)) (va_cwS 3 hts gX9_ward_X9_in rfl rfl rfl (by decide +kernel) ⟨Nat.le_of_ble_eq_true rfl, Nat.le_of_ble_eq_true rfl⟩) trivial rfl rfl (Nat.le_of_ble_eq_true rfl) dX9_ward_19 ⟨Nat.zero_le _, Nat.zero_le _⟩ ?_
      refine j_neP (tgt := 27) hx hb dX9_ward_22 (by decide) (fun c22 => ?_) (fun c22 => ?_)
      · refine lv_aload_n hx hb dX9_ward_27 rfl (lv_at hl 0 rfl) ?_
        have ce_1 : At G s.heap (ad 0) (eO 9 [.int (J (V 0 0)), .ref (ad 1), .ref (ad 2), .ref (ad 3), .ref (ad 4), .ref (ad 5), .ref (ad 6), .ref (ad 7), .ref (ad 8), .ref (ad 9), .int (J (V 0 1)), .ref (ad 10), .ref (ad 11), .ref (ad 12), .ref (ad 13), .ref (ad 14), .ref (ad 15), .ref (ad 16), .ref (ad 17), .int (J fo), .int (J am), .ref (ad 18)]) := hM.1
        refine j_get (ci := 9) (v := .ref (ad 13)) hx hb hts inX9_ hown hK ce_1 rfl 14 (by decide) lk0 (fun _ h9 => h9) rfl dX9_ward_28 ?_
        refine lv_iload_n hx hb dX9_ward_31 rfl (lv_at hl 2 rfl) ?_
        have ce_2 : At G s.heap (ad 13) (eZ G 10 (V 13)) := (hM.2.1 13 (by decide) (by decide))
        refine j_zald hx hb hK ce_2 (by omega) (by omega) (by decide) dX9_ward_32 ?_
        have hr_3 := hV.y (y := y) (by omega) (by omega)
        refine j_ne0 (tgt := 39) hx hb (by omega) (by omega) dX9_ward_33 (by decide) (fun c33 => ?_) (fun c33 => ?_)
        · refine lv_iload_n hx hb dX9_ward_39 rfl (lv_at hl 3 rfl) ?_
          refine j_const hx hb dX9_ward_40 ?_
          refine j_cle (tgt := 65) hx hb (by omega) (by omega) (by decide) (by decide) dX9_ward_41 (by decide) (fun c41 => ?_) (fun c41 => ?_)
          · refine j_const hx hb dX9_ward_65 ?_
            refine lv_istore (lv' := [(4, .int (J 0)), (0, .ref (ad 0)), (1, .int (J w_)), (2, .int (J y)), (3, .int (J k))]) hx hb dX9_ward_66 hl (by decide) rfl (fun ls hl => ?_)
            refine j_const hx hb dX9_ward_68 ?_
            refine lv_istore (lv' := [(5, .int (J 0)), (4, .int (J 0)), (0, .ref (ad 0)), (1, .int (J w_)), (2, .int (J y)), (3, .int (J k))]) hx hb dX9_ward_69 hl (by decide) rfl (fun ls hl => ?_)
            have lp71 : ∀ (n : Nat) (i : Int) (i0 : 0 ≤ i ∧ i ≤ V 0 0) (hm : V 0 0 - i < (n : Int)) (ls : Array Slot) (hl : lv_has ls 8 [(5, .int (J i)), (4, .int (J (lo (fun x o => x + (if w_ = -1 ∨ V 1 o = w_ then (if k = 1 then V 17 (10 * o + y) else if V 16 (10 * o + y) = -4 then 0 else V 16 (10 * o + y)) else 0)) 0 i))), (0, .ref (ad 0)), (1, .int (J w_)), (2, .int (J y)), (3, .int (J k))]), W p l e (headSpec wsX9_ward rmX9_ward).room s m ([.ref (ad 0), .int (J w_), .int (J y), .int (J k)] : List Value).toArray below meth c s.heap [] 0 0 (MQ below (k2_QcV (.int (J (if (-1 ≤ w_ ∧ w_ ≤ 3) ∧ (0 ≤ y ∧ y < 10) ∧ 0 ≤ k ∧ k < 4 then (if V 13 y = 0 then -2 else if k ≤ 1 then mWa V w_ y k else if k = 2 then V 14 y else V 15 y) else -1)) : Value)) ([.ref (ad 0), .int (J w_), .int (J y), .int (J k)] : List Value).toArray s 0 0 (fun _ => False)) (F0 m 71 ls []) := by
              intro n
              induction n with
              | zero =>
                intro i i0 hm ls hl
                exact absurd hm (by omega)
              | succ n ih71 =>
                intro i i0 hm ls hl
                refine lv_iload hx hb dX9_ward_71 (lv_at hl 0 rfl) ?_
                refine lv_aload_n hx hb dX9_ward_73 rfl (lv_at hl 2 rfl) ?_
                refine j_get (ci := 9) (v := .int (J (V 0 0))) hx hb hts inX9_ hown hK ce_1 rfl 0 (by decide) lk1 (fun _ h9 => h9) rfl dX9_ward_74 ?_
                refine j_cge (tgt := 179) hx hb (by omega) (by omega) (by omega) (by omega) dX9_ward_77 (by decide) (fun c77 => ?_) (fun c77 => ?_)
                · refine lv_iload hx hb dX9_ward_179 (lv_at hl 1 rfl) ?_
                  exact r_i hx hb hr hlk (congrArg (fun z => Value.int (J z)) (show (lo (fun x o => x + (if w_ = -1 ∨ V 1 o = w_ then (if k = 1 then V 17 (10 * o + y) else if V 16 (10 * o + y) = -4 then 0 else V 16 (10 * o + y)) else 0)) 0 i : Int) = if (-1 ≤ w_ ∧ w_ ≤ 3) ∧ (0 ≤ y ∧ y < 10) ∧ 0 ≤ k ∧ k < 4 then (if V 13 y = 0 then -2 else if k ≤ 1 then mWa V w_ y k else if k = 2 then V 14 y else V 15 y) else -1 from by rw [if_pos (by omega), if_neg (by omega), if_pos (by omega), show i = V 0 0 by omega]; rfl)) dX9_ward_181
                · refine lv_iload_n hx hb dX9_ward_80 rfl (lv_at hl 3 rfl) ?_
                  refine j_lt0 (tgt := 95) hx hb (by omega) (by omega) dX9_ward_81 (by decide) (fun c81 => ?_) (fun c81 => ?_)
                  · refine j_const hx hb dX9_ward_95 ?_
                    refine lv_goto (tgt := 100) hx hb dX9_ward_96 (by decide) ?_
                    refine lv_istore (lv' := [(6, .int (J 1)), (5, .int (J i)), (4, .int (J (lo (fun x o => x + (if w_ = -1 ∨ V 1 o = w_ then (if k = 1 then V 17 (10 * o + y) else if V 16 (10 * o + y) = -4 then 0 else V 16 (10 * o + y)) else 0)) 0 i))), (0, .ref (ad 0)), (1, .int (J w_)), (2, .int (J y)), (3, .int (J k))]) hx hb dX9_ward_100 hl (by decide) rfl (fun ls hl => ?_)
                    refine lv_iload_n hx hb dX9_ward_102 rfl (lv_at hl 6 rfl) ?_
                    refine j_const hx hb dX9_ward_103 ?_
                    refine j_cne (tgt := 122) hx hb (by omega) (by omega) (by decide) (by decide) dX9_ward_104 (by decide) (fun c104 => ?_) (fun c104 => ?_)
                    · refine lv_aload_n hx hb dX9_ward_122 rfl (lv_at hl 3 rfl) ?_
                      refine j_get (ci := 9) (v := .ref (ad 16)) hx hb hts inX9_ hown hK ce_1 rfl 17 (by decide) lk2 (fun _ h9 => h9) rfl dX9_ward_123 ?_
                      refine j_bi hx hb dX9_ward_126 (by decide +kernel) ?_
                      refine lv_iload hx hb dX9_ward_128 (lv_at hl 1 rfl) ?_
                      refine j_mul hx hb dX9_ward_130 ?_
                      refine lv_iload_n hx hb dX9_ward_131 rfl (lv_at hl 5 rfl) ?_
                      refine j_add hx hb dX9_ward_132 ?_
                      have ce_4 : At G s.heap (ad 16) (eI G 400 (V 16)) := (hM.2.1 16 (by decide) (by decide))
                      refine j_iald hx hb hK ce_4 (by omega) (by omega) (by decide) dX9_ward_133 ?_
                      have hr_5 := hV.b (i := i) (y := y) (by omega) (by omega) (by omega) (by omega)
                      refine j_bi hx hb dX9_ward_134 (by decide +kernel) ?_
                      refine j_cne (tgt := 143) hx hb (by omega) (by omega) (by decide) (by decide) dX9_ward_136 (by decide) (fun c136 => ?_) (fun c136 => ?_)
                      · refine lv_aload_n hx hb dX9_ward_143 rfl (lv_at hl 3 rfl) ?_
                        refine j_get (ci := 9) (v := .ref (ad 16)) hx hb hts inX9_ hown hK ce_1 rfl 17 (by decide) lk2 (fun _ h9 => h9) rfl dX9_ward_144 ?_
                        refine j_bi hx hb dX9_ward_147 (by decide +kernel) ?_
                        refine lv_iload hx hb dX9_ward_149 (lv_at hl 1 rfl) ?_
                        refine j_mul hx hb dX9_ward_151 ?_
                        refine lv_iload_n hx hb dX9_ward_152 rfl (lv_at hl 5 rfl) ?_
                        refine j_add hx hb dX9_ward_153 ?_
                        refine j_iald hx hb hK ce_4 (by omega) (by omega) (by decide) dX9_ward_154 ?_
                        refine lv_istore (lv' := [(7, .int (J ((V 16) ((10 * i) + y)))), (6, .int (J 1)), (5, .int (J i)), (4, .int (J (lo (fun x o => x + (if w_ = -1 ∨ V 1 o = w_ then (if k = 1 then V 17 (10 * o + y) else if V 16 (10 * o + y) = -4 then 0 else V 16 (10 * o + y)) else 0)) 0 i))), (0, .ref (ad 0)), (1, .int (J w_)), (2, .int (J y)), (3, .int (J k))]) hx hb dX9_ward_155 hl (by decide) rfl (fun ls hl => ?_)
                        refine lv_iload hx hb dX9_ward_157 (lv_at hl 3 rfl) ?_
                        refine lv_iload hx hb dX9_ward_159 (lv_at hl 1 rfl) ?_
                        refine j_eq0 (tgt := 169) hx hb (by decide) (by decide) dX9_ward_161 (by decide) (fun c161 => absurd c161 (by decide)) (fun c161 => ?_)
                        refine lv_iload hx hb dX9_ward_164 (lv_at hl 0 rfl) ?_
                        refine lv_goto (tgt := 170) hx hb dX9_ward_166 (by decide) ?_
                        refine j_add hx hb dX9_ward_170 ?_
                        refine lv_istore (lv' := [(4, .int (J ((lo (fun x o => x + (if w_ = -1 ∨ V 1 o = w_ then (if k = 1 then V 17 (10 * o + y) else if V 16 (10 * o + y) = -4 then 0 else V 16 (10 * o + y)) else 0)) 0 i) + ((V 16) ((10 * i) + y))))), (7, .int (J ((V 16) ((10 * i) + y)))), (6, .int (J 1)), (5, .int (J i)), (0, .ref (ad 0)), (1, .int (J w_)), (2, .int (J y)), (3, .int (J k))]) hx hb dX9_ward_171 hl (by decide) rfl (fun ls hl => ?_)
                        refine lv_iinc (v := J (i + 1)) (lv' := [(5, .int (J (i + 1))), (4, .int (J ((lo (fun x o => x + (if w_ = -1 ∨ V 1 o = w_ then (if k = 1 then V 17 (10 * o + y) else if V 16 (10 * o + y) = -4 then 0 else V 16 (10 * o + y)) else 0)) 0 i) + ((V 16) ((10 * i) + y))))), (7, .int (J ((V 16) ((10 * i) + y)))), (6, .int (J 1)), (0, .ref (ad 0)), (1, .int (J w_)), (2, .int (J y)), (3, .int (J k))]) hx hb dX9_ward_173 hl (k := 3) rfl (J_add _ _) (by decide) rfl (fun ls hl => ?_)
                        refine lv_goto (tgt := 71) hx hb dX9_ward_176 (by decide) ?_
                        exact ih71 (i + 1) (by omega) (by omega) _ (lv_sub hl [0, 1, 4, 5, 6, 7] (by rw [show (lo (fun x o => x + (if w_ = -1 ∨ V 1 o = w_ then (if k = 1 then V 17 (10 * o + y) else if V 16 (10 * o + y) = -4 then 0 else V 16 (10 * o + y)) else 0)) 0 (i + 1) : Int) = (lo (fun x o => x + (if w_ = -1 ∨ V 1 o = w_ then (if k = 1 then V 17 (10 * o + y) else if V 16 (10 * o + y) = -4 then 0 else V 16 (10 * o + y)) else 0)) 0 i) + ((V 16) ((10 * i) + y)) from (by rw [lo_s _ _ (by omega)]; (try simp only [ge_iff_le]) <;> (repeat' split) <;> first | rfl | omega | (exfalso; omega) | (exfalso; contradiction) | (exfalso; simp_all))]; try rfl))
                      · refine j_const hx hb dX9_ward_139 ?_
                        refine lv_goto (tgt := 155) hx hb dX9_ward_140 (by decide) ?_
                        refine lv_istore (lv' := [(7, .int (J 0)), (6, .int (J 1)), (5, .int (J i)), (4, .int (J (lo (fun x o => x + (if w_ = -1 ∨ V 1 o = w_ then (if k = 1 then V 17 (10 * o + y) else if V 16 (10 * o + y) = -4 then 0 else V 16 (10 * o + y)) else 0)) 0 i))), (0, .ref (ad 0)), (1, .int (J w_)), (2, .int (J y)), (3, .int (J k))]) hx hb dX9_ward_155 hl (by decide) rfl (fun ls hl => ?_)
                        refine lv_iload hx hb dX9_ward_157 (lv_at hl 3 rfl) ?_
                        refine lv_iload hx hb dX9_ward_159 (lv_at hl 1 rfl) ?_
                        refine j_eq0 (tgt := 169) hx hb (by decide) (by decide) dX9_ward_161 (by decide) (fun c161 => absurd c161 (by decide)) (fun c161 => ?_)
                        refine lv_iload hx hb dX9_ward_164 (lv_at hl 0 rfl) ?_
                        refine lv_goto (tgt := 170) hx hb dX9_ward_166 (by decide) ?_
                        refine j_add hx hb dX9_ward_170 ?_
                        refine lv_istore (lv' := [(4, .int (J ((lo (fun x o => x + (if w_ = -1 ∨ V 1 o = w_ then (if k = 1 then V 17 (10 * o + y) else if V 16 (10 * o + y) = -4 then 0 else V 16 (10 * o + y)) else 0)) 0 i) + 0))), (7, .int (J 0)), (6, .int (J 1)), (5, .int (J i)), (0, .ref (ad 0)), (1, .int (J w_)), (2, .int (J y)), (3, .int (J k))]) hx hb dX9_ward_171 hl (by decide) rfl (fun ls hl => ?_)
                        refine lv_iinc (v := J (i + 1)) (lv' := [(5, .int (J (i + 1))), (4, .int (J ((lo (fun x o => x + (if w_ = -1 ∨ V 1 o = w_ then (if k = 1 then V 17 (10 * o + y) else if V 16 (10 * o + y) = -4 then 0 else V 16 (10 * o + y)) else 0)) 0 i) + 0))), (7, .int (J 0)), (6, .int (J 1)), (0, .ref (ad 0)), (1, .int (J w_)), (2, .int (J y)), (3, .int (J k))]) hx hb dX9_ward_173 hl (k := 3) rfl (J_add _ _) (by decide) rfl (fun ls hl => ?_)
                        refine lv_goto (tgt := 71) hx hb dX9_ward_176 (by decide) ?_
                        exact ih71 (i + 1) (by omega) (by omega) _ (lv_sub hl [0, 1, 4, 5, 6, 7] (by rw [show (lo (fun x o => x + (if w_ = -1 ∨ V 1 o = w_ then (if k = 1 then V 17 (10 * o + y) else if V 16 (10 * o + y) = -4 then 0 else V 16 (10 * o + y)) else 0)) 0 (i + 1) : Int) = (lo (fun x o => x + (if w_ = -1 ∨ V 1 o = w_ then (if k = 1 then V 17 (10 * o + y) else if V 16 (10 * o + y) = -4 then 0 else V 16 (10 * o + y)) else 0)) 0 i) + 0 from (by rw [lo_s _ _ (by omega)]; (try simp only [ge_iff_le]) <;> (repeat' split) <;> first | rfl | omega | (exfalso; omega) | (exfalso; contradiction) | (exfalso; simp_all))]; try rfl))
                    · refine lv_aload_n hx hb dX9_ward_107 rfl (lv_at hl 3 rfl) ?_
                      refine j_get (ci := 9) (v := .ref (ad 17)) hx hb hts inX9_ hown hK ce_1 rfl 18 (by decide) lk3 (fun _ h9 => h9) rfl dX9_ward_108 ?_
                      refine j_bi hx hb dX9_ward_111 (by decide +kernel) ?_
                      refine lv_iload hx hb dX9_ward_113 (lv_at hl 1 rfl) ?_
                      refine j_mul hx hb dX9_ward_115 ?_
                      refine lv_iload_n hx hb dX9_ward_116 rfl (lv_at hl 5 rfl) ?_
                      refine j_add hx hb dX9_ward_117 ?_
                      have ce_6 : At G s.heap (ad 17) (eI G 400 (V 17)) := (hM.2.1 17 (by decide) (by decide))
                      refine j_iald hx hb hK ce_6 (by omega) (by omega) (by decide) dX9_ward_118 ?_
                      have hr_7 := hV.b (i := i) (y := y) (by omega) (by omega) (by omega) (by omega)
                      refine lv_goto (tgt := 155) hx hb dX9_ward_119 (by decide) ?_
                      refine lv_istore (lv' := [(7, .int (J ((V 17) ((10 * i) + y)))), (6, .int (J 1)), (5, .int (J i)), (4, .int (J (lo (fun x o => x + (if w_ = -1 ∨ V 1 o = w_ then (if k = 1 then V 17 (10 * o + y) else if V 16 (10 * o + y) = -4 then 0 else V 16 (10 * o + y)) else 0)) 0 i))), (0, .ref (ad 0)), (1, .int (J w_)), (2, .int (J y)), (3, .int (J k))]) hx hb dX9_ward_155 hl (by decide) rfl (fun ls hl => ?_)
                      refine lv_iload hx hb dX9_ward_157 (lv_at hl 3 rfl) ?_
                      refine lv_iload hx hb dX9_ward_159 (lv_at hl 1 rfl) ?_
                      refine j_eq0 (tgt := 169) hx hb (by decide) (by decide) dX9_ward_161 (by decide) (fun c161 => absurd c161 (by decide)) (fun c161 => ?_)
                      refine lv_iload hx hb dX9_ward_164 (lv_at hl 0 rfl) ?_
                      refine lv_goto (tgt := 170) hx hb dX9_ward_166 (by decide) ?_
                      refine j_add hx hb dX9_ward_170 ?_
                      refine lv_istore (lv' := [(4, .int (J ((lo (fun x o => x + (if w_ = -1 ∨ V 1 o = w_ then (if k = 1 then V 17 (10 * o + y) else if V 16 (10 * o + y) = -4 then 0 else V 16 (10 * o + y)) else 0)) 0 i) + ((V 17) ((10 * i) + y))))), (7, .int (J ((V 17) ((10 * i) + y)))), (6, .int (J 1)), (5, .int (J i)), (0, .ref (ad 0)), (1, .int (J w_)), (2, .int (J y)), (3, .int (J k))]) hx hb dX9_ward_171 hl (by decide) rfl (fun ls hl => ?_)
                      refine lv_iinc (v := J (i + 1)) (lv' := [(5, .int (J (i + 1))), (4, .int (J ((lo (fun x o => x + (if w_ = -1 ∨ V 1 o = w_ then (if k = 1 then V 17 (10 * o + y) else if V 16 (10 * o + y) = -4 then 0 else V 16 (10 * o + y)) else 0)) 0 i) + ((V 17) ((10 * i) + y))))), (7, .int (J ((V 17) ((10 * i) + y)))), (6, .int (J 1)), (0, .ref (ad 0)), (1, .int (J w_)), (2, .int (J y)), (3, .int (J k))]) hx hb dX9_ward_173 hl (k := 3) rfl (J_add _ _) (by decide) rfl (fun ls hl => ?_)
                      refine lv_goto (tgt := 71) hx hb dX9_ward_176 (by decide) ?_
                      exact ih71 (i + 1) (by omega) (by omega) _ (lv_sub hl [0, 1, 4, 5, 6, 7] (by rw [show (lo (fun x o => x + (if w_ = -1 ∨ V 1 o = w_ then (if k = 1 then V 17 (10 * o + y) else if V 16 (10 * o + y) = -4 then 0 else V 16 (10 * o + y)) else 0)) 0 (i + 1) : Int) = (lo (fun x o => x + (if w_ = -1 ∨ V 1 o = w_ then (if k = 1 then V 17 (10 * o + y) else if V 16 (10 * o + y) = -4 then 0 else V 16 (10 * o + y)) else 0)) 0 i) + ((V 17) ((10 * i) + y)) from (by rw [lo_s _ _ (by omega)]; (try simp only [ge_iff_le]) <;> (repeat' split) <;> first | rfl | omega | (exfalso; omega) | (exfalso; contradiction) | (exfalso; simp_all))]; try rfl))
                  · refine lv_aload_n hx hb dX9_ward_84 rfl (lv_at hl 2 rfl) ?_
                    refine j_get (ci := 9) (v := .ref (ad 1)) hx hb hts inX9_ hown hK ce_1 rfl 1 (by decide) lk4 (fun _ h9 => h9) rfl dX9_ward_85 ?_
                    refine lv_iload hx hb dX9_ward_88 (lv_at hl 0 rfl) ?_
                    have ce_8 : At G s.heap (ad 1) (eI G 40 (V 1)) := (hM.2.1 1 (by decide) (by decide))
                    refine j_iald hx hb hK ce_8 (by omega) (by omega) (by decide) dX9_ward_90 ?_
                    have hr_9 := hV.h (i := i) (by omega) (by omega)
                    refine lv_iload_n hx hb dX9_ward_91 rfl (lv_at hl 3 rfl) ?_
                    refine j_cne (tgt := 99) hx hb (by omega) (by omega) (by omega) (by omega) dX9_ward_92 (by decide) (fun c92 => ?_) (fun c92 => ?_)
                    · refine j_const hx hb dX9_ward_99 ?_
                      refine lv_istore (lv' := [(6, .int (J 0)), (5, .int (J i)), (4, .int (J (lo (fun x o => x + (if w_ = -1 ∨ V 1 o = w_ then (if k = 1 then V 17 (10 * o + y) else if V 16 (10 * o + y) = -4 then 0 else V 16 (10 * o + y)) else 0)) 0 i))), (0, .ref (ad 0)), (1, .int (J w_)), (2, .int (J y)), (3, .int (J k))]) hx hb dX9_ward_100 hl (by decide) rfl (fun ls hl => ?_)
                      refine lv_iload_n hx hb dX9_ward_102 rfl (lv_at hl 6 rfl) ?_
                      refine j_const hx hb dX9_ward_103 ?_
                      refine j_cne (tgt := 122) hx hb (by omega) (by omega) (by decide) (by decide) dX9_ward_104 (by decide) (fun c104 => ?_) (fun c104 => ?_)
                      · refine lv_aload_n hx hb dX9_ward_122 rfl (lv_at hl 3 rfl) ?_
                        refine j_get (ci := 9) (v := .ref (ad 16)) hx hb hts inX9_ hown hK ce_1 rfl 17 (by decide) lk2 (fun _ h9 => h9) rfl dX9_ward_123 ?_
                        refine j_bi hx hb dX9_ward_126 (by decide +kernel) ?_
                        refine lv_iload hx hb dX9_ward_128 (lv_at hl 1 rfl) ?_
                        refine j_mul hx hb dX9_ward_130 ?_
                        refine lv_iload_n hx hb dX9_ward_131 rfl (lv_at hl 5 rfl) ?_
                        refine j_add hx hb dX9_ward_132 ?_
                        have ce_10 : At G s.heap (ad 16) (eI G 400 (V 16)) := (hM.2.1 16 (by decide) (by decide))
                        refine j_iald hx hb hK ce_10 (by omega) (by omega) (by decide) dX9_ward_133 ?_
                        have hr_11 := hV.b (i := i) (y := y) (by omega) (by omega) (by omega) (by omega)
                        refine j_bi hx hb dX9_ward_134 (by decide +kernel) ?_
                        refine j_cne (tgt := 143) hx hb (by omega) (by omega) (by decide) (by decide) dX9_ward_136 (by decide) (fun c136 => ?_) (fun c136 => ?_)
                        · refine lv_aload_n hx hb dX9_ward_143 rfl (lv_at hl 3 rfl) ?_
                          refine j_get (ci := 9) (v := .ref (ad 16)) hx hb hts inX9_ hown hK ce_1 rfl 17 (by decide) lk2 (fun _ h9 => h9) rfl dX9_ward_144 ?_
                          refine j_bi hx hb dX9_ward_147 (by decide +kernel) ?_
                          refine lv_iload hx hb dX9_ward_149 (lv_at hl 1 rfl) ?_
                          refine j_mul hx hb dX9_ward_151 ?_
                          refine lv_iload_n hx hb dX9_ward_152 rfl (lv_at hl 5 rfl) ?_
                          refine j_add hx hb dX9_ward_153 ?_
                          refine j_iald hx hb hK ce_10 (by omega) (by omega) (by decide) dX9_ward_154 ?_
                          refine lv_istore (lv' := [(7, .int (J ((V 16) ((10 * i) + y)))), (6, .int (J 0)), (5, .int (J i)), (4, .int (J (lo (fun x o => x + (if w_ = -1 ∨ V 1 o = w_ then (if k = 1 then V 17 (10 * o + y) else if V 16 (10 * o + y) = -4 then 0 else V 16 (10 * o + y)) else 0)) 0 i))), (0, .ref (ad 0)), (1, .int (J w_)), (2, .int (J y)), (3, .int (J k))]) hx hb dX9_ward_155 hl (by decide) rfl (fun ls hl => ?_)
                          refine lv_iload hx hb dX9_ward_157 (lv_at hl 3 rfl) ?_
                          refine lv_iload hx hb dX9_ward_159 (lv_at hl 1 rfl) ?_
                          refine j_eq0 (tgt := 169) hx hb (by decide) (by decide) dX9_ward_161 (by decide) (fun c161 => ?_) (fun c161 => absurd c161 (by decide))
                          refine j_const hx hb dX9_ward_169 ?_
                          refine j_add hx hb dX9_ward_170 ?_
                          refine lv_istore (lv' := [(4, .int (J ((lo (fun x o => x + (if w_ = -1 ∨ V 1 o = w_ then (if k = 1 then V 17 (10 * o + y) else if V 16 (10 * o + y) = -4 then 0 else V 16 (10 * o + y)) else 0)) 0 i) + 0))), (7, .int (J ((V 16) ((10 * i) + y)))), (6, .int (J 0)), (5, .int (J i)), (0, .ref (ad 0)), (1, .int (J w_)), (2, .int (J y)), (3, .int (J k))]) hx hb dX9_ward_171 hl (by decide) rfl (fun ls hl => ?_)
                          refine lv_iinc (v := J (i + 1)) (lv' := [(5, .int (J (i + 1))), (4, .int (J ((lo (fun x o => x + (if w_ = -1 ∨ V 1 o = w_ then (if k = 1 then V 17 (10 * o + y) else if V 16 (10 * o + y) = -4 then 0 else V 16 (10 * o + y)) else 0)) 0 i) + 0))), (7, .int (J ((V 16) ((10 * i) + y)))), (6, .int (J 0)), (0, .ref (ad 0)), (1, .int (J w_)), (2, .int (J y)), (3, .int (J k))]) hx hb dX9_ward_173 hl (k := 3) rfl (J_add _ _) (by decide) rfl (fun ls hl => ?_)
                          refine lv_goto (tgt := 71) hx hb dX9_ward_176 (by decide) ?_
                          exact ih71 (i + 1) (by omega) (by omega) _ (lv_sub hl [0, 1, 4, 5, 6, 7] (by rw [show (lo (fun x o => x + (if w_ = -1 ∨ V 1 o = w_ then (if k = 1 then V 17 (10 * o + y) else if V 16 (10 * o + y) = -4 then 0 else V 16 (10 * o + y)) else 0)) 0 (i + 1) : Int) = (lo (fun x o => x + (if w_ = -1 ∨ V 1 o = w_ then (if k = 1 then V 17 (10 * o + y) else if V 16 (10 * o + y) = -4 then 0 else V 16 (10 * o + y)) else 0)) 0 i) + 0 from (by rw [lo_s _ _ (by omega)]; (try simp only [ge_iff_le]) <;> (repeat' split) <;> first | rfl | omega | (exfalso; omega) | (exfalso; contradiction) | (exfalso; simp_all))]; try rfl))
                        · refine j_const hx hb dX9_ward_139 ?_
                          refine lv_goto (tgt := 155) hx hb dX9_ward_140 (by decide) ?_
                          refine lv_istore (lv' := [(7, .int (J 0)), (6, .int (J 0)), (5, .int (J i)), (4, .int (J (lo (fun x o => x + (if w_ = -1 ∨ V 1 o = w_ then (if k = 1 then V 17 (10 * o + y) else if V 16 (10 * o + y) = -4 then 0 else V 16 (10 * o + y)) else 0)) 0 i))), (0, .ref (ad 0)), (1, .int (J w_)), (2, .int (J y)), (3, .int (J k))]) hx hb dX9_ward_155 hl (by decide) rfl (fun ls hl => ?_)
                          refine lv_iload hx hb dX9_ward_157 (lv_at hl 3 rfl) ?_
                          refine lv_iload hx hb dX9_ward_159 (lv_at hl 1 rfl) ?_
                          refine j_eq0 (tgt := 169) hx hb (by decide) (by decide) dX9_ward_161 (by decide) (fun c161 => ?_) (fun c161 => absurd c161 (by decide))
                          refine j_const hx hb dX9_ward_169 ?_
                          refine j_add hx hb dX9_ward_170 ?_
                          refine lv_istore (lv' := [(4, .int (J ((lo (fun x o => x + (if w_ = -1 ∨ V 1 o = w_ then (if k = 1 then V 17 (10 * o + y) else if V 16 (10 * o + y) = -4 then 0 else V 16 (10 * o + y)) else 0)) 0 i) + 0))), (7, .int (J 0)), (6, .int (J 0)), (5, .int (J i)), (0, .ref (ad 0)), (1, .int (J w_)), (2, .int (J y)), (3, .int (J k))]) hx hb dX9_ward_171 hl (by decide) rfl (fun ls hl => ?_)
                          refine lv_iinc (v := J (i + 1)) (lv' := [(5, .int (J (i + 1))), (4, .int (J ((lo (fun x o => x + (if w_ = -1 ∨ V 1 o = w_ then (if k = 1 then V 17 (10 * o + y) else if V 16 (10 * o + y) = -4 then 0 else V 16 (10 * o + y)) else 0)) 0 i) + 0))), (7, .int (J 0)), (6, .int (J 0)), (0, .ref (ad 0)), (1, .int (J w_)), (2, .int (J y)), (3, .int (J k))]) hx hb dX9_ward_173 hl (k := 3) rfl (J_add _ _) (by decide) rfl (fun ls hl => ?_)
                          refine lv_goto (tgt := 71) hx hb dX9_ward_176 (by decide) ?_
                          exact ih71 (i + 1) (by omega) (by omega) _ (lv_sub hl [0, 1, 4, 5, 6, 7] (by rw [show (lo (fun x o => x + (if w_ = -1 ∨ V 1 o = w_ then (if k = 1 then V 17 (10 * o + y) else if V 16 (10 * o + y) = -4 then 0 else V 16 (10 * o + y)) else 0)) 0 (i + 1) : Int) = (lo (fun x o => x + (if w_ = -1 ∨ V 1 o = w_ then (if k = 1 then V 17 (10 * o + y) else if V 16 (10 * o + y) = -4 then 0 else V 16 (10 * o + y)) else 0)) 0 i) + 0 from (by rw [lo_s _ _ (by omega)]; (try simp only [ge_iff_le]) <;> (repeat' split) <;> first | rfl | omega | (exfalso; omega) | (exfalso; contradiction) | (exfalso; simp_all))]; try rfl))
                      · refine lv_aload_n hx hb dX9_ward_107 rfl (lv_at hl 3 rfl) ?_
                        refine j_get (ci := 9) (v := .ref (ad 17)) hx hb hts inX9_ hown hK ce_1 rfl 18 (by decide) lk3 (fun _ h9 => h9) rfl dX9_ward_108 ?_
                        refine j_bi hx hb dX9_ward_111 (by decide +kernel) ?_
                        refine lv_iload hx hb dX9_ward_113 (lv_at hl 1 rfl) ?_
                        refine j_mul hx hb dX9_ward_115 ?_
                        refine lv_iload_n hx hb dX9_ward_116 rfl (lv_at hl 5 rfl) ?_
                        refine j_add hx hb dX9_ward_117 ?_
                        have ce_12 : At G s.heap (ad 17) (eI G 400 (V 17)) := (hM.2.1 17 (by decide) (by decide))
                        refine j_iald hx hb hK ce_12 (by omega) (by omega) (by decide) dX9_ward_118 ?_
                        have hr_13 := hV.b (i := i) (y := y) (by omega) (by omega) (by omega) (by omega)
                        refine lv_goto (tgt := 155) hx hb dX9_ward_119 (by decide) ?_
                        refine lv_istore (lv' := [(7, .int (J ((V 17) ((10 * i) + y)))), (6, .int (J 0)), (5, .int (J i)), (4, .int (J (lo (fun x o => x + (if w_ = -1 ∨ V 1 o = w_ then (if k = 1 then V 17 (10 * o + y) else if V 16 (10 * o + y) = -4 then 0 else V 16 (10 * o + y)) else 0)) 0 i))), (0, .ref (ad 0)), (1, .int (J w_)), (2, .int (J y)), (3, .int (J k))]) hx hb dX9_ward_155 hl (by decide) rfl (fun ls hl => ?_)
                        refine lv_iload hx hb dX9_ward_157 (lv_at hl 3 rfl) ?_
                        refine lv_iload hx hb dX9_ward_159 (lv_at hl 1 rfl) ?_
                        refine j_eq0 (tgt := 169) hx hb (by decide) (by decide) dX9_ward_161 (by decide) (fun c161 => ?_) (fun c161 => absurd c161 (by decide))
                        refine j_const hx hb dX9_ward_169 ?_
                        refine j_add hx hb dX9_ward_170 ?_
                        refine lv_istore (lv' := [(4, .int (J ((lo (fun x o => x + (if w_ = -1 ∨ V 1 o = w_ then (if k = 1 then V 17 (10 * o + y) else if V 16 (10 * o + y) = -4 then 0 else V 16 (10 * o + y)) else 0)) 0 i) + 0))), (7, .int (J ((V 17) ((10 * i) + y)))), (6, .int (J 0)), (5, .int (J i)), (0, .ref (ad 0)), (1, .int (J w_)), (2, .int (J y)), (3, .int (J k))]) hx hb dX9_ward_171 hl (by decide) rfl (fun ls hl => ?_)
                        refine lv_iinc (v := J (i + 1)) (lv' := [(5, .int (J (i + 1))), (4, .int (J ((lo (fun x o => x + (if w_ = -1 ∨ V 1 o = w_ then (if k = 1 then V 17 (10 * o + y) else if V 16 (10 * o + y) = -4 then 0 else V 16 (10 * o + y)) else 0)) 0 i) + 0))), (7, .int (J ((V 17) ((10 * i) + y)))), (6, .int (J 0)), (0, .ref (ad 0)), (1, .int (J w_)), (2, .int (J y)), (3, .int (J k))]) hx hb dX9_ward_173 hl (k := 3) rfl (J_add _ _) (by decide) rfl (fun ls hl => ?_)
                        refine lv_goto (tgt := 71) hx hb dX9_ward_176 (by decide) ?_
                        exact ih71 (i + 1) (by omega) (by omega) _ (lv_sub hl [0, 1, 4, 5, 6, 7] (by rw [show (lo (fun x o => x + (if w_ = -1 ∨ V 1 o = w_ then (if k = 1 then V 17 (10 * o + y) else if V 16 (10 * o + y) = -4 then 0 else V 16 (10 * o + y)) else 0)) 0 (i + 1) : Int) = (lo (fun x o => x + (if w_ = -1 ∨ V 1 o = w_ then (if k = 1 then V 17 (10 * o + y) else if V 16 (10 * o + y) = -4 then 0 else V 16 (10 * o + y)) else 0)) 0 i) + 0 from (by rw [lo_s _ _ (by omega)]; (try simp only [ge_iff_le]) <;> (repeat' split) <;> first | rfl | omega | (exfalso; omega) | (exfalso; contradiction) | (exfalso; simp_all))]; try rfl))
                    · refine j_const hx hb dX9_ward_95 ?_
                      refine lv_goto (tgt := 100) hx hb dX9_ward_96 (by decide) ?_
                      refine lv_istore (lv' := [(6, .int (J 1)), (5, .int (J i)), (4, .int (J (lo (fun x o => x + (if w_ = -1 ∨ V 1 o = w_ then (if k = 1 then V 17 (10 * o + y) else if V 16 (10 * o + y) = -4 then 0 else V 16 (10 * o + y)) else 0)) 0 i))), (0, .ref (ad 0)), (1, .int (J w_)), (2, .int (J y)), (3, .int (J k))]) hx hb dX9_ward_100 hl (by decide) rfl (fun ls hl => ?_)
                      refine lv_iload_n hx hb dX9_ward_102 rfl (lv_at hl 6 rfl) ?_
                      refine j_const hx hb dX9_ward_103 ?_
                      refine j_cne (tgt := 122) hx hb (by omega) (by omega) (by decide) (by decide) dX9_ward_104 (by decide) (fun c104 => ?_) (fun c104 => ?_)
                      · refine lv_aload_n hx hb dX9_ward_122 rfl (lv_at hl 3 rfl) ?_
                        refine j_get (ci := 9) (v := .ref (ad 16)) hx hb hts inX9_ hown hK ce_1 rfl 17 (by decide) lk2 (fun _ h9 => h9) rfl dX9_ward_123 ?_
                        refine j_bi hx hb dX9_ward_126 (by decide +kernel) ?_
                        refine lv_iload hx hb dX9_ward_128 (lv_at hl 1 rfl) ?_
                        refine j_mul hx hb dX9_ward_130 ?_
                        refine lv_iload_n hx hb dX9_ward_131 rfl (lv_at hl 5 rfl) ?_
                        refine j_add hx hb dX9_ward_132 ?_
                        have ce_14 : At G s.heap (ad 16) (eI G 400 (V 16)) := (hM.2.1 16 (by decide) (by decide))
                        refine j_iald hx hb hK ce_14 (by omega) (by omega) (by decide) dX9_ward_133 ?_
                        have hr_15 := hV.b (i := i) (y := y) (by omega) (by omega) (by omega) (by omega)
                        refine j_bi hx hb dX9_ward_134 (by decide +kernel) ?_
                        refine j_cne (tgt := 143) hx hb (by omega) (by omega) (by decide) (by decide) dX9_ward_136 (by decide) (fun c136 => ?_) (fun c136 => ?_)
                        · refine lv_aload_n hx hb dX9_ward_143 rfl (lv_at hl 3 rfl) ?_
                          refine j_get (ci := 9) (v := .ref (ad 16)) hx hb hts inX9_ hown hK ce_1 rfl 17 (by decide) lk2 (fun _ h9 => h9) rfl dX9_ward_144 ?_
                          refine j_bi hx hb dX9_ward_147 (by decide +kernel) ?_
                          refine lv_iload hx hb dX9_ward_149 (lv_at hl 1 rfl) ?_
                          refine j_mul hx hb dX9_ward_151 ?_
                          refine lv_iload_n hx hb dX9_ward_152 rfl (lv_at hl 5 rfl) ?_
                          refine j_add hx hb dX9_ward_153 ?_
                          refine j_iald hx hb hK ce_14 (by omega) (by omega) (by decide) dX9_ward_154 ?_
                          refine lv_istore (lv' := [(7, .int (J ((V 16) ((10 * i) + y)))), (6, .int (J 1)), (5, .int (J i)), (4, .int (J (lo (fun x o => x + (if w_ = -1 ∨ V 1 o = w_ then (if k = 1 then V 17 (10 * o + y) else if V 16 (10 * o + y) = -4 then 0 else V 16 (10 * o + y)) else 0)) 0 i))), (0, .ref (ad 0)), (1, .int (J w_)), (2, .int (J y)), (3, .int (J k))]) hx hb dX9_ward_155 hl (by decide) rfl (fun ls hl => ?_)
                          refine lv_iload hx hb dX9_ward_157 (lv_at hl 3 rfl) ?_
                          refine lv_iload hx hb dX9_ward_159 (lv_at hl 1 rfl) ?_
                          refine j_eq0 (tgt := 169) hx hb (by decide) (by decide) dX9_ward_161 (by decide) (fun c161 => absurd c161 (by decide)) (fun c161 => ?_)
                          refine lv_iload hx hb dX9_ward_164 (lv_at hl 0 rfl) ?_
                          refine lv_goto (tgt := 170) hx hb dX9_ward_166 (by decide) ?_
                          refine j_add hx hb dX9_ward_170 ?_
                          refine lv_istore (lv' := [(4, .int (J ((lo (fun x o => x + (if w_ = -1 ∨ V 1 o = w_ then (if k = 1 then V 17 (10 * o + y) else if V 16 (10 * o + y) = -4 then 0 else V 16 (10 * o + y)) else 0)) 0 i) + ((V 16) ((10 * i) + y))))), (7, .int (J ((V 16) ((10 * i) + y)))), (6, .int (J 1)), (5, .int (J i)), (0, .ref (ad 0)), (1, .int (J w_)), (2, .int (J y)), (3, .int (J k))]) hx hb dX9_ward_171 hl (by decide) rfl (fun ls hl => ?_)
                          refine lv_iinc (v := J (i + 1)) (lv' := [(5, .int (J (i + 1))), (4, .int (J ((lo (fun x o => x + (if w_ = -1 ∨ V 1 o = w_ then (if k = 1 then V 17 (10 * o + y) else if V 16 (10 * o + y) = -4 then 0 else V 16 (10 * o + y)) else 0)) 0 i) + ((V 16) ((10 * i) + y))))), (7, .int (J ((V 16) ((10 * i) + y)))), (6, .int (J 1)), (0, .ref (ad 0)), (1, .int (J w_)), (2, .int (J y)), (3, .int (J k))]) hx hb dX9_ward_173 hl (k := 3) rfl (J_add _ _) (by decide) rfl (fun ls hl => ?_)
                          refine lv_goto (tgt := 71) hx hb dX9_ward_176 (by decide) ?_
                          exact ih71 (i + 1) (by omega) (by omega) _ (lv_sub hl [0, 1, 4, 5, 6, 7] (by rw [show (lo (fun x o => x + (if w_ = -1 ∨ V 1 o = w_ then (if k = 1 then V 17 (10 * o + y) else if V 16 (10 * o + y) = -4 then 0 else V 16 (10 * o + y)) else 0)) 0 (i + 1) : Int) = (lo (fun x o => x + (if w_ = -1 ∨ V 1 o = w_ then (if k = 1 then V 17 (10 * o + y) else if V 16 (10 * o + y) = -4 then 0 else V 16 (10 * o + y)) else 0)) 0 i) + ((V 16) ((10 * i) + y)) from (by rw [lo_s _ _ (by omega)]; (try simp only [ge_iff_le]) <;> (repeat' split) <;> first | rfl | omega | (exfalso; omega) | (exfalso; contradiction) | (exfalso; simp_all))]; try rfl))
                        · refine j_const hx hb dX9_ward_139 ?_
                          refine lv_goto (tgt := 155) hx hb dX9_ward_140 (by decide) ?_
                          refine lv_istore (lv' := [(7, .int (J 0)), (6, .int (J 1)), (5, .int (J i)), (4, .int (J (lo (fun x o => x + (if w_ = -1 ∨ V 1 o = w_ then (if k = 1 then V 17 (10 * o + y) else if V 16 (10 * o + y) = -4 then 0 else V 16 (10 * o + y)) else 0)) 0 i))), (0, .ref (ad 0)), (1, .int (J w_)), (2, .int (J y)), (3, .int (J k))]) hx hb dX9_ward_155 hl (by decide) rfl (fun ls hl => ?_)
                          refine lv_iload hx hb dX9_ward_157 (lv_at hl 3 rfl) ?_
                          refine lv_iload hx hb dX9_ward_159 (lv_at hl 1 rfl) ?_
                          refine j_eq0 (tgt := 169) hx hb (by decide) (by decide) dX9_ward_161 (by decide) (fun c161 => absurd c161 (by decide)) (fun c161 => ?_)
                          refine lv_iload hx hb dX9_ward_164 (lv_at hl 0 rfl) ?_
                          refine lv_goto (tgt := 170) hx hb dX9_ward_166 (by decide) ?_
                          refine j_add hx hb dX9_ward_170 ?_
                          refine lv_istore (lv' := [(4, .int (J ((lo (fun x o => x + (if w_ = -1 ∨ V 1 o = w_ then (if k = 1 then V 17 (10 * o + y) else if V 16 (10 * o + y) = -4 then 0 else V 16 (10 * o + y)) else 0)) 0 i) + 0))), (7, .int (J 0)), (6, .int (J 1)), (5, .int (J i)), (0, .ref (ad 0)), (1, .int (J w_)), (2, .int (J y)), (3, .int (J k))]) hx hb dX9_ward_171 hl (by decide) rfl (fun ls hl => ?_)
                          refine lv_iinc (v := J (i + 1)) (lv' := [(5, .int (J (i + 1))), (4, .int (J ((lo (fun x o => x + (if w_ = -1 ∨ V 1 o = w_ then (if k = 1 then V 17 (10 * o + y) else if V 16 (10 * o + y) = -4 then 0 else V 16 (10 * o + y)) else 0)) 0 i) + 0))), (7, .int (J 0)), (6, .int (J 1)), (0, .ref (ad 0)), (1, .int (J w_)), (2, .int (J y)), (3, .int (J k))]) hx hb dX9_ward_173 hl (k := 3) rfl (J_add _ _) (by decide) rfl (fun ls hl => ?_)
                          refine lv_goto (tgt := 71) hx hb dX9_ward_176 (by decide) ?_
                          exact ih71 (i + 1) (by omega) (by omega) _ (lv_sub hl [0, 1, 4, 5, 6, 7] (by rw [show (lo (fun x o => x + (if w_ = -1 ∨ V 1 o = w_ then (if k = 1 then V 17 (10 * o + y) else if V 16 (10 * o + y) = -4 then 0 else V 16 (10 * o + y)) else 0)) 0 (i + 1) : Int) = (lo (fun x o => x + (if w_ = -1 ∨ V 1 o = w_ then (if k = 1 then V 17 (10 * o + y) else if V 16 (10 * o + y) = -4 then 0 else V 16 (10 * o + y)) else 0)) 0 i) + 0 from (by rw [lo_s _ _ (by omega)]; (try simp only [ge_iff_le]) <;> (repeat' split) <;> first | rfl | omega | (exfalso; omega) | (exfalso; contradiction) | (exfalso; simp_all))]; try rfl))
                      · refine lv_aload_n hx hb dX9_ward_107 rfl (lv_at hl 3 rfl) ?_
                        refine j_get (ci := 9) (v := .ref (ad 17)) hx hb hts inX9_ hown hK ce_1 rfl 18 (by decide) lk3 (fun _ h9 => h9) rfl dX9_ward_108 ?_
                        refine j_bi hx hb dX9_ward_111 (by decide +kernel) ?_
                        refine lv_iload hx hb dX9_ward_113 (lv_at hl 1 rfl) ?_
                        refine j_mul hx hb dX9_ward_115 ?_
                        refine lv_iload_n hx hb dX9_ward_116 rfl (lv_at hl 5 rfl) ?_
                        refine j_add hx hb dX9_ward_117 ?_
                        have ce_16 : At G s.heap (ad 17) (eI G 400 (V 17)) := (hM.2.1 17 (by decide) (by decide))
                        refine j_iald hx hb hK ce_16 (by omega) (by omega) (by decide) dX9_ward_118 ?_
                        have hr_17 := hV.b (i := i) (y := y) (by omega) (by omega) (by omega) (by omega)
                        refine lv_goto (tgt := 155) hx hb dX9_ward_119 (by decide) ?_
                        refine lv_istore (lv' := [(7, .int (J ((V 17) ((10 * i) + y)))), (6, .int (J 1)), (5, .int (J i)), (4, .int (J (lo (fun x o => x + (if w_ = -1 ∨ V 1 o = w_ then (if k = 1 then V 17 (10 * o + y) else if V 16 (10 * o + y) = -4 then 0 else V 16 (10 * o + y)) else 0)) 0 i))), (0, .ref (ad 0)), (1, .int (J w_)), (2, .int (J y)), (3, .int (J k))]) hx hb dX9_ward_155 hl (by decide) rfl (fun ls hl => ?_)
                        refine lv_iload hx hb dX9_ward_157 (lv_at hl 3 rfl) ?_
                        refine lv_iload hx hb dX9_ward_159 (lv_at hl 1 rfl) ?_
                        refine j_eq0 (tgt := 169) hx hb (by decide) (by decide) dX9_ward_161 (by decide) (fun c161 => absurd c161 (by decide)) (fun c161 => ?_)
                        refine lv_iload hx hb dX9_ward_164 (lv_at hl 0 rfl) ?_
                        refine lv_goto (tgt := 170) hx hb dX9_ward_166 (by decide) ?_
                        refine j_add hx hb dX9_ward_170 ?_
                        refine lv_istore (lv' := [(4, .int (J ((lo (fun x o => x + (if w_ = -1 ∨ V 1 o = w_ then (if k = 1 then V 17 (10 * o + y) else if V 16 (10 * o + y) = -4 then 0 else V 16 (10 * o + y)) else 0)) 0 i) + ((V 17) ((10 * i) + y))))), (7, .int (J ((V 17) ((10 * i) + y)))), (6, .int (J 1)), (5, .int (J i)), (0, .ref (ad 0)), (1, .int (J w_)), (2, .int (J y)), (3, .int (J k))]) hx hb dX9_ward_171 hl (by decide) rfl (fun ls hl => ?_)
                        refine lv_iinc (v := J (i + 1)) (lv' := [(5, .int (J (i + 1))), (4, .int (J ((lo (fun x o => x + (if w_ = -1 ∨ V 1 o = w_ then (if k = 1 then V 17 (10 * o + y) else if V 16 (10 * o + y) = -4 then 0 else V 16 (10 * o + y)) else 0)) 0 i) + ((V 17) ((10 * i) + y))))), (7, .int (J ((V 17) ((10 * i) + y)))), (6, .int (J 1)), (0, .ref (ad 0)), (1, .int (J w_)), (2, .int (J y)), (3, .int (J k))]) hx hb dX9_ward_173 hl (k := 3) rfl (J_add _ _) (by decide) rfl (fun ls hl => ?_)
                        refine lv_goto (tgt := 71) hx hb dX9_ward_176 (by decide) ?_
                        exact ih71 (i + 1) (by omega) (by omega) _ (lv_sub hl [0, 1, 4, 5, 6, 7] (by rw [show (lo (fun x o => x + (if w_ = -1 ∨ V 1 o = w_ then (if k = 1 then V 17 (10 * o + y) else if V 16 (10 * o + y) = -4 then 0 else V 16 (10 * o + y)) else 0)) 0 (i + 1) : Int) = (lo (fun x o => x + (if w_ = -1 ∨ V 1 o = w_ then (if k = 1 then V 17 (10 * o + y) else if V 16 (10 * o + y) = -4 then 0 else V 16 (10 * o + y)) else 0)) 0 i) + ((V 17) ((10 * i) + y)) from (by rw [lo_s _ _ (by omega)]; (try simp only [ge_iff_le]) <;> (repeat' split) <;> first | rfl | omega | (exfalso; omega) | (exfalso; contradiction) | (exfalso; simp_all))]; try rfl))
            exact lp71 41 0 (by omega) (by omega) _ (lv_sub hl [0, 1, 2, 3, 4, 5] (by rw [show (lo (fun x o => x + (if w_ = -1 ∨ V 1 o = w_ then (if k = 1 then V 17 (10 * o + y) else if V 16 (10 * o + y) = -4 then 0 else V 16 (10 * o + y)) else 0)) 0 0 : Int) = 0 from (by rfl)]; try rfl))
          · refine lv_iload_n hx hb dX9_ward_44 rfl (lv_at hl 3 rfl) ?_
            refine j_const hx hb dX9_ward_45 ?_
            refine j_cne (tgt := 58) hx hb (by omega) (by omega) (by decide) (by decide) dX9_ward_46 (by decide) (fun c46 => ?_) (fun c46 => ?_)
            · refine lv_aload_n hx hb dX9_ward_58 rfl (lv_at hl 0 rfl) ?_
              refine j_get (ci := 9) (v := .ref (ad 15)) hx hb hts inX9_ hown hK ce_1 rfl 16 (by decide) lk5 (fun _ h9 => h9) rfl dX9_ward_59 ?_
              refine lv_iload_n hx hb dX9_ward_62 rfl (lv_at hl 2 rfl) ?_
              have ce_18 : At G s.heap (ad 15) (eI G 10 (V 15)) := (hM.2.1 15 (by decide) (by decide))
              refine j_iald hx hb hK ce_18 (by omega) (by omega) (by decide) dX9_ward_63 ?_
              exact r_i hx hb hr hlk (congrArg (fun z => Value.int (J z)) (show ((V 15) y : Int) = if (-1 ≤ w_ ∧ w_ ≤ 3) ∧ (0 ≤ y ∧ y < 10) ∧ 0 ≤ k ∧ k < 4 then (if V 13 y = 0 then -2 else if k ≤ 1 then mWa V w_ y k else if k = 2 then V 14 y else V 15 y) else -1 from by rw [if_pos (by omega), if_neg (by omega), if_neg (by omega), if_neg (by omega)])) dX9_ward_64
            · refine lv_aload_n hx hb dX9_ward_49 rfl (lv_at hl 0 rfl) ?_
              refine j_get (ci := 9) (v := .ref (ad 14)) hx hb hts inX9_ hown hK ce_1 rfl 15 (by decide) lk6 (fun _ h9 => h9) rfl dX9_ward_50 ?_
              refine lv_iload_n hx hb dX9_ward_53 rfl (lv_at hl 2 rfl) ?_
              have ce_19 : At G s.heap (ad 14) (eI G 10 (V 14)) := (hM.2.1 14 (by decide) (by decide))
              refine j_iald hx hb hK ce_19 (by omega) (by omega) (by decide) dX9_ward_54 ?_
              refine lv_goto (tgt := 64) hx hb dX9_ward_55 (by decide) ?_
              exact r_i hx hb hr hlk (congrArg (fun z => Value.int (J z)) (show ((V 14) y : Int) = if (-1 ≤ w_ ∧ w_ ≤ 3) ∧ (0 ≤ y ∧ y < 10) ∧ 0 ≤ k ∧ k < 4 then (if V 13 y = 0 then -2 else if k ≤ 1 then mWa V w_ y k else if k = 2 then V 14 y else V 15 y) else -1 from by rw [if_pos (by omega), if_neg (by omega), if_neg (by omega), if_pos (by omega)])) dX9_ward_64
        · refine j_bi hx hb dX9_ward_36 (by decide +kernel) ?_
          exact r_i hx hb hr hlk (congrArg (fun z => Value.int (J z)) (show ((-2) : Int) = if (-1 ≤ w_ ∧ w_ ≤ 3) ∧ (0 ≤ y ∧ y < 10) ∧ 0 ≤ k ∧ k < 4 then (if V 13 y = 0 then -2 else if k ≤ 1 then mWa V w_ y k else if k = 2 then V 14 y else V 15 y) else -1 from by rw [if_pos (by omega), if_pos (by omega)])) dX9_ward_38
      · refine j_const hx hb dX9_ward_25 ?_
        exact r_i hx hb hr hlk (congrArg (fun z => Value.int (J z)) (show ((-1) : Int) = if (-1 ≤ w_ ∧ w_ ≤ 3) ∧ (0 ≤ y ∧ y < 10) ∧ 0 ≤ k ∧ k < 4 then (if V 13 y = 0 then -2 else if k ≤ 1 then mWa V w_ y k else if k = 2 then V 14 y else V 15 y) else -1 from by rw [if_neg (by omega)])) dX9_ward_26

abbrev rmX9_count : Room := { frames := 0, cells := 0, slots := 0, locals := 0 }
set_option maxHeartbeats 4000000 in
set_option maxRecDepth 100000 in
theorem c_X9_count (l : Launch) (G : GG) (ad : Nat → Nat) (V : St) (fo am : Int) (ys : Int → Int) (k : Int) (hV : Iv V) (g_k : -2147483648 ≤ k ∧ k < 2147483648) : MP l G yX9_count wsX9_count rmX9_count [.ref (ad 0), .int (J k)] (fun H => MW G H ad V fo am ys) (.int (J (if k = 0 then V 0 0 else if k = 1 then V 0 1 else if k = 2 then evO V else if k = 3 then mSy V else if k = 4 then rkO V else -1)) : Value) := by
  refine MP.of (cc := cX9_count) (maxL := 6) (ret := (some .int)) (by decide) rfl (Nat.le_of_ble_eq_true rfl) ?_
  intro p e s m below meth c hx hb hr hml hown hts hlk hK hP ls hl
  have hown : s.vm.findClass RX9 = some m.cls := hown
  have hl : lv_has ls 6 [(0, .ref (ad 0)), (1, .int (J k))] := hl
  have inX9_ : ∀ w ∈ u_ws RX9 TX9 22, w ∈ wsX9_count := by decide +kernel
  have lk0 := hts (.fieldLink RX9 66 "RateBookModel" "houses" "I") (by decide +kernel)
  have lk1 := hts (.fieldLink RX9 103 "RateBookModel" "lists" "I") (by decide +kernel)
  have lk2 := hts (.fieldLink RX9 46 "RateBookModel" "isStruck" "[Z") (by decide +kernel)
  have lk3 := hts (.fieldLink RX9 25 "RateBookModel" "events" "[I") (by decide +kernel)
  have lk4 := hts (.fieldLink RX9 22 "RateBookModel" "rent" "[I") (by decide +kernel)
  have hM : MW G s.heap ad V fo am ys := hP
  have hn := hV.n
  have hnl := hV.l
  refine j_const hx hb dX9_count_0 ?_
  refine lv_istore_n (lv' := [(2, .int (J 0)), (0, .ref (ad 0)), (1, .int (J k))]) hx hb dX9_count_1 rfl hl (by decide) rfl (fun ls hl => ?_)
  refine j_const hx hb dX9_count_2 ?_
  refine lv_istore_n (lv' := [(3, .int (J 0)), (2, .int (J 0)), (0, .ref (ad 0)), (1, .int (J k))]) hx hb dX9_count_3 rfl hl (by decide) rfl (fun ls hl => ?_)
  refine j_const hx hb dX9_count_4 ?_
  refine lv_istore (lv' := [(4, .int (J 0)), (3, .int (J 0)), (2, .int (J 0)), (0, .ref (ad 0)), (1, .int (J k))]) hx hb dX9_count_5 hl (by decide) rfl (fun ls hl => ?_)
  refine j_const hx hb dX9_count_7 ?_
  refine lv_istore (lv' := [(5, .int (J 0)), (4, .int (J 0)), (3, .int (J 0)), (2, .int (J 0)), (0, .ref (ad 0)), (1, .int (J k))]) hx hb dX9_count_8 hl (by decide) rfl (fun ls hl => ?_)
  have lp10 : ∀ (n : Nat) (i : Int) (i0 : 0 ≤ i ∧ i ≤ V 0 0) (hm : V 0 0 - i < (n : Int)) (ls : Array Slot) (hl : lv_has ls 6 [(5, .int (J i)), (4, .int (J 0)), (3, .int (J (lo (fun x o => x + pI (0 < V 5 o)) 0 i))), (2, .int (J (lo (fun x o => x + V 6 o) 0 i))), (0, .ref (ad 0)), (1, .int (J k))]), W p l e (headSpec wsX9_count rmX9_count).room s m ([.ref (ad 0), .int (J k)] : List Value).toArray below meth c s.heap [] 0 0 (MQ below (k2_QcV (.int (J (if k = 0 then V 0 0 else if k = 1 then V 0 1 else if k = 2 then evO V else if k = 3 then mSy V else if k = 4 then rkO V else -1)) : Value)) ([.ref (ad 0), .int (J k)] : List Value).toArray s 0 0 (fun _ => False)) (F0 m 10 ls []) := by
    intro n
    induction n with
    | zero =>
      intro i i0 hm ls hl
      exact absurd hm (by omega)
    | succ n ih10 =>
      intro i i0 hm ls hl
      refine lv_iload hx hb dX9_count_10 (lv_at hl 0 rfl) ?_
      refine lv_aload_n hx hb dX9_count_12 rfl (lv_at hl 4 rfl) ?_
      have ce_1 : At G s.heap (ad 0) (eO 9 [.int (J (V 0 0)), .ref (ad 1), .ref (ad 2), .ref (ad 3), .ref (ad 4), .ref (ad 5), .ref (ad 6), .ref (ad 7), .ref (ad 8), .ref (ad 9), .int (J (V 0 1)), .ref (ad 10), .ref (ad 11), .ref (ad 12), .ref (ad 13), .ref (ad 14), .ref (ad 15), .ref (ad 16), .ref (ad 17), .int (J fo), .int (J am), .ref (ad 18)]) := hM.1
      refine j_get (ci := 9) (v := .int (J (V 0 0))) hx hb hts inX9_ hown hK ce_1 rfl 0 (by decide) lk0 (fun _ h9 => h9) rfl dX9_count_13 ?_
      refine j_cge (tgt := 53) hx hb (by omega) (by omega) (by omega) (by omega) dX9_count_16 (by decide) (fun c16 => ?_) (fun c16 => ?_)
      · refine j_const hx hb dX9_count_53 ?_
        refine lv_istore (lv' := [(5, .int (J 0)), (4, .int (J 0)), (3, .int (J (lo (fun x o => x + pI (0 < V 5 o)) 0 i))), (2, .int (J (lo (fun x o => x + V 6 o) 0 i))), (0, .ref (ad 0)), (1, .int (J k))]) hx hb dX9_count_54 hl (by decide) rfl (fun ls hl => ?_)
        have lp56 : ∀ (n : Nat) (i2 : Int) (i3 : 0 ≤ i2 ∧ i2 ≤ 10) (hm : 10 - i2 < (n : Int)) (ls : Array Slot) (hl : lv_has ls 6 [(5, .int (J i2)), (4, .int (J (lo (fun x o => x + pI (V 13 o ≠ 0)) 0 i2))), (3, .int (J (lo (fun x o => x + pI (0 < V 5 o)) 0 i))), (2, .int (J (lo (fun x o => x + V 6 o) 0 i))), (0, .ref (ad 0)), (1, .int (J k))]), W p l e (headSpec wsX9_count rmX9_count).room s m ([.ref (ad 0), .int (J k)] : List Value).toArray below meth c s.heap [] 0 0 (MQ below (k2_QcV (.int (J (if k = 0 then V 0 0 else if k = 1 then V 0 1 else if k = 2 then evO V else if k = 3 then mSy V else if k = 4 then rkO V else -1)) : Value)) ([.ref (ad 0), .int (J k)] : List Value).toArray s 0 0 (fun _ => False)) (F0 m 56 ls []) := by
          intro n
          induction n with
          | zero =>
            intro i2 i3 hm ls hl
            exact absurd hm (by omega)
          | succ n ih56 =>
            intro i2 i3 hm ls hl
            refine lv_iload hx hb dX9_count_56 (lv_at hl 0 rfl) ?_
            refine j_bi hx hb dX9_count_58 (by decide +kernel) ?_
            refine j_cge (tgt := 89) hx hb (by omega) (by omega) (by decide) (by decide) dX9_count_60 (by decide) (fun c60 => ?_) (fun c60 => ?_)
            · refine lv_iload_n hx hb dX9_count_89 rfl (lv_at hl 5 rfl) ?_
              rcases (show k = 0 ∨ k = 1 ∨ k = 2 ∨ k = 3 ∨ k = 4 ∨ (k < 0 ∨ 4 < k) by omega) with c90 | c90 | c90 | c90 | c90 | c90
              · refine j_tabIn (tgt := 124) hx hb 0 c90 (by decide) (by decide) dX9_count_90 (by decide) (by decide) rfl (by decide) ?_
                refine lv_aload_n hx hb dX9_count_124 rfl (lv_at hl 4 rfl) ?_
                refine j_get (ci := 9) (v := .int (J (V 0 0))) hx hb hts inX9_ hown hK ce_1 rfl 0 (by decide) lk0 (fun _ h9 => h9) rfl dX9_count_125 ?_
                exact r_i hx hb hr hlk (congrArg (fun z => Value.int (J z)) (show (V 0 0 : Int) = if k = 0 then V 0 0 else if k = 1 then V 0 1 else if k = 2 then evO V else if k = 3 then mSy V else if k = 4 then rkO V else -1 from by rw [if_pos (by omega)])) dX9_count_128
              · refine j_tabIn (tgt := 129) hx hb 1 c90 (by decide) (by decide) dX9_count_90 (by decide) (by decide) rfl (by decide) ?_
                refine lv_aload_n hx hb dX9_count_129 rfl (lv_at hl 4 rfl) ?_
                refine j_get (ci := 9) (v := .int (J (V 0 1))) hx hb hts inX9_ hown hK ce_1 rfl 10 (by decide) lk1 (fun _ h9 => h9) rfl dX9_count_130 ?_
                exact r_i hx hb hr hlk (congrArg (fun z => Value.int (J z)) (show (V 0 1 : Int) = if k = 0 then V 0 0 else if k = 1 then V 0 1 else if k = 2 then evO V else if k = 3 then mSy V else if k = 4 then rkO V else -1 from by rw [if_neg (by omega)]; rw [if_pos (by omega)])) dX9_count_133
              · refine j_tabIn (tgt := 134) hx hb 2 c90 (by decide) (by decide) dX9_count_90 (by decide) (by decide) rfl (by decide) ?_
                refine lv_iload_n hx hb dX9_count_134 rfl (lv_at hl 3 rfl) ?_
                exact r_i hx hb hr hlk (congrArg (fun z => Value.int (J z)) (show (lo (fun x o => x + V 6 o) 0 i : Int) = if k = 0 then V 0 0 else if k = 1 then V 0 1 else if k = 2 then evO V else if k = 3 then mSy V else if k = 4 then rkO V else -1 from by rw [if_neg (by omega)]; rw [if_neg (by omega)]; rw [if_pos (by omega)]; rw [show i = V 0 0 by omega]; rfl)) dX9_count_135
              · refine j_tabIn (tgt := 136) hx hb 3 c90 (by decide) (by decide) dX9_count_90 (by decide) (by decide) rfl (by decide) ?_
                refine lv_iload hx hb dX9_count_136 (lv_at hl 1 rfl) ?_
                exact r_i hx hb hr hlk (congrArg (fun z => Value.int (J z)) (show (lo (fun x o => x + pI (V 13 o ≠ 0)) 0 i2 : Int) = if k = 0 then V 0 0 else if k = 1 then V 0 1 else if k = 2 then evO V else if k = 3 then mSy V else if k = 4 then rkO V else -1 from by rw [if_neg (by omega)]; rw [if_neg (by omega)]; rw [if_neg (by omega)]; rw [if_pos (by omega)]; rw [show i2 = 10 by omega]; rfl)) dX9_count_138
              · refine j_tabIn (tgt := 139) hx hb 4 c90 (by decide) (by decide) dX9_count_90 (by decide) (by decide) rfl (by decide) ?_
                refine lv_iload_n hx hb dX9_count_139 rfl (lv_at hl 2 rfl) ?_
                exact r_i hx hb hr hlk (congrArg (fun z => Value.int (J z)) (show (lo (fun x o => x + pI (0 < V 5 o)) 0 i : Int) = if k = 0 then V 0 0 else if k = 1 then V 0 1 else if k = 2 then evO V else if k = 3 then mSy V else if k = 4 then rkO V else -1 from by rw [if_neg (by omega)]; rw [if_neg (by omega)]; rw [if_neg (by omega)]; rw [if_neg (by omega)]; rw [if_pos (by omega)]; rw [show i = V 0 0 by omega]; rfl)) dX9_count_140
              · refine j_tabOut (tgt := 141) hx hb (by omega) (by omega) dX9_count_90 c90 (by decide) ?_
                refine j_const hx hb dX9_count_141 ?_
                exact r_i hx hb hr hlk (congrArg (fun z => Value.int (J z)) (show ((-1) : Int) = if k = 0 then V 0 0 else if k = 1 then V 0 1 else if k = 2 then evO V else if k = 3 then mSy V else if k = 4 then rkO V else -1 from by rw [if_neg (by omega)]; rw [if_neg (by omega)]; rw [if_neg (by omega)]; rw [if_neg (by omega)]; rw [if_neg (by omega)])) dX9_count_142
            · refine lv_iload hx hb dX9_count_63 (lv_at hl 1 rfl) ?_
              refine lv_aload_n hx hb dX9_count_65 rfl (lv_at hl 4 rfl) ?_
              refine j_get (ci := 9) (v := .ref (ad 13)) hx hb hts inX9_ hown hK ce_1 rfl 14 (by decide) lk2 (fun _ h9 => h9) rfl dX9_count_66 ?_
              refine lv_iload hx hb dX9_count_69 (lv_at hl 0 rfl) ?_
              have ce_2 : At G s.heap (ad 13) (eZ G 10 (V 13)) := (hM.2.1 13 (by decide) (by decide))
              refine j_zald hx hb hK ce_2 (by omega) (by omega) (by decide) dX9_count_71 ?_
              have hr_3 := hV.y (y := i2) (by omega) (by omega)
              refine j_eq0 (tgt := 79) hx hb (by omega) (by omega) dX9_count_72 (by decide) (fun c72 => ?_) (fun c72 => ?_)
              · refine j_const hx hb dX9_count_79 ?_
                refine j_add hx hb dX9_count_80 ?_
                refine lv_istore (lv' := [(4, .int (J ((lo (fun x o => x + pI (V 13 o ≠ 0)) 0 i2) + 0))), (5, .int (J i2)), (3, .int (J (lo (fun x o => x + pI (0 < V 5 o)) 0 i))), (2, .int (J (lo (fun x o => x + V 6 o) 0 i))), (0, .ref (ad 0)), (1, .int (J k))]) hx hb dX9_count_81 hl (by decide) rfl (fun ls hl => ?_)
                refine lv_iinc (v := J (i2 + 1)) (lv' := [(5, .int (J (i2 + 1))), (4, .int (J ((lo (fun x o => x + pI (V 13 o ≠ 0)) 0 i2) + 0))), (3, .int (J (lo (fun x o => x + pI (0 < V 5 o)) 0 i))), (2, .int (J (lo (fun x o => x + V 6 o) 0 i))), (0, .ref (ad 0)), (1, .int (J k))]) hx hb dX9_count_83 hl (k := 1) rfl (J_add _ _) (by decide) rfl (fun ls hl => ?_)
                refine lv_goto (tgt := 56) hx hb dX9_count_86 (by decide) ?_
                exact ih56 (i2 + 1) (by omega) (by omega) _ (lv_sub hl [0, 1, 2, 3, 4, 5] (by rw [show (lo (fun x o => x + pI (V 13 o ≠ 0)) 0 (i2 + 1) : Int) = (lo (fun x o => x + pI (V 13 o ≠ 0)) 0 i2) + 0 from (by rw [lo_s _ _ (by omega)]; (try simp only [pI]) <;> (repeat' split) <;> first | rfl | omega | (exfalso; omega) | (exfalso; contradiction) | (exfalso; simp_all))]; try rfl))
              · refine j_const hx hb dX9_count_75 ?_
                refine lv_goto (tgt := 80) hx hb dX9_count_76 (by decide) ?_
                refine j_add hx hb dX9_count_80 ?_
                refine lv_istore (lv' := [(4, .int (J ((lo (fun x o => x + pI (V 13 o ≠ 0)) 0 i2) + 1))), (5, .int (J i2)), (3, .int (J (lo (fun x o => x + pI (0 < V 5 o)) 0 i))), (2, .int (J (lo (fun x o => x + V 6 o) 0 i))), (0, .ref (ad 0)), (1, .int (J k))]) hx hb dX9_count_81 hl (by decide) rfl (fun ls hl => ?_)
                refine lv_iinc (v := J (i2 + 1)) (lv' := [(5, .int (J (i2 + 1))), (4, .int (J ((lo (fun x o => x + pI (V 13 o ≠ 0)) 0 i2) + 1))), (3, .int (J (lo (fun x o => x + pI (0 < V 5 o)) 0 i))), (2, .int (J (lo (fun x o => x + V 6 o) 0 i))), (0, .ref (ad 0)), (1, .int (J k))]) hx hb dX9_count_83 hl (k := 1) rfl (J_add _ _) (by decide) rfl (fun ls hl => ?_)
                refine lv_goto (tgt := 56) hx hb dX9_count_86 (by decide) ?_
                exact ih56 (i2 + 1) (by omega) (by omega) _ (lv_sub hl [0, 1, 2, 3, 4, 5] (by rw [show (lo (fun x o => x + pI (V 13 o ≠ 0)) 0 (i2 + 1) : Int) = (lo (fun x o => x + pI (V 13 o ≠ 0)) 0 i2) + 1 from (by rw [lo_s _ _ (by omega)]; (try simp only [pI]) <;> (repeat' split) <;> first | rfl | omega | (exfalso; omega) | (exfalso; contradiction) | (exfalso; simp_all))]; try rfl))
        exact lp56 11 0 (by omega) (by omega) _ (lv_sub hl [0, 1, 2, 3, 4, 5] (by rw [show (lo (fun x o => x + pI (V 13 o ≠ 0)) 0 0 : Int) = 0 from (by rfl)]; try rfl))
      · refine lv_iload_n hx hb dX9_count_19 rfl (lv_at hl 3 rfl) ?_
        refine lv_aload_n hx hb dX9_count_20 rfl (lv_at hl 4 rfl) ?_
        refine j_get (ci := 9) (v := .ref (ad 6)) hx hb hts inX9_ hown hK ce_1 rfl 6 (by decide) lk3 (fun _ h9 => h9) rfl dX9_count_21 ?_
        refine lv_iload hx hb dX9_count_24 (lv_at hl 0 rfl) ?_
        have ce_4 : At G s.heap (ad 6) (eI G 40 (V 6)) := (hM.2.1 6 (by decide) (by decide))
        refine j_iald hx hb hK ce_4 (by omega) (by omega) (by decide) dX9_count_26 ?_
        have hr_5 := hV.h (i := i) (by omega) (by omega)
        refine j_add hx hb dX9_count_27 ?_
        refine lv_istore_n (lv' := [(2, .int (J ((lo (fun x o => x + V 6 o) 0 i) + ((V 6) i)))), (5, .int (J i)), (4, .int (J 0)), (3, .int (J (lo (fun x o => x + pI (0 < V 5 o)) 0 i))), (0, .ref (ad 0)), (1, .int (J k))]) hx hb dX9_count_28 rfl hl (by decide) rfl (fun ls hl => ?_)
        refine lv_iload_n hx hb dX9_count_29 rfl (lv_at hl 3 rfl) ?_
        refine lv_aload_n hx hb dX9_count_30 rfl (lv_at hl 4 rfl) ?_
        refine j_get (ci := 9) (v := .ref (ad 5)) hx hb hts inX9_ hown hK ce_1 rfl 5 (by decide) lk4 (fun _ h9 => h9) rfl dX9_count_31 ?_
        refine lv_iload hx hb dX9_count_34 (lv_at hl 1 rfl) ?_
        have ce_6 : At G s.heap (ad 5) (eI G 40 (V 5)) := (hM.2.1 5 (by decide) (by decide))
        refine j_iald hx hb hK ce_6 (by omega) (by omega) (by decide) dX9_count_36 ?_
        refine j_le0 (tgt := 44) hx hb (by omega) (by omega) dX9_count_37 (by decide) (fun c37 => ?_) (fun c37 => ?_)
        · refine j_const hx hb dX9_count_44 ?_
          refine j_add hx hb dX9_count_45 ?_
          refine lv_istore_n (lv' := [(3, .int (J ((lo (fun x o => x + pI (0 < V 5 o)) 0 i) + 0))), (2, .int (J ((lo (fun x o => x + V 6 o) 0 i) + ((V 6) i)))), (5, .int (J i)), (4, .int (J 0)), (0, .ref (ad 0)), (1, .int (J k))]) hx hb dX9_count_46 rfl hl (by decide) rfl (fun ls hl => ?_)
          refine lv_iinc (v := J (i + 1)) (lv' := [(5, .int (J (i + 1))), (3, .int (J ((lo (fun x o => x + pI (0 < V 5 o)) 0 i) + 0))), (2, .int (J ((lo (fun x o => x + V 6 o) 0 i) + ((V 6) i)))), (4, .int (J 0)), (0, .ref (ad 0)), (1, .int (J k))]) hx hb dX9_count_47 hl (k := 2) rfl (J_add _ _) (by decide) rfl (fun ls hl => ?_)
          refine lv_goto (tgt := 10) hx hb dX9_count_50 (by decide) ?_
          exact ih10 (i + 1) (by omega) (by omega) _ (lv_sub hl [0, 3, 1, 2, 4, 5] (by rw [show (lo (fun x o => x + pI (0 < V 5 o)) 0 (i + 1) : Int) = (lo (fun x o => x + pI (0 < V 5 o)) 0 i) + 0 from (by rw [lo_s _ _ (by omega)]; (try simp only [pI]) <;> (repeat' split) <;> first | rfl | omega | (exfalso; omega) | (exfalso; contradiction) | (exfalso; simp_all))]; rw [show (lo (fun x o => x + V 6 o) 0 (i + 1) : Int) = (lo (fun x o => x + V 6 o) 0 i) + ((V 6) i) from (by rw [lo_s _ _ (by omega)])]; try rfl))
        · refine j_const hx hb dX9_count_40 ?_
          refine lv_goto (tgt := 45) hx hb dX9_count_41 (by decide) ?_
          refine j_add hx hb dX9_count_45 ?_
          refine lv_istore_n (lv' := [(3, .int (J ((lo (fun x o => x + pI (0 < V 5 o)) 0 i) + 1))), (2, .int (J ((lo (fun x o => x + V 6 o) 0 i) + ((V 6) i)))), (5, .int (J i)), (4, .int (J 0)), (0, .ref (ad 0)), (1, .int (J k))]) hx hb dX9_count_46 rfl hl (by decide) rfl (fun ls hl => ?_)
          refine lv_iinc (v := J (i + 1)) (lv' := [(5, .int (J (i + 1))), (3, .int (J ((lo (fun x o => x + pI (0 < V 5 o)) 0 i) + 1))), (2, .int (J ((lo (fun x o => x + V 6 o) 0 i) + ((V 6) i)))), (4, .int (J 0)), (0, .ref (ad 0)), (1, .int (J k))]) hx hb dX9_count_47 hl (k := 2) rfl (J_add _ _) (by decide) rfl (fun ls hl => ?_)
          refine lv_goto (tgt := 10) hx hb dX9_count_50 (by decide) ?_
          exact ih10 (i + 1) (by omega) (by omega) _ (lv_sub hl [0, 3, 1, 2, 4, 5] (by rw [show (lo (fun x o => x + pI (0 < V 5 o)) 0 (i + 1) : Int) = (lo (fun x o => x + pI (0 < V 5 o)) 0 i) + 1 from (by rw [lo_s _ _ (by omega)]; (try simp only [pI]) <;> (repeat' split) <;> first | rfl | omega | (exfalso; omega) | (exfalso; contradiction) | (exfalso; simp_all))]; rw [show (lo (fun x o => x + V 6 o) 0 (i + 1) : Int) = (lo (fun x o => x + V 6 o) 0 i) + ((V 6) i) from (by rw [lo_s _ _ (by omega)])]; try rfl))
  exact lp10 41 0 (by omega) (by omega) _ (lv_sub hl [0, 1, 2, 3, 4, 5] (by rw [show (lo (fun x o => x + pI (0 < V 5 o)) 0 0 : Int) = 0 from (by rfl)]; rw [show (lo (fun x o => x + V 6 o) 0 0 : Int) = 0 from (by rfl)]; try rfl))
