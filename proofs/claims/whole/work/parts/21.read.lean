abbrev rmX1_isFull : Room := { frames := 0, cells := 0, slots := 0, locals := 0 }
set_option maxHeartbeats 4000000 in
set_option maxRecDepth 100000 in
theorem c_X1_isFull (l : Launch) (G : GG) (q b : Nat) (L : List EvT) : MP l G yX1_isFull wsX1_isFull rmX1_isFull [.ref q] (fun H => Evs G H q b L) (.int (J (pI (12 ≤ L.length))) : Value) := by
  refine MP.of (cc := cX1_isFull) (maxL := 1) (ret := (some .boolean)) (by decide) rfl (Nat.le_of_ble_eq_true rfl) ?_
  intro p e s m below meth c hx hb hr hml hown hts hlk hK hP ls hl
  have hown : s.vm.findClass RX1 = some m.cls := hown
  have hl : lv_has ls 1 [(0, .ref q)] := hl
  have inX1_ : ∀ w ∈ u_ws RX1 TX1 2, w ∈ wsX1_isFull := by decide +kernel
  have lk0 := hts (.fieldLink RX1 17 "RateBook$Events" "told" "I") (by decide +kernel)
  have lk1 := hts (.fieldLink RX1 11 "RateBook$Events" "byDay" "[LRateBook$Event;") (by decide +kernel)
  obtain ⟨hE1, hE2, hE3, hE4, hE5⟩ := (show Evs G s.heap q b L from hP)
  refine lv_aload_n hx hb dX1_isFull_0 rfl (lv_at hl 0 rfl) ?_
  refine j_get (ci := 1) (v := .int (J ((L.length : Int)))) hx hb hts inX1_ hown hK hE1 rfl 1 (by decide) lk0 (fun _ h9 => h9) rfl dX1_isFull_1 ?_
  refine lv_aload_n hx hb dX1_isFull_4 rfl (lv_at hl 0 rfl) ?_
  refine j_get (ci := 1) (v := .ref b) hx hb hts inX1_ hown hK hE1 rfl 0 (by decide) lk1 (fun _ h9 => h9) rfl dX1_isFull_5 ?_
  refine j_alQ (C := RX0) hx hb hK hE2 rfl dX1_isFull_8 ?_
  refine j_re (y := 12) rfl ?_
  refine j_clt (tgt := 16) hx hb (by omega) (by omega) (by decide) (by decide) dX1_isFull_9 (by decide) (fun c9 => ?_) (fun c9 => ?_)
  · refine j_const hx hb dX1_isFull_16 ?_
    exact r_z hx hb hr hlk rfl (congrArg (fun z => Value.int (J z)) (show (0 : Int) = pI (12 ≤ L.length) from (pI_f (by omega)).symm)) dX1_isFull_17
  · refine j_const hx hb dX1_isFull_12 ?_
    refine lv_goto (tgt := 17) hx hb dX1_isFull_13 (by decide) ?_
    exact r_z hx hb hr hlk rfl (congrArg (fun z => Value.int (J z)) (show (1 : Int) = pI (12 ≤ L.length) from (pI_t (by omega)).symm)) dX1_isFull_17

abbrev rmX1_latestOf : Room := { frames := 0, cells := 0, slots := 0, locals := 0 }
set_option maxHeartbeats 4000000 in
set_option maxRecDepth 100000 in
theorem c_X1_latestOf (l : Launch) (G : GG) (q b : Nat) (L : List EvT) (k d : Int) (g_k : -2147483648 ≤ k ∧ k < 2147483648) (g_d : -2147483648 ≤ d ∧ d < 2147483648) : MP l G yX1_latestOf wsX1_latestOf rmX1_latestOf [.ref q, .int (J k), .int (J d)] (fun H => Evs G H q b L) (va_rf (Option.map eAd (lat L k d)) : Value) := by
  refine MP.of (cc := cX1_latestOf) (maxL := 6) (ret := (some (.object "RateBook$Event"))) (by decide) rfl (Nat.le_of_ble_eq_true rfl) ?_
  intro p e s m below meth c hx hb hr hml hown hts hlk hK hP ls hl
  have hown : s.vm.findClass RX1 = some m.cls := hown
  have hl : lv_has ls 6 [(0, .ref q), (1, .int (J k)), (2, .int (J d))] := hl
  have inX0_ : ∀ w ∈ u_ws RX0 TX0 4, w ∈ wsX1_latestOf := by decide +kernel
  have inX1_ : ∀ w ∈ u_ws RX1 TX1 2, w ∈ wsX1_latestOf := by decide +kernel
  have lk0 := hts (.fieldLink RX1 11 "RateBook$Events" "byDay" "[LRateBook$Event;") (by decide +kernel)
  have lk1 := hts (.fieldLink RX1 30 "RateBook$Event" "kind" "I") (by decide +kernel)
  have lk2 := hts (.fieldLink RX1 21 "RateBook$Event" "day" "I") (by decide +kernel)
  obtain ⟨hE1, hE2, hE3, hE4, hE5⟩ := (show Evs G s.heap q b L from hP)
  refine lv_null hx hb dX1_latestOf_0 ?_
  refine lv_astore_nN (lv' := [(3, .null), (0, .ref q), (1, .int (J k)), (2, .int (J d))]) hx hb dX1_latestOf_1 rfl hl (by decide) rfl (fun ls hl => ?_)
  refine j_const hx hb dX1_latestOf_2 ?_
  refine lv_istore (lv' := [(4, .int (J 0)), (3, .null), (0, .ref q), (1, .int (J k)), (2, .int (J d))]) hx hb dX1_latestOf_3 hl (by decide) rfl (fun ls hl => ?_)
  have lp5 : ∀ (n : Nat) (i : Int) (i0 : 0 ≤ i ∧ i ≤ 12) (hm : 12 - i < (n : Int)) (ls : Array Slot) (hl : lv_has ls 6 [(4, .int (J i)), (3, va_rf (Option.map eAd (lo (ls_ L (gLat k d)) none i))), (0, .ref q), (1, .int (J k)), (2, .int (J d))]), W p l e (headSpec wsX1_latestOf rmX1_latestOf).room s m ([.ref q, .int (J k), .int (J d)] : List Value).toArray below meth c s.heap [] 0 0 (MQ below (k2_QcV (va_rf (Option.map eAd (lat L k d)) : Value)) ([.ref q, .int (J k), .int (J d)] : List Value).toArray s 0 0 (fun _ => False)) (F0 m 5 ls []) := by
    intro n
    induction n with
    | zero =>
      intro i i0 hm ls hl
      exact absurd hm (by omega)
    | succ n ih5 =>
      intro i i0 hm ls hl
      refine lv_iload hx hb dX1_latestOf_5 (lv_at hl 0 rfl) ?_
      refine lv_aload_n hx hb dX1_latestOf_7 rfl (lv_at hl 2 rfl) ?_
      refine j_get (ci := 1) (v := .ref b) hx hb hts inX1_ hown hK hE1 rfl 0 (by decide) lk0 (fun _ h9 => h9) rfl dX1_latestOf_8 ?_
      refine j_alQ (C := RX0) hx hb hK hE2 rfl dX1_latestOf_11 ?_
      refine j_re (y := 12) rfl ?_
      refine j_cge (tgt := 56) hx hb (by omega) (by omega) (by decide) (by decide) dX1_latestOf_12 (by decide) (fun c12 => ?_) (fun c12 => ?_)
      · refine j_aload_nQ hx hb dX1_latestOf_56 rfl (lv_at hl 1 rfl) ?_
        exact r_a hx hb hr hlk (o := Option.map eAd (lo (ls_ L (gLat k d)) none i)) rfl (congrArg va_rf (show (Option.map eAd (lo (ls_ L (gLat k d)) none i) : Option Nat) = Option.map eAd (lat L k d) from by rw [lat_lo hE3 (by omega)])) dX1_latestOf_57
      · refine lv_aload_n hx hb dX1_latestOf_15 rfl (lv_at hl 2 rfl) ?_
        refine j_get (ci := 1) (v := .ref b) hx hb hts inX1_ hown hK hE1 rfl 0 (by decide) lk0 (fun _ h9 => h9) rfl dX1_latestOf_16 ?_
        refine lv_iload hx hb dX1_latestOf_19 (lv_at hl 0 rfl) ?_
        refine j_aald (C := RX0) hx hb hK hE2 rfl (by omega) (by omega) (by decide) dX1_latestOf_21 ?_
        rcases spE : L[(i).toNat]? with _ | e
        · refine j_qn (qL_n (by omega) spE) ?_
          refine lv_astoreN (lv' := [(5, .null), (4, .int (J i)), (3, va_rf (Option.map eAd (lo (ls_ L (gLat k d)) none i))), (0, .ref q), (1, .int (J k)), (2, .int (J d))]) hx hb dX1_latestOf_22 hl (by decide) rfl (fun ls hl => ?_)
          refine lv_aloadN hx hb dX1_latestOf_24 (lv_at hl 0 rfl) ?_
          refine lv_ifnullN (tgt := 50) hx hb dX1_latestOf_26 (by decide) ?_
          refine lv_iinc (v := J (i + 1)) (lv' := [(4, .int (J (i + 1))), (5, .null), (3, va_rf (Option.map eAd (lo (ls_ L (gLat k d)) none i))), (0, .ref q), (1, .int (J k)), (2, .int (J d))]) hx hb dX1_latestOf_50 hl (k := 1) rfl (J_add _ _) (by decide) (by simp [va_rf_cat]) (fun ls hl => ?_)
          refine lv_goto (tgt := 5) hx hb dX1_latestOf_53 (by decide) ?_
          exact ih5 (i + 1) (by omega) (by omega) _ (lv_sub hl [0, 2, 3, 4, 5] (by rw [show (Option.map eAd (lo (ls_ L (gLat k d)) none (i + 1)) : Option Nat) = Option.map eAd (lo (ls_ L (gLat k d)) none i) from (by rw [lo_s _ _ (by omega)]; simp only [ls_, spE, gLat] <;> (repeat' split) <;> first | rfl | omega | (exfalso; omega))]; try rfl))
        · refine j_qs (b := eAd e) (qL_s (by omega) spE) ?_
          have hme : e ∈ L := List.mem_of_getElem? spE
          have hce : At G s.heap (eAd e) (eO 0 [.int (J (eNo e)), .int (J (eDy e)), .int (J (eKi e)), .int (J (eVa e))]) := hE4 e hme
          obtain ⟨ok1, ok2, ok3⟩ := hE5 e hme
          refine lv_astore (lv' := [(5, .ref (eAd e)), (4, .int (J i)), (3, va_rf (Option.map eAd (lo (ls_ L (gLat k d)) none i))), (0, .ref q), (1, .int (J k)), (2, .int (J d))]) hx hb dX1_latestOf_22 hl (by decide) rfl (fun ls hl => ?_)
          refine lv_aload hx hb dX1_latestOf_24 (lv_at hl 0 rfl) ?_
          refine lv_ifnull hx hb dX1_latestOf_26 ?_
          refine lv_aload hx hb dX1_latestOf_29 (lv_at hl 0 rfl) ?_
          refine j_get (ci := 0) (v := .int (J (eKi e))) hx hb hts inX0_ hown hK hce rfl 2 (by decide) lk1 (fun _ h9 => h9) rfl dX1_latestOf_31 ?_
          refine lv_iload_n hx hb dX1_latestOf_34 rfl (lv_at hl 4 rfl) ?_
          refine j_cne (tgt := 50) hx hb (by omega) (by omega) (by omega) (by omega) dX1_latestOf_35 (by decide) (fun c35 => ?_) (fun c35 => ?_)
          · refine lv_iinc (v := J (i + 1)) (lv' := [(4, .int (J (i + 1))), (5, .ref (eAd e)), (3, va_rf (Option.map eAd (lo (ls_ L (gLat k d)) none i))), (0, .ref q), (1, .int (J k)), (2, .int (J d))]) hx hb dX1_latestOf_50 hl (k := 1) rfl (J_add _ _) (by decide) (by simp [va_rf_cat]) (fun ls hl => ?_)
            refine lv_goto (tgt := 5) hx hb dX1_latestOf_53 (by decide) ?_
            exact ih5 (i + 1) (by omega) (by omega) _ (lv_sub hl [0, 2, 3, 4, 5] (by rw [show (Option.map eAd (lo (ls_ L (gLat k d)) none (i + 1)) : Option Nat) = Option.map eAd (lo (ls_ L (gLat k d)) none i) from (by rw [lo_s _ _ (by omega)]; simp only [ls_, spE, gLat] <;> (repeat' split) <;> first | rfl | omega | (exfalso; omega))]; try rfl))
          · refine lv_aload hx hb dX1_latestOf_38 (lv_at hl 0 rfl) ?_
            refine j_get (ci := 0) (v := .int (J (eDy e))) hx hb hts inX0_ hown hK hce rfl 1 (by decide) lk2 (fun _ h9 => h9) rfl dX1_latestOf_40 ?_
            refine lv_iload_n hx hb dX1_latestOf_43 rfl (lv_at hl 5 rfl) ?_
            refine j_cgt (tgt := 50) hx hb (by omega) (by omega) (by omega) (by omega) dX1_latestOf_44 (by decide) (fun c44 => ?_) (fun c44 => ?_)
            · refine lv_iinc (v := J (i + 1)) (lv' := [(4, .int (J (i + 1))), (5, .ref (eAd e)), (3, va_rf (Option.map eAd (lo (ls_ L (gLat k d)) none i))), (0, .ref q), (1, .int (J k)), (2, .int (J d))]) hx hb dX1_latestOf_50 hl (k := 1) rfl (J_add _ _) (by decide) (by simp [va_rf_cat]) (fun ls hl => ?_)
              refine lv_goto (tgt := 5) hx hb dX1_latestOf_53 (by decide) ?_
              exact ih5 (i + 1) (by omega) (by omega) _ (lv_sub hl [0, 2, 3, 4, 5] (by rw [show (Option.map eAd (lo (ls_ L (gLat k d)) none (i + 1)) : Option Nat) = Option.map eAd (lo (ls_ L (gLat k d)) none i) from (by rw [lo_s _ _ (by omega)]; simp only [ls_, spE, gLat] <;> (repeat' split) <;> first | rfl | omega | (exfalso; omega))]; try rfl))
            · refine lv_aload hx hb dX1_latestOf_47 (lv_at hl 0 rfl) ?_
              refine lv_astore_n (lv' := [(3, .ref (eAd e)), (5, .ref (eAd e)), (4, .int (J i)), (0, .ref q), (1, .int (J k)), (2, .int (J d))]) hx hb dX1_latestOf_49 rfl hl (by decide) rfl (fun ls hl => ?_)
              refine lv_iinc (v := J (i + 1)) (lv' := [(4, .int (J (i + 1))), (3, .ref (eAd e)), (5, .ref (eAd e)), (0, .ref q), (1, .int (J k)), (2, .int (J d))]) hx hb dX1_latestOf_50 hl (k := 2) rfl (J_add _ _) (by decide) rfl (fun ls hl => ?_)
              refine lv_goto (tgt := 5) hx hb dX1_latestOf_53 (by decide) ?_
              exact ih5 (i + 1) (by omega) (by omega) _ (lv_sub hl [0, 1, 3, 4, 5] (by rw [show (Option.map eAd (lo (ls_ L (gLat k d)) none (i + 1)) : Option Nat) = some (eAd e) from (by rw [lo_s _ _ (by omega)]; simp only [ls_, spE, gLat] <;> (repeat' split) <;> first | rfl | omega | (exfalso; omega))]; try rfl))
  exact lp5 13 0 (by omega) (by omega) _ (lv_sub hl [0, 1, 2, 3, 4] (by rw [show (Option.map eAd (lo (ls_ L (gLat k d)) none 0) : Option Nat) = none from (by rfl)]; try rfl))

abbrev rmX1_cutDown : Room := { frames := 0, cells := 0, slots := 0, locals := 0 }
set_option maxHeartbeats 4000000 in
set_option maxRecDepth 100000 in
theorem c_X1_cutDown (l : Launch) (G : GG) (q b : Nat) (L : List EvT) (v f t : Int) (h_v : 0 ≤ v ∧ v ≤ 50000000) (g_f : -2147483648 ≤ f ∧ f < 2147483648) (g_t : -2147483648 ≤ t ∧ t < 2147483648) : MP l G yX1_cutDown wsX1_cutDown rmX1_cutDown [.ref q, .long (JL v), .int (J f), .int (J t)] (fun H => Evs G H q b L) (.long (JL (ctd L f t v)) : Value) := by
  refine MP.of (cc := cX1_cutDown) (maxL := 9) (ret := (some .long)) (by decide) rfl (Nat.le_of_ble_eq_true rfl) ?_
  intro p e s m below meth c hx hb hr hml hown hts hlk hK hP ls hl
  have hown : s.vm.findClass RX1 = some m.cls := hown
  have hl : lv_has ls 9 [(0, .ref q), (1, .long (JL v)), (3, .int (J f)), (4, .int (J t))] := hl
  have inX0_ : ∀ w ∈ u_ws RX0 TX0 4, w ∈ wsX1_cutDown := by decide +kernel
  have inX1_ : ∀ w ∈ u_ws RX1 TX1 2, w ∈ wsX1_cutDown := by decide +kernel
  have lk0 := hts (.fieldLink RX1 11 "RateBook$Events" "byDay" "[LRateBook$Event;") (by decide +kernel)
  have lk1 := hts (.fieldLink RX1 30 "RateBook$Event" "kind" "I") (by decide +kernel)
  have lk2 := hts (.fieldLink RX1 21 "RateBook$Event" "day" "I") (by decide +kernel)
  have lk3 := hts (.fieldLink RX1 33 "RateBook$Event" "value" "I") (by decide +kernel)
  have lk4 := hts (.constantLong RX1 36 1000) (by decide +kernel)
  obtain ⟨hE1, hE2, hE3, hE4, hE5⟩ := (show Evs G s.heap q b L from hP)
  refine lv_lload_n hx hb dX1_cutDown_0 rfl (lv_at hl 1 rfl) ?_
  refine lv_lstore (lv' := [(5, .long (JL v)), (0, .ref q), (1, .long (JL v)), (3, .int (J f)), (4, .int (J t))]) hx hb dX1_cutDown_1 hl (by decide) rfl (fun ls hl => ?_)
  refine j_const hx hb dX1_cutDown_3 ?_
  refine lv_istore (lv' := [(7, .int (J 0)), (5, .long (JL v)), (0, .ref q), (1, .long (JL v)), (3, .int (J f)), (4, .int (J t))]) hx hb dX1_cutDown_4 hl (by decide) rfl (fun ls hl => ?_)
  have lp6 : ∀ (n : Nat) (i : Int) (i0 : 0 ≤ i ∧ i ≤ 12) (hm : 12 - i < (n : Int)) (ls : Array Slot) (hl : lv_has ls 9 [(7, .int (J i)), (5, .long (JL (lo (ls_ L (gCtd f t)) v i))), (0, .ref q), (1, .long (JL v)), (3, .int (J f)), (4, .int (J t))]), W p l e (headSpec wsX1_cutDown rmX1_cutDown).room s m ([.ref q, .long (JL v), .int (J f), .int (J t)] : List Value).toArray below meth c s.heap [] 0 0 (MQ below (k2_QcV (.long (JL (ctd L f t v)) : Value)) ([.ref q, .long (JL v), .int (J f), .int (J t)] : List Value).toArray s 0 0 (fun _ => False)) (F0 m 6 ls []) := by
    intro n
    induction n with
    | zero =>
      intro i i0 hm ls hl
      exact absurd hm (by omega)
    | succ n ih6 =>
      intro i i0 hm ls hl
      have hrg := gCtd_rng (f := f) (t := t) hE5 h_v.1 h_v.2 i0.1
      refine lv_iload hx hb dX1_cutDown_6 (lv_at hl 0 rfl) ?_
      refine lv_aload_n hx hb dX1_cutDown_8 rfl (lv_at hl 2 rfl) ?_
      refine j_get (ci := 1) (v := .ref b) hx hb hts inX1_ hown hK hE1 rfl 0 (by decide) lk0 (fun _ h9 => h9) rfl dX1_cutDown_9 ?_
      refine j_alQ (C := RX0) hx hb hK hE2 rfl dX1_cutDown_12 ?_
      refine j_re (y := 12) rfl ?_
      refine j_cge (tgt := 83) hx hb (by omega) (by omega) (by decide) (by decide) dX1_cutDown_13 (by decide) (fun c13 => ?_) (fun c13 => ?_)
      · refine lv_lload hx hb dX1_cutDown_83 (lv_at hl 1 rfl) ?_
        exact r_l hx hb hr hlk (congrArg (fun z => Value.long (JL z)) (show (lo (ls_ L (gCtd f t)) v i : Int) = ctd L f t v from by rw [ctd_lo hE3 (by omega)])) dX1_cutDown_85
      · refine lv_aload_n hx hb dX1_cutDown_16 rfl (lv_at hl 2 rfl) ?_
        refine j_get (ci := 1) (v := .ref b) hx hb hts inX1_ hown hK hE1 rfl 0 (by decide) lk0 (fun _ h9 => h9) rfl dX1_cutDown_17 ?_
        refine lv_iload hx hb dX1_cutDown_20 (lv_at hl 0 rfl) ?_
        refine j_aald (C := RX0) hx hb hK hE2 rfl (by omega) (by omega) (by decide) dX1_cutDown_22 ?_
        rcases spE : L[(i).toNat]? with _ | e
        · refine j_qn (qL_n (by omega) spE) ?_
          refine lv_astoreN (lv' := [(8, .null), (7, .int (J i)), (5, .long (JL (lo (ls_ L (gCtd f t)) v i))), (0, .ref q), (1, .long (JL v)), (3, .int (J f)), (4, .int (J t))]) hx hb dX1_cutDown_23 hl (by decide) rfl (fun ls hl => ?_)
          refine lv_aloadN hx hb dX1_cutDown_25 (lv_at hl 0 rfl) ?_
          refine lv_ifnullN (tgt := 77) hx hb dX1_cutDown_27 (by decide) ?_
          refine lv_iinc (v := J (i + 1)) (lv' := [(7, .int (J (i + 1))), (8, .null), (5, .long (JL (lo (ls_ L (gCtd f t)) v i))), (0, .ref q), (1, .long (JL v)), (3, .int (J f)), (4, .int (J t))]) hx hb dX1_cutDown_77 hl (k := 1) rfl (J_add _ _) (by decide) rfl (fun ls hl => ?_)
          refine lv_goto (tgt := 6) hx hb dX1_cutDown_80 (by decide) ?_
          exact ih6 (i + 1) (by omega) (by omega) _ (lv_sub hl [0, 2, 3, 4, 5, 6] (by rw [show (lo (ls_ L (gCtd f t)) v (i + 1) : Int) = lo (ls_ L (gCtd f t)) v i from (by rw [lo_s _ _ (by omega)]; simp only [ls_, spE, gCtd] <;> (repeat' split) <;> first | rfl | omega | (exfalso; omega))]; try rfl))
        · refine j_qs (b := eAd e) (qL_s (by omega) spE) ?_
          have hme : e ∈ L := List.mem_of_getElem? spE
          have hce : At G s.heap (eAd e) (eO 0 [.int (J (eNo e)), .int (J (eDy e)), .int (J (eKi e)), .int (J (eVa e))]) := hE4 e hme
          obtain ⟨ok1, ok2, ok3⟩ := hE5 e hme
          refine lv_astore (lv' := [(8, .ref (eAd e)), (7, .int (J i)), (5, .long (JL (lo (ls_ L (gCtd f t)) v i))), (0, .ref q), (1, .long (JL v)), (3, .int (J f)), (4, .int (J t))]) hx hb dX1_cutDown_23 hl (by decide) rfl (fun ls hl => ?_)
          refine lv_aload hx hb dX1_cutDown_25 (lv_at hl 0 rfl) ?_
          refine lv_ifnull hx hb dX1_cutDown_27 ?_
          refine lv_aload hx hb dX1_cutDown_30 (lv_at hl 0 rfl) ?_
          refine j_get (ci := 0) (v := .int (J (eKi e))) hx hb hts inX0_ hown hK hce rfl 2 (by decide) lk1 (fun _ h9 => h9) rfl dX1_cutDown_32 ?_
          refine j_const hx hb dX1_cutDown_35 ?_
          refine j_cne (tgt := 77) hx hb (by omega) (by omega) (by decide) (by decide) dX1_cutDown_36 (by decide) (fun c36 => ?_) (fun c36 => ?_)
          · refine lv_iinc (v := J (i + 1)) (lv' := [(7, .int (J (i + 1))), (8, .ref (eAd e)), (5, .long (JL (lo (ls_ L (gCtd f t)) v i))), (0, .ref q), (1, .long (JL v)), (3, .int (J f)), (4, .int (J t))]) hx hb dX1_cutDown_77 hl (k := 1) rfl (J_add _ _) (by decide) rfl (fun ls hl => ?_)
            refine lv_goto (tgt := 6) hx hb dX1_cutDown_80 (by decide) ?_
            exact ih6 (i + 1) (by omega) (by omega) _ (lv_sub hl [0, 2, 3, 4, 5, 6] (by rw [show (lo (ls_ L (gCtd f t)) v (i + 1) : Int) = lo (ls_ L (gCtd f t)) v i from (by rw [lo_s _ _ (by omega)]; simp only [ls_, spE, gCtd] <;> (repeat' split) <;> first | rfl | omega | (exfalso; omega))]; try rfl))
          · refine lv_aload hx hb dX1_cutDown_39 (lv_at hl 0 rfl) ?_
            refine j_get (ci := 0) (v := .int (J (eDy e))) hx hb hts inX0_ hown hK hce rfl 1 (by decide) lk2 (fun _ h9 => h9) rfl dX1_cutDown_41 ?_
            refine lv_iload_n hx hb dX1_cutDown_44 rfl (lv_at hl 5 rfl) ?_
            refine j_clt (tgt := 77) hx hb (by omega) (by omega) (by omega) (by omega) dX1_cutDown_45 (by decide) (fun c45 => ?_) (fun c45 => ?_)
            · refine lv_iinc (v := J (i + 1)) (lv' := [(7, .int (J (i + 1))), (8, .ref (eAd e)), (5, .long (JL (lo (ls_ L (gCtd f t)) v i))), (0, .ref q), (1, .long (JL v)), (3, .int (J f)), (4, .int (J t))]) hx hb dX1_cutDown_77 hl (k := 1) rfl (J_add _ _) (by decide) rfl (fun ls hl => ?_)
              refine lv_goto (tgt := 6) hx hb dX1_cutDown_80 (by decide) ?_
              exact ih6 (i + 1) (by omega) (by omega) _ (lv_sub hl [0, 2, 3, 4, 5, 6] (by rw [show (lo (ls_ L (gCtd f t)) v (i + 1) : Int) = lo (ls_ L (gCtd f t)) v i from (by rw [lo_s _ _ (by omega)]; simp only [ls_, spE, gCtd] <;> (repeat' split) <;> first | rfl | omega | (exfalso; omega))]; try rfl))
            · refine lv_aload hx hb dX1_cutDown_48 (lv_at hl 0 rfl) ?_
              refine j_get (ci := 0) (v := .int (J (eDy e))) hx hb hts inX0_ hown hK hce rfl 1 (by decide) lk2 (fun _ h9 => h9) rfl dX1_cutDown_50 ?_
              refine lv_iload hx hb dX1_cutDown_53 (lv_at hl 6 rfl) ?_
              refine j_cgt (tgt := 77) hx hb (by omega) (by omega) (by omega) (by omega) dX1_cutDown_55 (by decide) (fun c55 => ?_) (fun c55 => ?_)
              · refine lv_iinc (v := J (i + 1)) (lv' := [(7, .int (J (i + 1))), (8, .ref (eAd e)), (5, .long (JL (lo (ls_ L (gCtd f t)) v i))), (0, .ref q), (1, .long (JL v)), (3, .int (J f)), (4, .int (J t))]) hx hb dX1_cutDown_77 hl (k := 1) rfl (J_add _ _) (by decide) rfl (fun ls hl => ?_)
                refine lv_goto (tgt := 6) hx hb dX1_cutDown_80 (by decide) ?_
                exact ih6 (i + 1) (by omega) (by omega) _ (lv_sub hl [0, 2, 3, 4, 5, 6] (by rw [show (lo (ls_ L (gCtd f t)) v (i + 1) : Int) = lo (ls_ L (gCtd f t)) v i from (by rw [lo_s _ _ (by omega)]; simp only [ls_, spE, gCtd] <;> (repeat' split) <;> first | rfl | omega | (exfalso; omega))]; try rfl))
              · have hmm := mulb (a := lo (ls_ L (gCtd f t)) v i) (b := 1000 - eVa e) (A := 50000000) (B := 1000) hrg.1 hrg.2 (by omega) (by omega)
                refine lv_lload hx hb dX1_cutDown_58 (lv_at hl 2 rfl) ?_
                refine j_si hx hb dX1_cutDown_60 (by decide +kernel) ?_
                refine lv_aload hx hb dX1_cutDown_63 (lv_at hl 0 rfl) ?_
                refine j_get (ci := 0) (v := .int (J (eVa e))) hx hb hts inX0_ hown hK hce rfl 3 (by decide) lk3 (fun _ h9 => h9) rfl dX1_cutDown_65 ?_
                refine j_sub hx hb dX1_cutDown_68 ?_
                refine j_i2l hx hb (by omega) (by omega) dX1_cutDown_69 ?_
                refine j_lmul hx hb dX1_cutDown_70 ?_
                refine j_ldc2 hx hb hown lk4 (z := 1000) rfl dX1_cutDown_71 ?_
                refine j_ldiv hx hb (by omega) (by omega) (by decide) (by decide) dX1_cutDown_74 ?_
                refine lv_lstore (lv' := [(5, .long (JL (((lo (ls_ L (gCtd f t)) v i) * (1000 - (eVa e))) / 1000))), (8, .ref (eAd e)), (7, .int (J i)), (0, .ref q), (1, .long (JL v)), (3, .int (J f)), (4, .int (J t))]) hx hb dX1_cutDown_75 hl (by decide) rfl (fun ls hl => ?_)
                refine lv_iinc (v := J (i + 1)) (lv' := [(7, .int (J (i + 1))), (5, .long (JL (((lo (ls_ L (gCtd f t)) v i) * (1000 - (eVa e))) / 1000))), (8, .ref (eAd e)), (0, .ref q), (1, .long (JL v)), (3, .int (J f)), (4, .int (J t))]) hx hb dX1_cutDown_77 hl (k := 2) rfl (J_add _ _) (by decide) rfl (fun ls hl => ?_)
                refine lv_goto (tgt := 6) hx hb dX1_cutDown_80 (by decide) ?_
                exact ih6 (i + 1) (by omega) (by omega) _ (lv_sub hl [0, 1, 3, 4, 5, 6] (by rw [show (lo (ls_ L (gCtd f t)) v (i + 1) : Int) = ((lo (ls_ L (gCtd f t)) v i) * (1000 - (eVa e))) / 1000 from (by rw [lo_s _ _ (by omega)]; simp only [ls_, spE, gCtd] <;> (repeat' split) <;> first | rfl | omega | (exfalso; omega))]; try rfl))
  exact lp6 13 0 (by omega) (by omega) _ (lv_sub hl [0, 1, 2, 3, 4, 5] (by rw [show (lo (ls_ L (gCtd f t)) v 0 : Int) = v from (by rfl)]; try rfl))

abbrev rmX1_nextChange : Room := { frames := 1, cells := 0, slots := 0, locals := 22 }
set_option maxHeartbeats 4000000 in
set_option maxRecDepth 100000 in
theorem c_X1_nextChange (l : Launch) (G : GG) (q b : Nat) (L : List EvT) (d nx : Int) (h_d : 0 ≤ d ∧ d < nx) (h_n : nx ≤ 3650) : MP l G yX1_nextChange wsX1_nextChange rmX1_nextChange [.ref q, .int (J d), .int (J nx)] (fun H => Evs G H q b L) (.int (J (nxE L d nx)) : Value) := by
  refine MP.of (cc := cX1_nextChange) (maxL := 6) (ret := (some .int)) (by decide) rfl (Nat.le_of_ble_eq_true rfl) ?_
  intro p e s m below meth c hx hb hr hml hown hts hlk hK hP ls hl
  have hown : s.vm.findClass RX1 = some m.cls := hown
  have hl : lv_has ls 6 [(0, .ref q), (1, .int (J d)), (2, .int (J nx))] := hl
  have inX0_ : ∀ w ∈ u_ws RX0 TX0 4, w ∈ wsX1_nextChange := by decide +kernel
  have inX1_ : ∀ w ∈ u_ws RX1 TX1 2, w ∈ wsX1_nextChange := by decide +kernel
  have lk0 := hts (.fieldLink RX1 11 "RateBook$Events" "byDay" "[LRateBook$Event;") (by decide +kernel)
  have lk1 := hts (.fieldLink RX1 21 "RateBook$Event" "day" "I") (by decide +kernel)
  have lk2 := hts (.initialized RX8) (by decide +kernel)
  have lk3 := hts (.static yX8_sooner) (by decide +kernel)
  obtain ⟨hE1, hE2, hE3, hE4, hE5⟩ := (show Evs G s.heap q b L from hP)
  refine lv_iload_n hx hb dX1_nextChange_0 rfl (lv_at hl 2 rfl) ?_
  refine lv_istore_n (lv' := [(3, .int (J nx)), (0, .ref q), (1, .int (J d)), (2, .int (J nx))]) hx hb dX1_nextChange_1 rfl hl (by decide) rfl (fun ls hl => ?_)
  refine j_const hx hb dX1_nextChange_2 ?_
  refine lv_istore (lv' := [(4, .int (J 0)), (3, .int (J nx)), (0, .ref q), (1, .int (J d)), (2, .int (J nx))]) hx hb dX1_nextChange_3 hl (by decide) rfl (fun ls hl => ?_)
  have lp5 : ∀ (n : Nat) (i : Int) (i0 : 0 ≤ i ∧ i ≤ 12) (hm : 12 - i < (n : Int)) (ls : Array Slot) (hl : lv_has ls 6 [(4, .int (J i)), (3, .int (J (lo (ls_ L (gNx d)) nx i))), (0, .ref q), (1, .int (J d)), (2, .int (J nx))]), W p l e (headSpec wsX1_nextChange rmX1_nextChange).room s m ([.ref q, .int (J d), .int (J nx)] : List Value).toArray below meth c s.heap [] 0 0 (MQ below (k2_QcV (.int (J (nxE L d nx)) : Value)) ([.ref q, .int (J d), .int (J nx)] : List Value).toArray s 0 0 (fun _ => False)) (F0 m 5 ls []) := by
    intro n
    induction n with
    | zero =>
      intro i i0 hm ls hl
      exact absurd hm (by omega)
    | succ n ih5 =>
      intro i i0 hm ls hl
      have hrg := gNx_rng (L := L) h_d.2 i0.1
      refine lv_iload hx hb dX1_nextChange_5 (lv_at hl 0 rfl) ?_
      refine lv_aload_n hx hb dX1_nextChange_7 rfl (lv_at hl 2 rfl) ?_
      refine j_get (ci := 1) (v := .ref b) hx hb hts inX1_ hown hK hE1 rfl 0 (by decide) lk0 (fun _ h9 => h9) rfl dX1_nextChange_8 ?_
      refine j_alQ (C := RX0) hx hb hK hE2 rfl dX1_nextChange_11 ?_
      refine j_re (y := 12) rfl ?_
      refine j_cge (tgt := 60) hx hb (by omega) (by omega) (by decide) (by decide) dX1_nextChange_12 (by decide) (fun c12 => ?_) (fun c12 => ?_)
      · refine lv_iload_n hx hb dX1_nextChange_60 rfl (lv_at hl 1 rfl) ?_
        exact r_i hx hb hr hlk (congrArg (fun z => Value.int (J z)) (show (lo (ls_ L (gNx d)) nx i : Int) = nxE L d nx from by rw [nxE_lo hE3 (by omega)])) dX1_nextChange_61
      · refine lv_aload_n hx hb dX1_nextChange_15 rfl (lv_at hl 2 rfl) ?_
        refine j_get (ci := 1) (v := .ref b) hx hb hts inX1_ hown hK hE1 rfl 0 (by decide) lk0 (fun _ h9 => h9) rfl dX1_nextChange_16 ?_
        refine lv_iload hx hb dX1_nextChange_19 (lv_at hl 0 rfl) ?_
        refine j_aald (C := RX0) hx hb hK hE2 rfl (by omega) (by omega) (by decide) dX1_nextChange_21 ?_
        rcases spE : L[(i).toNat]? with _ | e
        · refine j_qn (qL_n (by omega) spE) ?_
          refine lv_astoreN (lv' := [(5, .null), (4, .int (J i)), (3, .int (J (lo (ls_ L (gNx d)) nx i))), (0, .ref q), (1, .int (J d)), (2, .int (J nx))]) hx hb dX1_nextChange_22 hl (by decide) rfl (fun ls hl => ?_)
          refine lv_aloadN hx hb dX1_nextChange_24 (lv_at hl 0 rfl) ?_
          refine lv_ifnullN (tgt := 54) hx hb dX1_nextChange_26 (by decide) ?_
          refine lv_iinc (v := J (i + 1)) (lv' := [(4, .int (J (i + 1))), (5, .null), (3, .int (J (lo (ls_ L (gNx d)) nx i))), (0, .ref q), (1, .int (J d)), (2, .int (J nx))]) hx hb dX1_nextChange_54 hl (k := 1) rfl (J_add _ _) (by decide) rfl (fun ls hl => ?_)
          refine lv_goto (tgt := 5) hx hb dX1_nextChange_57 (by decide) ?_
          exact ih5 (i + 1) (by omega) (by omega) _ (lv_sub hl [0, 2, 3, 4, 5] (by rw [show (lo (ls_ L (gNx d)) nx (i + 1) : Int) = lo (ls_ L (gNx d)) nx i from (by rw [lo_s _ _ (by omega)]; simp only [ls_, spE, gNx])]; try rfl))
        · refine j_qs (b := eAd e) (qL_s (by omega) spE) ?_
          have hme : e ∈ L := List.mem_of_getElem? spE
          have hce : At G s.heap (eAd e) (eO 0 [.int (J (eNo e)), .int (J (eDy e)), .int (J (eKi e)), .int (J (eVa e))]) := hE4 e hme
          obtain ⟨ok1, ok2, ok3⟩ := hE5 e hme
          refine lv_astore (lv' := [(5, .ref (eAd e)), (4, .int (J i)), (3, .int (J (lo (ls_ L (gNx d)) nx i))), (0, .ref q), (1, .int (J d)), (2, .int (J nx))]) hx hb dX1_nextChange_22 hl (by decide) rfl (fun ls hl => ?_)
          refine lv_aload hx hb dX1_nextChange_24 (lv_at hl 0 rfl) ?_
          refine lv_ifnull hx hb dX1_nextChange_26 ?_
          refine lv_aload hx hb dX1_nextChange_29 (lv_at hl 0 rfl) ?_
          refine j_get (ci := 0) (v := .int (J (eDy e))) hx hb hts inX0_ hown hK hce rfl 1 (by decide) lk1 (fun _ h9 => h9) rfl dX1_nextChange_31 ?_
          refine lv_iload_n hx hb dX1_nextChange_34 rfl (lv_at hl 4 rfl) ?_
          refine lv_iload_n hx hb dX1_nextChange_35 rfl (lv_at hl 2 rfl) ?_
          refine k_SN (As := [.int (J (eDy e)), .int (J d), .int (J (lo (ls_ L (gNx d)) nx i))]) (rest := []) (v := .int (J (snr (eDy e) d (lo (ls_ L (gNx d)) nx i)))) hx hb hml hown hts hK hl.1 (c_X8_sooner l G (eDy e) d (lo (ls_ L (gNx d)) nx i) ((by omega)) ((by omega)) ((by omega))) (va_cnB 3 hts gX1_nextChange_X8_sooner_n38 rfl rfl rfl hK.2.1.2.2.2.2.1 lk2 (by decide +kernel) ⟨Nat.le_of_ble_eq_true rfl, Nat.le_of_ble_eq_true rfl⟩) lk3 trivial rfl rfl (Nat.le_of_ble_eq_true rfl) dX1_nextChange_36 ⟨Nat.zero_le _, Nat.zero_le _⟩ ?_
          refine lv_istore_n (lv' := [(3, .int (J (snr (eDy e) d (lo (ls_ L (gNx d)) nx i)))), (5, .ref (eAd e)), (4, .int (J i)), (0, .ref q), (1, .int (J d)), (2, .int (J nx))]) hx hb dX1_nextChange_39 rfl hl (by decide) rfl (fun ls hl => ?_)
          have hsn := snr_rng (ch := eDy e) hrg.1
          refine lv_aload hx hb dX1_nextChange_40 (lv_at hl 1 rfl) ?_
          refine j_get (ci := 0) (v := .int (J (eDy e))) hx hb hts inX0_ hown hK hce rfl 1 (by decide) lk1 (fun _ h9 => h9) rfl dX1_nextChange_42 ?_
          refine j_bi hx hb dX1_nextChange_45 (by decide +kernel) ?_
          refine j_add hx hb dX1_nextChange_47 ?_
          refine lv_iload_n hx hb dX1_nextChange_48 rfl (lv_at hl 4 rfl) ?_
          refine lv_iload_n hx hb dX1_nextChange_49 rfl (lv_at hl 0 rfl) ?_
          refine k_SN (As := [.int (J ((eDy e) + 90)), .int (J d), .int (J (snr (eDy e) d (lo (ls_ L (gNx d)) nx i)))]) (rest := []) (v := .int (J (snr ((eDy e) + 90) d (snr (eDy e) d (lo (ls_ L (gNx d)) nx i))))) hx hb hml hown hts hK hl.1 (c_X8_sooner l G ((eDy e) + 90) d (snr (eDy e) d (lo (ls_ L (gNx d)) nx i)) ((by omega)) ((by omega)) ((by omega))) (va_cnB 3 hts gX1_nextChange_X8_sooner_n38 rfl rfl rfl hK.2.1.2.2.2.2.1 lk2 (by decide +kernel) ⟨Nat.le_of_ble_eq_true rfl, Nat.le_of_ble_eq_true rfl⟩) lk3 trivial rfl rfl (Nat.le_of_ble_eq_true rfl) dX1_nextChange_50 ⟨Nat.zero_le _, Nat.zero_le _⟩ ?_
          refine lv_istore_n (lv' := [(3, .int (J (snr ((eDy e) + 90) d (snr (eDy e) d (lo (ls_ L (gNx d)) nx i))))), (5, .ref (eAd e)), (4, .int (J i)), (0, .ref q), (1, .int (J d)), (2, .int (J nx))]) hx hb dX1_nextChange_53 rfl hl (by decide) rfl (fun ls hl => ?_)
          refine lv_iinc (v := J (i + 1)) (lv' := [(4, .int (J (i + 1))), (3, .int (J (snr ((eDy e) + 90) d (snr (eDy e) d (lo (ls_ L (gNx d)) nx i))))), (5, .ref (eAd e)), (0, .ref q), (1, .int (J d)), (2, .int (J nx))]) hx hb dX1_nextChange_54 hl (k := 2) rfl (J_add _ _) (by decide) rfl (fun ls hl => ?_)
          refine lv_goto (tgt := 5) hx hb dX1_nextChange_57 (by decide) ?_
          exact ih5 (i + 1) (by omega) (by omega) _ (lv_sub hl [0, 1, 3, 4, 5] (by rw [show (lo (ls_ L (gNx d)) nx (i + 1) : Int) = snr ((eDy e) + 90) d (snr (eDy e) d (lo (ls_ L (gNx d)) nx i)) from (by rw [lo_s _ _ (by omega)]; simp only [ls_, spE, gNx])]; try rfl))
  exact lp5 13 0 (by omega) (by omega) _ (lv_sub hl [0, 1, 2, 3, 4] (by rw [show (lo (ls_ L (gNx d)) nx 0 : Int) = nx from (by rfl)]; try rfl))

abbrev rmX2_tells : Room := { frames := 0, cells := 0, slots := 0, locals := 0 }
set_option maxHeartbeats 4000000 in
set_option maxRecDepth 100000 in
theorem c_X2_tells (l : Launch) (G : GG) (ha ea : Int → Nat) (V : St) (i : Int) (ks st out : Int) (h_i : 0 ≤ i ∧ i < 40) (h_h : (0 ≤ V 1 i ∧ V 1 i ≤ 3) ∧ (0 ≤ V 2 i ∧ V 2 i ≤ 2) ∧ (0 ≤ V 3 i ∧ V 3 i ≤ 5) ∧ (1 ≤ V 4 i ∧ V 4 i ≤ 500) ∧ (0 ≤ V 5 i ∧ V 5 i ≤ 100000) ∧ (0 ≤ V 6 i ∧ V 6 i ≤ 12)) (g_ks : -2147483648 ≤ ks ∧ ks < 2147483648) (g_st : -2147483648 ≤ st ∧ st < 2147483648) (g_out : -2147483648 ≤ out ∧ out < 2147483648) : MP l G yX2_tells wsX2_tells rmX2_tells [.ref (ha i), .int (J ks), .int (J st), .int (J out)] (fun H => At G H (ha i) (eHo V ea i)) (.int (J (pI (asked V ks st out i))) : Value) := by
  refine MP.of (cc := cX2_tells) (maxL := 4) (ret := (some .boolean)) (by decide) rfl (Nat.le_of_ble_eq_true rfl) ?_
  intro p e s m below meth c hx hb hr hml hown hts hlk hK hP ls hl
  have hown : s.vm.findClass RX2 = some m.cls := hown
  have hl : lv_has ls 4 [(0, .ref (ha i)), (1, .int (J ks)), (2, .int (J st)), (3, .int (J out))] := hl
  have inX2_ : ∀ w ∈ u_ws RX2 TX2 7, w ∈ wsX2_tells := by decide +kernel
  have lk0 := hts (.fieldLink RX2 27 "RateBook$House" "rent" "I") (by decide +kernel)
  have lk1 := hts (.fieldLink RX2 9 "RateBook$House" "number" "I") (by decide +kernel)
  have lk2 := hts (.fieldLink RX2 18 "RateBook$House" "kind" "I") (by decide +kernel)
  have lk3 := hts (.fieldLink RX2 21 "RateBook$House" "street" "I") (by decide +kernel)
  refine lv_aload_n hx hb dX2_tells_0 rfl (lv_at hl 0 rfl) ?_
  refine j_get (ci := 2) (v := .int (J (V 5 i))) hx hb hts inX2_ hown hK hP rfl 6 (by decide) lk0 (fun _ h9 => h9) rfl dX2_tells_1 ?_
  refine j_le0 (tgt := 40) hx hb (by omega) (by omega) dX2_tells_4 (by decide) (fun c4 => ?_) (fun c4 => ?_)
  · refine j_const hx hb dX2_tells_40 ?_
    exact r_z hx hb hr hlk rfl (congrArg (fun z => Value.int (J z)) (show (0 : Int) = pI (asked V ks st out i) from (pI_f (by unfold asked; omega)).symm)) dX2_tells_41
  · refine lv_aload_n hx hb dX2_tells_7 rfl (lv_at hl 0 rfl) ?_
    refine j_get (ci := 2) (v := .int (J i)) hx hb hts inX2_ hown hK hP rfl 0 (by decide) lk1 (fun _ h9 => h9) rfl dX2_tells_8 ?_
    refine lv_iload_n hx hb dX2_tells_11 rfl (lv_at hl 3 rfl) ?_
    refine j_ceq (tgt := 40) hx hb (by omega) (by omega) (by omega) (by omega) dX2_tells_12 (by decide) (fun c12 => ?_) (fun c12 => ?_)
    · refine j_const hx hb dX2_tells_40 ?_
      exact r_z hx hb hr hlk rfl (congrArg (fun z => Value.int (J z)) (show (0 : Int) = pI (asked V ks st out i) from (pI_f (by unfold asked; omega)).symm)) dX2_tells_41
    · refine lv_aload_n hx hb dX2_tells_15 rfl (lv_at hl 0 rfl) ?_
      refine j_get (ci := 2) (v := .int (J (V 2 i))) hx hb hts inX2_ hown hK hP rfl 2 (by decide) lk2 (fun _ h9 => h9) rfl dX2_tells_16 ?_
      refine lv_iload_n hx hb dX2_tells_19 rfl (lv_at hl 1 rfl) ?_
      refine j_cne (tgt := 40) hx hb (by omega) (by omega) (by omega) (by omega) dX2_tells_20 (by decide) (fun c20 => ?_) (fun c20 => ?_)
      · refine j_const hx hb dX2_tells_40 ?_
        exact r_z hx hb hr hlk rfl (congrArg (fun z => Value.int (J z)) (show (0 : Int) = pI (asked V ks st out i) from (pI_f (by unfold asked; omega)).symm)) dX2_tells_41
      · refine lv_iload_n hx hb dX2_tells_23 rfl (lv_at hl 2 rfl) ?_
        refine j_const hx hb dX2_tells_24 ?_
        refine j_ceq (tgt := 36) hx hb (by omega) (by omega) (by decide) (by decide) dX2_tells_25 (by decide) (fun c25 => ?_) (fun c25 => ?_)
        · refine j_const hx hb dX2_tells_36 ?_
          refine lv_goto (tgt := 41) hx hb dX2_tells_37 (by decide) ?_
          exact r_z hx hb hr hlk rfl (congrArg (fun z => Value.int (J z)) (show (1 : Int) = pI (asked V ks st out i) from (pI_t (by unfold asked; omega)).symm)) dX2_tells_41
        · refine lv_aload_n hx hb dX2_tells_28 rfl (lv_at hl 0 rfl) ?_
          refine j_get (ci := 2) (v := .int (J (V 3 i))) hx hb hts inX2_ hown hK hP rfl 3 (by decide) lk3 (fun _ h9 => h9) rfl dX2_tells_29 ?_
          refine lv_iload_n hx hb dX2_tells_32 rfl (lv_at hl 2 rfl) ?_
          refine j_cne (tgt := 40) hx hb (by omega) (by omega) (by omega) (by omega) dX2_tells_33 (by decide) (fun c33 => ?_) (fun c33 => ?_)
          · refine j_const hx hb dX2_tells_40 ?_
            exact r_z hx hb hr hlk rfl (congrArg (fun z => Value.int (J z)) (show (0 : Int) = pI (asked V ks st out i) from (pI_f (by unfold asked; omega)).symm)) dX2_tells_41
          · refine j_const hx hb dX2_tells_36 ?_
            refine lv_goto (tgt := 41) hx hb dX2_tells_37 (by decide) ?_
            exact r_z hx hb hr hlk rfl (congrArg (fun z => Value.int (J z)) (show (1 : Int) = pI (asked V ks st out i) from (pI_t (by unfold asked; omega)).symm)) dX2_tells_41

abbrev rmX2_isLike : Room := { frames := 0, cells := 0, slots := 0, locals := 0 }
set_option maxHeartbeats 4000000 in
set_option maxRecDepth 100000 in
theorem c_X2_isLike (l : Launch) (G : GG) (ha ea : Int → Nat) (V : St) (i j : Int) (h_i : 0 ≤ i ∧ i < 40) (h_h : (0 ≤ V 1 i ∧ V 1 i ≤ 3) ∧ (0 ≤ V 2 i ∧ V 2 i ≤ 2) ∧ (0 ≤ V 3 i ∧ V 3 i ≤ 5) ∧ (1 ≤ V 4 i ∧ V 4 i ≤ 500) ∧ (0 ≤ V 5 i ∧ V 5 i ≤ 100000) ∧ (0 ≤ V 6 i ∧ V 6 i ≤ 12)) (h_j : 0 ≤ j ∧ j < 40) (h_g : (0 ≤ V 1 j ∧ V 1 j ≤ 3) ∧ (0 ≤ V 2 j ∧ V 2 j ≤ 2) ∧ (0 ≤ V 3 j ∧ V 3 j ≤ 5) ∧ (1 ≤ V 4 j ∧ V 4 j ≤ 500) ∧ (0 ≤ V 5 j ∧ V 5 j ≤ 100000) ∧ (0 ≤ V 6 j ∧ V 6 j ≤ 12)) : MP l G yX2_isLike wsX2_isLike rmX2_isLike [.ref (ha i), .ref (ha j)] (fun H => At G H (ha i) (eHo V ea i) ∧ At G H (ha j) (eHo V ea j)) (.int (J (pI (V 2 i = V 2 j ∧ V 3 i = V 3 j))) : Value) := by
  refine MP.of (cc := cX2_isLike) (maxL := 2) (ret := (some .boolean)) (by decide) rfl (Nat.le_of_ble_eq_true rfl) ?_
  intro p e s m below meth c hx hb hr hml hown hts hlk hK hP ls hl
  have hown : s.vm.findClass RX2 = some m.cls := hown
  have hl : lv_has ls 2 [(0, .ref (ha i)), (1, .ref (ha j))] := hl
  have inX2_ : ∀ w ∈ u_ws RX2 TX2 7, w ∈ wsX2_isLike := by decide +kernel
  have lk0 := hts (.fieldLink RX2 18 "RateBook$House" "kind" "I") (by decide +kernel)
  have lk1 := hts (.fieldLink RX2 21 "RateBook$House" "street" "I") (by decide +kernel)
  refine lv_aload_n hx hb dX2_isLike_0 rfl (lv_at hl 0 rfl) ?_
  refine j_get (ci := 2) (v := .int (J (V 2 i))) hx hb hts inX2_ hown hK hP.1 rfl 2 (by decide) lk0 (fun _ h9 => h9) rfl dX2_isLike_1 ?_
  refine lv_aload_n hx hb dX2_isLike_4 rfl (lv_at hl 1 rfl) ?_
  refine j_get (ci := 2) (v := .int (J (V 2 j))) hx hb hts inX2_ hown hK hP.2 rfl 2 (by decide) lk0 (fun _ h9 => h9) rfl dX2_isLike_5 ?_
  refine j_cne (tgt := 26) hx hb (by omega) (by omega) (by omega) (by omega) dX2_isLike_8 (by decide) (fun c8 => ?_) (fun c8 => ?_)
  · refine j_const hx hb dX2_isLike_26 ?_
    exact r_z hx hb hr hlk rfl (congrArg (fun z => Value.int (J z)) (show (0 : Int) = pI (V 2 i = V 2 j ∧ V 3 i = V 3 j) from (pI_f (by omega)).symm)) dX2_isLike_27
  · refine lv_aload_n hx hb dX2_isLike_11 rfl (lv_at hl 0 rfl) ?_
    refine j_get (ci := 2) (v := .int (J (V 3 i))) hx hb hts inX2_ hown hK hP.1 rfl 3 (by decide) lk1 (fun _ h9 => h9) rfl dX2_isLike_12 ?_
    refine lv_aload_n hx hb dX2_isLike_15 rfl (lv_at hl 1 rfl) ?_
    refine j_get (ci := 2) (v := .int (J (V 3 j))) hx hb hts inX2_ hown hK hP.2 rfl 3 (by decide) lk1 (fun _ h9 => h9) rfl dX2_isLike_16 ?_
    refine j_cne (tgt := 26) hx hb (by omega) (by omega) (by omega) (by omega) dX2_isLike_19 (by decide) (fun c19 => ?_) (fun c19 => ?_)
    · refine j_const hx hb dX2_isLike_26 ?_
      exact r_z hx hb hr hlk rfl (congrArg (fun z => Value.int (J z)) (show (0 : Int) = pI (V 2 i = V 2 j ∧ V 3 i = V 3 j) from (pI_f (by omega)).symm)) dX2_isLike_27
    · refine j_const hx hb dX2_isLike_22 ?_
      refine lv_goto (tgt := 27) hx hb dX2_isLike_23 (by decide) ?_
      exact r_z hx hb hr hlk rfl (congrArg (fun z => Value.int (J z)) (show (1 : Int) = pI (V 2 i = V 2 j ∧ V 3 i = V 3 j) from (pI_t (by omega)).symm)) dX2_isLike_27

abbrev rmX2_hasLesserRent : Room := { frames := 0, cells := 0, slots := 0, locals := 0 }
set_option maxHeartbeats 4000000 in
set_option maxRecDepth 100000 in
theorem c_X2_hasLesserRent (l : Launch) (G : GG) (ha ea : Int → Nat) (V : St) (i j : Int) (h_i : 0 ≤ i ∧ i < 40) (h_h : (0 ≤ V 1 i ∧ V 1 i ≤ 3) ∧ (0 ≤ V 2 i ∧ V 2 i ≤ 2) ∧ (0 ≤ V 3 i ∧ V 3 i ≤ 5) ∧ (1 ≤ V 4 i ∧ V 4 i ≤ 500) ∧ (0 ≤ V 5 i ∧ V 5 i ≤ 100000) ∧ (0 ≤ V 6 i ∧ V 6 i ≤ 12)) (h_j : 0 ≤ j ∧ j < 40) (h_g : (0 ≤ V 1 j ∧ V 1 j ≤ 3) ∧ (0 ≤ V 2 j ∧ V 2 j ≤ 2) ∧ (0 ≤ V 3 j ∧ V 3 j ≤ 5) ∧ (1 ≤ V 4 j ∧ V 4 j ≤ 500) ∧ (0 ≤ V 5 j ∧ V 5 j ≤ 100000) ∧ (0 ≤ V 6 j ∧ V 6 j ≤ 12)) : MP l G yX2_hasLesserRent wsX2_hasLesserRent rmX2_hasLesserRent [.ref (ha i), .ref (ha j)] (fun H => At G H (ha i) (eHo V ea i) ∧ At G H (ha j) (eHo V ea j)) (.int (J (pI (less V i j))) : Value) := by
  refine MP.of (cc := cX2_hasLesserRent) (maxL := 6) (ret := (some .boolean)) (by decide) rfl (Nat.le_of_ble_eq_true rfl) ?_
  intro p e s m below meth c hx hb hr hml hown hts hlk hK hP ls hl
  have hown : s.vm.findClass RX2 = some m.cls := hown
  have hl : lv_has ls 6 [(0, .ref (ha i)), (1, .ref (ha j))] := hl
  have inX2_ : ∀ w ∈ u_ws RX2 TX2 7, w ∈ wsX2_hasLesserRent := by decide +kernel
  have lk0 := hts (.fieldLink RX2 27 "RateBook$House" "rent" "I") (by decide +kernel)
  have lk1 := hts (.fieldLink RX2 24 "RateBook$House" "size" "I") (by decide +kernel)
  have lk2 := hts (.fieldLink RX2 9 "RateBook$House" "number" "I") (by decide +kernel)
  have m1 := mulb (a := V 5 i) (b := V 4 j) (A := 100000) (B := 500) (by omega) (by omega) (by omega) (by omega)
  have m2 := mulb (a := V 5 j) (b := V 4 i) (A := 100000) (B := 500) (by omega) (by omega) (by omega) (by omega)
  refine lv_aload_n hx hb dX2_hasLesserRent_0 rfl (lv_at hl 0 rfl) ?_
  refine j_get (ci := 2) (v := .int (J (V 5 i))) hx hb hts inX2_ hown hK hP.1 rfl 6 (by decide) lk0 (fun _ h9 => h9) rfl dX2_hasLesserRent_1 ?_
  refine j_i2l hx hb (by omega) (by omega) dX2_hasLesserRent_4 ?_
  refine lv_aload_n hx hb dX2_hasLesserRent_5 rfl (lv_at hl 1 rfl) ?_
  refine j_get (ci := 2) (v := .int (J (V 4 j))) hx hb hts inX2_ hown hK hP.2 rfl 4 (by decide) lk1 (fun _ h9 => h9) rfl dX2_hasLesserRent_6 ?_
  refine j_i2l hx hb (by omega) (by omega) dX2_hasLesserRent_9 ?_
  refine j_lmul hx hb dX2_hasLesserRent_10 ?_
  refine lv_lstore_n (lv' := [(2, .long (JL ((V 5 i) * (V 4 j)))), (0, .ref (ha i)), (1, .ref (ha j))]) hx hb dX2_hasLesserRent_11 rfl hl (by decide) rfl (fun ls hl => ?_)
  refine lv_aload_n hx hb dX2_hasLesserRent_12 rfl (lv_at hl 2 rfl) ?_
  refine j_get (ci := 2) (v := .int (J (V 5 j))) hx hb hts inX2_ hown hK hP.2 rfl 6 (by decide) lk0 (fun _ h9 => h9) rfl dX2_hasLesserRent_13 ?_
  refine j_i2l hx hb (by omega) (by omega) dX2_hasLesserRent_16 ?_
  refine lv_aload_n hx hb dX2_hasLesserRent_17 rfl (lv_at hl 1 rfl) ?_
  refine j_get (ci := 2) (v := .int (J (V 4 i))) hx hb hts inX2_ hown hK hP.1 rfl 4 (by decide) lk1 (fun _ h9 => h9) rfl dX2_hasLesserRent_18 ?_
  refine j_i2l hx hb (by omega) (by omega) dX2_hasLesserRent_21 ?_
  refine j_lmul hx hb dX2_hasLesserRent_22 ?_
  refine lv_lstore (lv' := [(4, .long (JL ((V 5 j) * (V 4 i)))), (2, .long (JL ((V 5 i) * (V 4 j)))), (0, .ref (ha i)), (1, .ref (ha j))]) hx hb dX2_hasLesserRent_23 hl (by decide) rfl (fun ls hl => ?_)
  refine lv_lload_n hx hb dX2_hasLesserRent_25 rfl (lv_at hl 1 rfl) ?_
  refine lv_lload hx hb dX2_hasLesserRent_26 (lv_at hl 0 rfl) ?_
  refine j_lcmp hx hb (by omega) (by omega) (by omega) (by omega) dX2_hasLesserRent_28 ?_
  refine j_lt0 (tgt := 50) hx hb (by have := cmp3_rng ((V 5 i) * (V 4 j)) ((V 5 j) * (V 4 i)); omega) (by have := cmp3_rng ((V 5 i) * (V 4 j)) ((V 5 j) * (V 4 i)); omega) dX2_hasLesserRent_29 (by decide) (fun c29 => ?_) (fun c29 => ?_)
  · refine j_const hx hb dX2_hasLesserRent_50 ?_
    refine lv_goto (tgt := 55) hx hb dX2_hasLesserRent_51 (by decide) ?_
    exact r_z hx hb hr hlk rfl (congrArg (fun z => Value.int (J z)) (show (1 : Int) = pI (less V i j) from (pI_t (by unfold less; simp only [cmp3_lt, cmp3_eq, ne_eq, Int.not_lt, Int.not_le, ge_iff_le, ← Int.not_lt (a := cmp3 _ _)] at *; omega)).symm)) dX2_hasLesserRent_55
  · refine lv_lload_n hx hb dX2_hasLesserRent_32 rfl (lv_at hl 1 rfl) ?_
    refine lv_lload hx hb dX2_hasLesserRent_33 (lv_at hl 0 rfl) ?_
    refine j_lcmp hx hb (by omega) (by omega) (by omega) (by omega) dX2_hasLesserRent_35 ?_
    refine j_ne0 (tgt := 54) hx hb (by have := cmp3_rng ((V 5 i) * (V 4 j)) ((V 5 j) * (V 4 i)); omega) (by have := cmp3_rng ((V 5 i) * (V 4 j)) ((V 5 j) * (V 4 i)); omega) dX2_hasLesserRent_36 (by decide) (fun c36 => ?_) (fun c36 => ?_)
    · refine j_const hx hb dX2_hasLesserRent_54 ?_
      exact r_z hx hb hr hlk rfl (congrArg (fun z => Value.int (J z)) (show (0 : Int) = pI (less V i j) from (pI_f (by unfold less; simp only [cmp3_lt, cmp3_eq, ne_eq, Int.not_lt, Int.not_le, ge_iff_le, ← Int.not_lt (a := cmp3 _ _)] at *; omega)).symm)) dX2_hasLesserRent_55
    · refine lv_aload_n hx hb dX2_hasLesserRent_39 rfl (lv_at hl 2 rfl) ?_
      refine j_get (ci := 2) (v := .int (J i)) hx hb hts inX2_ hown hK hP.1 rfl 0 (by decide) lk2 (fun _ h9 => h9) rfl dX2_hasLesserRent_40 ?_
      refine lv_aload_n hx hb dX2_hasLesserRent_43 rfl (lv_at hl 3 rfl) ?_
      refine j_get (ci := 2) (v := .int (J j)) hx hb hts inX2_ hown hK hP.2 rfl 0 (by decide) lk2 (fun _ h9 => h9) rfl dX2_hasLesserRent_44 ?_
      refine j_cge (tgt := 54) hx hb (by omega) (by omega) (by omega) (by omega) dX2_hasLesserRent_47 (by decide) (fun c47 => ?_) (fun c47 => ?_)
      · refine j_const hx hb dX2_hasLesserRent_54 ?_
        exact r_z hx hb hr hlk rfl (congrArg (fun z => Value.int (J z)) (show (0 : Int) = pI (less V i j) from (pI_f (by unfold less; simp only [cmp3_lt, cmp3_eq, ne_eq, Int.not_lt, Int.not_le, ge_iff_le, ← Int.not_lt (a := cmp3 _ _)] at *; omega)).symm)) dX2_hasLesserRent_55
      · refine j_const hx hb dX2_hasLesserRent_50 ?_
        refine lv_goto (tgt := 55) hx hb dX2_hasLesserRent_51 (by decide) ?_
        exact r_z hx hb hr hlk rfl (congrArg (fun z => Value.int (J z)) (show (1 : Int) = pI (less V i j) from (pI_t (by unfold less; simp only [cmp3_lt, cmp3_eq, ne_eq, Int.not_lt, Int.not_le, ge_iff_le, ← Int.not_lt (a := cmp3 _ _)] at *; omega)).symm)) dX2_hasLesserRent_55

abbrev rmX2_sizeOn : Room := { frames := 1, cells := 0, slots := 0, locals := 25 }
set_option maxHeartbeats 4000000 in
set_option maxRecDepth 100000 in
theorem c_X2_sizeOn (l : Launch) (G : GG) (ha ea eb : Int → Nat) (V : St) (L : List EvT) (i d : Int) (h_i : 0 ≤ i ∧ i < 40) (h_h : (0 ≤ V 1 i ∧ V 1 i ≤ 3) ∧ (0 ≤ V 2 i ∧ V 2 i ≤ 2) ∧ (0 ≤ V 3 i ∧ V 3 i ≤ 5) ∧ (1 ≤ V 4 i ∧ V 4 i ≤ 500) ∧ (0 ≤ V 5 i ∧ V 5 i ≤ 100000) ∧ (0 ≤ V 6 i ∧ V 6 i ≤ 12)) (g_d : -2147483648 ≤ d ∧ d < 2147483648) : MP l G yX2_sizeOn wsX2_sizeOn rmX2_sizeOn [.ref (ha i), .int (J d)] (fun H => At G H (ha i) (eHo V ea i) ∧ Evs G H (ea i) (eb i) L) (.int (J (szO L (V 4 i) d)) : Value) := by
  refine MP.of (cc := cX2_sizeOn) (maxL := 3) (ret := (some .int)) (by decide) rfl (Nat.le_of_ble_eq_true rfl) ?_
  intro p e s m below meth c hx hb hr hml hown hts hlk hK hP ls hl
  have hown : s.vm.findClass RX2 = some m.cls := hown
  have hl : lv_has ls 3 [(0, .ref (ha i)), (1, .int (J d))] := hl
  have inX0_ : ∀ w ∈ u_ws RX0 TX0 4, w ∈ wsX2_sizeOn := by decide +kernel
  have inX2_ : ∀ w ∈ u_ws RX2 TX2 7, w ∈ wsX2_sizeOn := by decide +kernel
  have lk0 := hts (.fieldLink RX2 33 "RateBook$House" "events" "LRateBook$Events;") (by decide +kernel)
  have lk1 := hts (.fieldLink RX2 24 "RateBook$House" "size" "I") (by decide +kernel)
  have lk2 := hts (.fieldLink RX2 41 "RateBook$Event" "value" "I") (by decide +kernel)
  obtain ⟨hHo, hEv⟩ := hP
  obtain ⟨hE1, hE2, hE3, hE4, hE5⟩ := id hEv
  refine lv_aload_n hx hb dX2_sizeOn_0 rfl (lv_at hl 0 rfl) ?_
  refine j_get (ci := 2) (v := .ref (ea i)) hx hb hts inX2_ hown hK hHo rfl 5 (by decide) lk0 (fun _ h9 => h9) rfl dX2_sizeOn_1 ?_
  refine j_const hx hb dX2_sizeOn_4 ?_
  refine lv_iload_n hx hb dX2_sizeOn_5 rfl (lv_at hl 1 rfl) ?_
  refine k_V (ci := 1) (b := ea i) (As := [.int (J 0), .int (J d)]) (rest := []) (v := va_rf (Option.map eAd (lat L 0 d))) hx hb hml hown hts hK hl.1 (c_X1_latestOf l G (ea i) (eb i) L 0 d ((by omega)) ((by omega))) (cwV 2 hts gX2_sizeOn_X1_latestOf rfl rfl rfl (by decide +kernel) ⟨Nat.le_of_ble_eq_true rfl, Nat.le_of_ble_eq_true rfl⟩) hE1 rfl hEv rfl rfl (Nat.le_of_ble_eq_true rfl) dX2_sizeOn_6 ⟨Nat.zero_le _, Nat.zero_le _⟩ ?_
  rcases spL : lat L 0 d with _ | e
  · refine j_qn rfl ?_
    refine lv_astore_nN (lv' := [(2, .null), (0, .ref (ha i)), (1, .int (J d))]) hx hb dX2_sizeOn_9 rfl hl (by decide) rfl (fun ls hl => ?_)
    refine lv_aload_nN hx hb dX2_sizeOn_10 rfl (lv_at hl 0 rfl) ?_
    refine lv_ifnonnullN hx hb dX2_sizeOn_11 ?_
    refine lv_aload_n hx hb dX2_sizeOn_14 rfl (lv_at hl 1 rfl) ?_
    refine j_get (ci := 2) (v := .int (J (V 4 i))) hx hb hts inX2_ hown hK hHo rfl 4 (by decide) lk1 (fun _ h9 => h9) rfl dX2_sizeOn_15 ?_
    refine lv_goto (tgt := 25) hx hb dX2_sizeOn_18 (by decide) ?_
    exact r_i hx hb hr hlk (congrArg (fun z => Value.int (J z)) (show (V 4 i : Int) = szO L (V 4 i) d from by unfold szO; rw [spL])) dX2_sizeOn_25
  · refine j_qs (b := eAd e) rfl ?_
    have hme : e ∈ L := lat_mem spL
    have hce : At G s.heap (eAd e) (eO 0 [.int (J (eNo e)), .int (J (eDy e)), .int (J (eKi e)), .int (J (eVa e))]) := hE4 e hme
    obtain ⟨ok1, ok2, ok3⟩ := hE5 e hme
    have hsp := lat_spec spL
    refine lv_astore_n (lv' := [(2, .ref (eAd e)), (0, .ref (ha i)), (1, .int (J d))]) hx hb dX2_sizeOn_9 rfl hl (by decide) rfl (fun ls hl => ?_)
    refine lv_aload_n hx hb dX2_sizeOn_10 rfl (lv_at hl 0 rfl) ?_
    refine lv_ifnonnull (tgt := 21) hx hb dX2_sizeOn_11 (by decide) ?_
    refine lv_aload_n hx hb dX2_sizeOn_21 rfl (lv_at hl 0 rfl) ?_
    refine j_get (ci := 0) (v := .int (J (eVa e))) hx hb hts inX0_ hown hK hce rfl 3 (by decide) lk2 (fun _ h9 => h9) rfl dX2_sizeOn_22 ?_
    exact r_i hx hb hr hlk (congrArg (fun z => Value.int (J z)) (show (eVa e : Int) = szO L (V 4 i) d from by unfold szO; rw [spL])) dX2_sizeOn_25

abbrev rmX2_useOn : Room := { frames := 1, cells := 0, slots := 0, locals := 25 }
set_option maxHeartbeats 4000000 in
set_option maxRecDepth 100000 in
theorem c_X2_useOn (l : Launch) (G : GG) (ha ea eb : Int → Nat) (V : St) (L : List EvT) (i d : Int) (h_i : 0 ≤ i ∧ i < 40) (h_h : (0 ≤ V 1 i ∧ V 1 i ≤ 3) ∧ (0 ≤ V 2 i ∧ V 2 i ≤ 2) ∧ (0 ≤ V 3 i ∧ V 3 i ≤ 5) ∧ (1 ≤ V 4 i ∧ V 4 i ≤ 500) ∧ (0 ≤ V 5 i ∧ V 5 i ≤ 100000) ∧ (0 ≤ V 6 i ∧ V 6 i ≤ 12)) (g_d : -2147483648 ≤ d ∧ d < 2147483648) : MP l G yX2_useOn wsX2_useOn rmX2_useOn [.ref (ha i), .int (J d)] (fun H => At G H (ha i) (eHo V ea i) ∧ Evs G H (ea i) (eb i) L) (.int (J (usO L d)) : Value) := by
  refine MP.of (cc := cX2_useOn) (maxL := 3) (ret := (some .int)) (by decide) rfl (Nat.le_of_ble_eq_true rfl) ?_
  intro p e s m below meth c hx hb hr hml hown hts hlk hK hP ls hl
  have hown : s.vm.findClass RX2 = some m.cls := hown
  have hl : lv_has ls 3 [(0, .ref (ha i)), (1, .int (J d))] := hl
  have inX0_ : ∀ w ∈ u_ws RX0 TX0 4, w ∈ wsX2_useOn := by decide +kernel
  have inX2_ : ∀ w ∈ u_ws RX2 TX2 7, w ∈ wsX2_useOn := by decide +kernel
  have lk0 := hts (.fieldLink RX2 33 "RateBook$House" "events" "LRateBook$Events;") (by decide +kernel)
  have lk1 := hts (.fieldLink RX2 41 "RateBook$Event" "value" "I") (by decide +kernel)
  obtain ⟨hHo, hEv⟩ := hP
  obtain ⟨hE1, hE2, hE3, hE4, hE5⟩ := id hEv
  refine lv_aload_n hx hb dX2_useOn_0 rfl (lv_at hl 0 rfl) ?_
  refine j_get (ci := 2) (v := .ref (ea i)) hx hb hts inX2_ hown hK hHo rfl 5 (by decide) lk0 (fun _ h9 => h9) rfl dX2_useOn_1 ?_
  refine j_const hx hb dX2_useOn_4 ?_
  refine lv_iload_n hx hb dX2_useOn_5 rfl (lv_at hl 1 rfl) ?_
  refine k_V (ci := 1) (b := ea i) (As := [.int (J 1), .int (J d)]) (rest := []) (v := va_rf (Option.map eAd (lat L 1 d))) hx hb hml hown hts hK hl.1 (c_X1_latestOf l G (ea i) (eb i) L 1 d ((by omega)) ((by omega))) (cwV 2 hts gX2_useOn_X1_latestOf rfl rfl rfl (by decide +kernel) ⟨Nat.le_of_ble_eq_true rfl, Nat.le_of_ble_eq_true rfl⟩) hE1 rfl hEv rfl rfl (Nat.le_of_ble_eq_true rfl) dX2_useOn_6 ⟨Nat.zero_le _, Nat.zero_le _⟩ ?_
  rcases spL : lat L 1 d with _ | e
  · refine j_qn rfl ?_
    refine lv_astore_nN (lv' := [(2, .null), (0, .ref (ha i)), (1, .int (J d))]) hx hb dX2_useOn_9 rfl hl (by decide) rfl (fun ls hl => ?_)
    refine lv_aload_nN hx hb dX2_useOn_10 rfl (lv_at hl 0 rfl) ?_
    refine lv_ifnonnullN hx hb dX2_useOn_11 ?_
    refine j_const hx hb dX2_useOn_14 ?_
    refine lv_goto (tgt := 22) hx hb dX2_useOn_15 (by decide) ?_
    exact r_i hx hb hr hlk (congrArg (fun z => Value.int (J z)) (show (0 : Int) = usO L d from by unfold usO; rw [spL])) dX2_useOn_22
  · refine j_qs (b := eAd e) rfl ?_
    have hme : e ∈ L := lat_mem spL
    have hce : At G s.heap (eAd e) (eO 0 [.int (J (eNo e)), .int (J (eDy e)), .int (J (eKi e)), .int (J (eVa e))]) := hE4 e hme
    obtain ⟨ok1, ok2, ok3⟩ := hE5 e hme
    have hsp := lat_spec spL
    refine lv_astore_n (lv' := [(2, .ref (eAd e)), (0, .ref (ha i)), (1, .int (J d))]) hx hb dX2_useOn_9 rfl hl (by decide) rfl (fun ls hl => ?_)
    refine lv_aload_n hx hb dX2_useOn_10 rfl (lv_at hl 0 rfl) ?_
    refine lv_ifnonnull (tgt := 18) hx hb dX2_useOn_11 (by decide) ?_
    refine lv_aload_n hx hb dX2_useOn_18 rfl (lv_at hl 0 rfl) ?_
    refine j_get (ci := 0) (v := .int (J (eVa e))) hx hb hts inX0_ hown hK hce rfl 3 (by decide) lk1 (fun _ h9 => h9) rfl dX2_useOn_19 ?_
    exact r_i hx hb hr hlk (congrArg (fun z => Value.int (J z)) (show (eVa e : Int) = usO L d from by unfold usO; rw [spL])) dX2_useOn_22
