abbrev rmX1_isFull : Room := { frames := 0, cells := 0, slots := 0, locals := 0 }
set_option maxHeartbeats 4000000 in
set_option maxRecDepth 100000 in
theorem c_X1_isFull (l : Launch) (G : GG) (q b : Nat) (L : List EvT) : MP l G yX1_isFull wsX1_isFull rmX1_isFull [.ref q] (fun H => Evs G H q b L) (.int (J (pI (12 ≤ L.length))) : Value) := by
  refine MP.of (cc := cX1_isFull) (maxL := 1) (ret := (some .boolean)) (by decide) rfl (Nat.le_of_ble_eq_true rfl) ?_
  intro p e s m below meth c hx hb hr hml hown hts hlk hK hP ls hl
  have hown : s.vm.findClass RX1 = some m.cls := hown
  have hl : lv_has ls 1 [(0, .ref q)] := hl
  have inX1_ : ∀ w ∈ u_ws RX1 TX1 2, w ∈ wsX1_isFull := by decide +kernel
  have lk0 := hts (.fieldLink RX1 17 "RateBook$Events" "told" "I") (by decide +kernel)
  have lk1 := hts (.fieldLink RX1 11 "RateBook$Events" "byDay" "[LRateBook$Event;") (by decide +kernel)
  obtain ⟨hE1, hE2, hE3, hE4, hE5⟩ := (show Evs G s.heap q b L from hP)
  refine lv_aload_n hx hb dX1_isFull_0 rfl (lv_at hl 0 rfl) ?_
  refine j_get (ci := 1) (v := .int (J ((L.length : Int)))) hx hb hts inX1_ hown hK hE1 rfl 1 (by decide) lk0 (fun _ h9 => h9) rfl dX1_isFull_1 ?_
  refine lv_aload_n hx hb dX1_isFull_4 rfl (lv_at hl 0 rfl) ?_
  refine j_get (ci := 1) (v := .ref b) hx hb hts inX1_ hown hK hE1 rfl 0 (by decide) lk1 (fun _ h9 => h9) rfl dX1_isFull_5 ?_
  refine j_alQ (C := RX0) hx hb hK hE2 rfl dX1_isFull_8 ?_
  refine j_re (y := 12) rfl ?_
  refine j_clt (tgt := 16) hx hb (by omega) (by omega) (by decide) (by decide) dX1_isFull_9 (by decide) (fun c9 => ?_) (fun c9 => ?_)
  · refine j_const hx hb dX1_isFull_16 ?_
    exact r_z hx hb hr hlk rfl (congrArg (fun z => Value.int (J z)) (show (0 : Int) = pI (12 ≤ L.length) from (pI_f (by omega)).symm)) dX1_isFull_17
  · refine j_const hx hb dX1_isFull_12 ?_
    refine lv_goto (tgt := 17) hx hb dX1_isFull_13 (by decide) ?_
    exact r_z hx hb hr hlk rfl (congrArg (fun z => Value.int (J z)) (show (1 : Int) = pI (12 ≤ L.length) from (pI_t (by omega)).symm)) dX1_isFull_17

abbrev rmX1_latestOf : Room := { frames := 0, cells := 0, slots := 0, locals := 0 }
set_option maxHeartbeats 4000000 in
set_option maxRecDepth 100000 in
theorem c_X1_latestOf (l : Launch) (G : GG) (q b : Nat) (L : List EvT) (k d : Int) (r_k : -2147483648 ≤ k ∧ k < 2147483648) (r_d : -2147483648 ≤ d ∧ d < 2147483648) : MP l G yX1_latestOf wsX1_latestOf rmX1_latestOf [.ref q, .int (J k), .int (J d)] (fun H => Evs G H q b L) (va_rf (Option.map eAd (lat L k d)) : Value) := by
  refine MP.of (cc := cX1_latestOf) (maxL := 6) (ret := (some (.object "RateBook$Event"))) (by decide) rfl (Nat.le_of_ble_eq_true rfl) ?_
  intro p e s m below meth c hx hb hr hml hown hts hlk hK hP ls hl
  have hown : s.vm.findClass RX1 = some m.cls := hown
  have hl : lv_has ls 6 [(0, .ref q), (1, .int (J k)), (2, .int (J d))] := hl
  have inX0_ : ∀ w ∈ u_ws RX0 TX0 4, w ∈ wsX1_latestOf := by decide +kernel
  have inX1_ : ∀ w ∈ u_ws RX1 TX1 2, w ∈ wsX1_latestOf := by decide +kernel
  have lk0 := hts (.fieldLink RX1 11 "RateBook$Events" "byDay" "[LRateBook$Event;") (by decide +kernel)
  have lk1 := hts (.fieldLink RX1 30 "RateBook$Event" "kind" "I") (by decide +kernel)
  have lk2 := hts (.fieldLink RX1 21 "RateBook$Event" "day" "I") (by decide +kernel)
  obtain ⟨hE1, hE2, hE3, hE4, hE5⟩ := (show Evs G s.heap q b L from hP)
  refine lv_null hx hb dX1_latestOf_0 ?_
  refine lv_astore_nN (lv' := [(3, .null), (0, .ref q), (1, .int (J k)), (2, .int (J d))]) hx hb dX1_latestOf_1 rfl hl (by decide) rfl (fun ls hl => ?_)
  refine j_const hx hb dX1_latestOf_2 ?_
  refine lv_istore (lv' := [(4, .int (J 0)), (3, .null), (0, .ref q), (1, .int (J k)), (2, .int (J d))]) hx hb dX1_latestOf_3 hl (by decide) rfl (fun ls hl => ?_)
  have lp5 : ∀ (n : Nat) (i : Int) (i0 : 0 ≤ i ∧ i ≤ 12) (hm : 12 - i < (n : Int)) (ls : Array Slot) (hl : lv_has ls 6 [(4, .int (J i)), (3, va_rf (Option.map eAd (lo (ls_ L (gLat k d)) none i))), (0, .ref q), (1, .int (J k)), (2, .int (J d))]), W p l e (headSpec wsX1_latestOf rmX1_latestOf).room s m ([.ref q, .int (J k), .int (J d)] : List Value).toArray below meth c s.heap [] 0 0 (MQ below (k2_QcV (va_rf (Option.map eAd (lat L k d)) : Value)) ([.ref q, .int (J k), .int (J d)] : List Value).toArray s 0 0 (fun _ => False)) (F0 m 5 ls []) := by
    intro n
    induction n with
    | zero =>
      intro i i0 hm ls hl
      exact absurd hm (by omega)
    | succ n ih5 =>
      intro i i0 hm ls hl
      refine lv_iload hx hb dX1_latestOf_5 (lv_at hl 0 rfl) ?_
      refine lv_aload_n hx hb dX1_latestOf_7 rfl (lv_at hl 2 rfl) ?_
      refine j_get (ci := 1) (v := .ref b) hx hb hts inX1_ hown hK hE1 rfl 0 (by decide) lk0 (fun _ h9 => h9) rfl dX1_latestOf_8 ?_
      refine j_alQ (C := RX0) hx hb hK hE2 rfl dX1_latestOf_11 ?_
      refine j_re (y := 12) rfl ?_
      refine j_cge (tgt := 56) hx hb (by omega) (by omega) (by decide) (by decide) dX1_latestOf_12 (by decide) (fun c12 => ?_) (fun c12 => ?_)
      · refine j_aload_nQ hx hb dX1_latestOf_56 rfl (lv_at hl 1 rfl) ?_
        exact r_a hx hb hr hlk (o := Option.map eAd (lo (ls_ L (gLat k d)) none i)) rfl (congrArg va_rf (show (Option.map eAd (lo (ls_ L (gLat k d)) none i) : Option Nat) = Option.map eAd (lat L k d) from by rw [lat_lo hE3 (by omega)])) dX1_latestOf_57
      · refine lv_aload_n hx hb dX1_latestOf_15 rfl (lv_at hl 2 rfl) ?_
        refine j_get (ci := 1) (v := .ref b) hx hb hts inX1_ hown hK hE1 rfl 0 (by decide) lk0 (fun _ h9 => h9) rfl dX1_latestOf_16 ?_
        refine lv_iload hx hb dX1_latestOf_19 (lv_at hl 0 rfl) ?_
        refine j_aald (C := RX0) hx hb hK hE2 rfl (by omega) (by omega) (by decide) dX1_latestOf_21 ?_
        rcases spE : L[(i).toNat]? with _ | e
        · refine j_qn (qL_n (by omega) spE) ?_
          refine lv_astoreN (lv' := [(5, .null), (4, .int (J i)), (3, va_rf (Option.map eAd (lo (ls_ L (gLat k d)) none i))), (0, .ref q), (1, .int (J k)), (2, .int (J d))]) hx hb dX1_latestOf_22 hl (by decide) rfl (fun ls hl => ?_)
          refine lv_aloadN hx hb dX1_latestOf_24 (lv_at hl 0 rfl) ?_
          refine lv_ifnullN (tgt := 50) hx hb dX1_latestOf_26 (by decide) ?_
          refine lv_iinc (v := J (i + 1)) (lv' := [(4, .int (J (i + 1))), (5, .null), (3, va_rf (Option.map eAd (lo (ls_ L (gLat k d)) none i))), (0, .ref q), (1, .int (J k)), (2, .int (J d))]) hx hb dX1_latestOf_50 hl (k := 1) rfl (J_add _ _) (by decide) (by simp [va_rf_cat]) (fun ls hl => ?_)
          refine lv_goto (tgt := 5) hx hb dX1_latestOf_53 (by decide) ?_
          exact ih5 (i + 1) (by omega) (by omega) _ (lv_sub hl [0, 2, 3, 4, 5] (by rw [show (Option.map eAd (lo (ls_ L (gLat k d)) none (i + 1)) : Option Nat) = Option.map eAd (lo (ls_ L (gLat k d)) none i) from (by rw [lo_s _ _ (by omega)]; simp only [ls_, spE, gLat] <;> (repeat' split) <;> first | rfl | omega | (exfalso; omega))]; try rfl))
        · refine j_qs (b := eAd e) (qL_s (by omega) spE) ?_
          have hme : e ∈ L := List.mem_of_getElem? spE
          have hce : At G s.heap (eAd e) (eO 0 [.int (J (eNo e)), .int (J (eDy e)), .int (J (eKi e)), .int (J (eVa e))]) := hE4 e hme
          obtain ⟨ok1, ok2, ok3⟩ := hE5 e hme
          refine lv_astore (lv' := [(5, .ref (eAd e)), (4, .int (J i)), (3, va_rf (Option.map eAd (lo (ls_ L (gLat k d)) none i))), (0, .ref q), (1, .int (J k)), (2, .int (J d))]) hx hb dX1_latestOf_22 hl (by decide) rfl (fun ls hl => ?_)
          refine lv_aload hx hb dX1_latestOf_24 (lv_at hl 0 rfl) ?_
          refine lv_ifnull hx hb dX1_latestOf_26 ?_
          refine lv_aload hx hb dX1_latestOf_29 (lv_at hl 0 rfl) ?_
          refine j_get (ci := 0) (v := .int (J (eKi e))) hx hb hts inX0_ hown hK hce rfl 2 (by decide) lk1 (fun _ h9 => h9) rfl dX1_latestOf_31 ?_
          refine lv_iload_n hx hb dX1_latestOf_34 rfl (lv_at hl 4 rfl) ?_
          refine j_cne (tgt := 50) hx hb (by omega) (by omega) (by omega) (by omega) dX1_latestOf_35 (by decide) (fun c35 => ?_) (fun c35 => ?_)
          · refine lv_iinc (v := J (i + 1)) (lv' := [(4, .int (J (i + 1))), (5, .ref (eAd e)), (3, va_rf (Option.map eAd (lo (ls_ L (gLat k d)) none i))), (0, .ref q), (1, .int (J k)), (2, .int (J d))]) hx hb dX1_latestOf_50 hl (k := 1) rfl (J_add _ _) (by decide) (by simp [va_rf_cat]) (fun ls hl => ?_)
            refine lv_goto (tgt := 5) hx hb dX1_latestOf_53 (by decide) ?_
            exact ih5 (i + 1) (by omega) (by omega) _ (lv_sub hl [0, 2, 3, 4, 5] (by rw [show (Option.map eAd (lo (ls_ L (gLat k d)) none (i + 1)) : Option Nat) = Option.map eAd (lo (ls_ L (gLat k d)) none i) from (by rw [lo_s _ _ (by omega)]; simp only [ls_, spE, gLat] <;> (repeat' split) <;> first | rfl | omega | (exfalso; omega))]; try rfl))
          · refine lv_aload hx hb dX1_latestOf_38 (lv_at hl 0 rfl) ?_
            refine j_get (ci := 0) (v := .int (J (eDy e))) hx hb hts inX0_ hown hK hce rfl 1 (by decide) lk2 (fun _ h9 => h9) rfl dX1_latestOf_40 ?_
            refine lv_iload_n hx hb dX1_latestOf_43 rfl (lv_at hl 5 rfl) ?_
            refine j_cgt (tgt := 50) hx hb (by omega) (by omega) (by omega) (by omega) dX1_latestOf_44 (by decide) (fun c44 => ?_) (fun c44 => ?_)
            · refine lv_iinc (v := J (i + 1)) (lv' := [(4, .int (J (i + 1))), (5, .ref (eAd e)), (3, va_rf (Option.map eAd (lo (ls_ L (gLat k d)) none i))), (0, .ref q), (1, .int (J k)), (2, .int (J d))]) hx hb dX1_latestOf_50 hl (k := 1) rfl (J_add _ _) (by decide) (by simp [va_rf_cat]) (fun ls hl => ?_)
              refine lv_goto (tgt := 5) hx hb dX1_latestOf_53 (by decide) ?_
              exact ih5 (i + 1) (by omega) (by omega) _ (lv_sub hl [0, 2, 3, 4, 5] (by rw [show (Option.map eAd (lo (ls_ L (gLat k d)) none (i + 1)) : Option Nat) = Option.map eAd (lo (ls_ L (gLat k d)) none i) from (by rw [lo_s _ _ (by omega)]; simp only [ls_, spE, gLat] <;> (repeat' split) <;> first | rfl | omega | (exfalso; omega))]; try rfl))
            · refine lv_aload hx hb dX1_latestOf_47 (lv_at hl 0 rfl) ?_
              refine lv_astore_n (lv' := [(3, .ref (eAd e)), (5, .ref (eAd e)), (4, .int (J i)), (0, .ref q), (1, .int (J k)), (2, .int (J d))]) hx hb dX1_latestOf_49 rfl hl (by decide) rfl (fun ls hl => ?_)
              refine lv_iinc (v := J (i + 1)) (lv' := [(4, .int (J (i + 1))), (3, .ref (eAd e)), (5, .ref (eAd e)), (0, .ref q), (1, .int (J k)), (2, .int (J d))]) hx hb dX1_latestOf_50 hl (k := 2) rfl (J_add _ _) (by decide) rfl (fun ls hl => ?_)
              refine lv_goto (tgt := 5) hx hb dX1_latestOf_53 (by decide) ?_
              exact ih5 (i + 1) (by omega) (by omega) _ (lv_sub hl [0, 1, 3, 4, 5] (by rw [show (Option.map eAd (lo (ls_ L (gLat k d)) none (i + 1)) : Option Nat) = some (eAd e) from (by rw [lo_s _ _ (by omega)]; simp only [ls_, spE, gLat] <;> (repeat' split) <;> first | rfl | omega | (exfalso; omega))]; try rfl))
  exact lp5 13 0 (by omega) (by omega) _ (lv_sub hl [0, 1, 2, 3, 4] (by rw [show (Option.map eAd (lo (ls_ L (gLat k d)) none 0) : Option Nat) = none from (by rfl)]; try rfl))
