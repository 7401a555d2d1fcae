abbrev rmX8_appeal : Room := { frames := 4, cells := 40, slots := 160, locals := 87 }
set_option maxHeartbeats 4000000 in
set_option maxRecDepth 100000 in
theorem c_X8_appeal (l : Launch) (G : GG) (A : Nat → Prop) (a : Nat → Nat) (f : Nat → Int → Nat) (N : Int → List Int) (u : Nat → Int → Int) (ys : Int → Int) (V : St) (h d v lk : Int) (sz : Nat) (hA : ∀ t i, dom V t i → A (adr a f t i)) (hAn : ∀ x, sz ≤ x → A x) (g_h : -2147483648 ≤ h ∧ h < 2147483648) (g_d : -2147483648 ≤ d ∧ d < 2147483648) (g_v : -2147483648 ≤ v ∧ v < 2147483648) (g_lk : -2147483648 ≤ lk ∧ lk < 2147483648) : ME l G yX8_appeal wsX8_appeal rmX8_appeal [.ref (a 0), .int (J h), .int (J d), .int (J v), .int (J lk)] (fun H => H.size = sz ∧ (RW G H a f N u ys V)) (some (.int (J (apR V h d v lk))) : Option Value) A (fun H H1 => WX G A a (@ite St (((0 ≤ h ∧ h < V 0 0) ∧ (0 ≤ d ∧ d < 3650) ∧ 1 ≤ v ∧ v ≤ 900) ∧ ¬ apF V h lk) (Classical.propDecidable _) (apW V h d v lk (V 0 0)) V) H H1) 40 160 := by
  refine ME.of (cc := cX8_appeal) (maxL := 6) (ret := (some .int)) (by decide) rfl (Nat.le_of_ble_eq_true rfl) ?_
  intro p e s m below meth c hx hb hr hml hown hts hlk hin hK hP ls hl
  have hL0 : ∀ z9 ∈ ([] : List Loc), A z9.base := fun z9 h => absurd h List.not_mem_nil
  have hown : s.vm.findClass RX8 = some m.cls := hown
  have hl : lv_has ls 6 [(0, .ref (a 0)), (1, .int (J h)), (2, .int (J d)), (3, .int (J v)), (4, .int (J lk))] := hl
  have inX8_ : ∀ w ∈ u_ws RX8 TX8 4, w ∈ wsX8_appeal := by decide +kernel
  have lk0 := hts (.fieldLink RX8 12 "RateBook" "town" "LRateBook$Town;") (by decide +kernel)
  obtain ⟨hsz, hP⟩ := hP
  have hF0 : Fr s.heap s.heap A 0 := Fr.rf
  have hRW : RW G s.heap a f N u ys V := hP
  have hN := hRW.2.2.1
  obtain ⟨L, hLe⟩ : ∃ L : Int → List EvT, L = fun h => mkL V (f 9) h (N h) := ⟨_, rfl⟩
  have hRB : RB G s.heap a f L u V := hLe ▸ hRW.1
  obtain ⟨hV, hX, hT, hE, hLi, hBa, hBk⟩ := id hRB
  obtain ⟨hT1, hT2, hT3, hT4⟩ := id hT
  obtain ⟨hL1, hL2, hL3, hL4, hL5, hL6⟩ := id hLi
  have hn := hV.n
  have hnl := hV.l
  have hLl : ∀ h, 0 ≤ h → h < V 0 0 → ((L h).length : Int) = V 6 h := fun h z1 z2 => by rw [hLe]; exact (congrArg Int.ofNat (mkL_len _ _ _ _)).trans (hN h z1 z2).1
  have hMe : ∀ h, 0 ≤ h → h < V 0 0 → ∀ e ∈ L h, eAd e ≠ f 1 h ∧ eAd e ≠ f 2 h := fun h z1 z2 e he => by
    rw [hLe] at he
    obtain ⟨j, hj, rfl⟩ := mkL_mem he
    have w := (hN h z1 z2).2.1 j hj
    exact ⟨fun z => absurd (hRW.2.2.2 19 _ 11 h (dE z1 z2 w.1 w.2) (dH 11 (by omega) (by omega) z1 z2) z).1 (by omega), fun z => absurd (hRW.2.2.2 19 _ 12 h (dE z1 z2 w.1 w.2) (dH 12 (by omega) (by omega) z1 z2) z).1 (by omega)⟩
  have hM12 : ∀ h, 0 ≤ h → h < V 0 0 → f 1 h ≠ f 2 h := fun h z1 z2 z => absurd (hRW.2.2.2 11 h 12 h (dH 11 (by omega) (by omega) z1 z2) (dH 12 (by omega) (by omega) z1 z2) z).1 (by omega)
  have hlt_0 := (hX).lt
  have hlt_1 := (hT2).lt
  have hlt_2 := (hT3).lt
  have hlt_3 := (hL2).lt
  have hlt_4 := (hL3).lt
  have hlt_5 := (hBa).lt
  refine lv_aload_n hx hb dX8_appeal_0 rfl (lv_at hl 0 rfl) ?_
  refine j_get (ci := 8) (v := .ref (a 1)) hx hb hts inX8_ hown hK hX rfl 0 (by decide) lk0 (fun _ h9 => h9) rfl dX8_appeal_1 ?_
  refine lv_iload_n hx hb dX8_appeal_4 rfl (lv_at hl 1 rfl) ?_
  refine k_V (ci := 5) (b := a 1) (As := [.int (J h)]) (rest := []) (v := va_rf (qN (V 0 0) (f 0) h)) hx hb hml hown hts hK hl.1 (c_X5_at l G (a 1) (a 2) (f 0) (f 1) V h (by omega)) (cwV 1 hts gX8_appeal_X5_at rfl rfl rfl (by decide +kernel) ⟨Nat.le_of_ble_eq_true rfl, Nat.le_of_ble_eq_true rfl⟩) hT2 rfl hT rfl rfl (Nat.le_of_ble_eq_true rfl) dX8_appeal_5 ⟨Nat.zero_le _, Nat.zero_le _⟩ ?_
  by_cases sp5 : 0 ≤ h ∧ h < V 0 0
  · refine j_qs (b := f 0 h) (qN_s sp5) ?_
    have hce_1 : At G s.heap (f 0 h) (eHo V (f 1) h) := hT4 h sp5.1 sp5.2
    have hih_2 := hT1.h sp5.1 sp5.2
    refine lv_astore (lv' := [(5, .ref (f 0 h)), (0, .ref (a 0)), (1, .int (J h)), (2, .int (J d)), (3, .int (J v)), (4, .int (J lk))]) hx hb dX8_appeal_8 hl (by decide) rfl (fun ls hl => ?_)
    refine lv_aload hx hb dX8_appeal_10 (lv_at hl 0 rfl) ?_
    refine lv_ifnull hx hb dX8_appeal_12 ?_
    refine lv_iload_n hx hb dX8_appeal_15 rfl (lv_at hl 3 rfl) ?_
    refine j_si hx hb dX8_appeal_16 (by decide +kernel) ?_
    refine k_S (As := [.int (J d), .int (J 3650)]) (rest := []) (v := .int (J (pI (0 ≤ d ∧ d < 3650)))) hx hb hml hown hts hK hl.1 (c_X8_isOf l G d 3650 (by omega) (by omega)) (va_cwS 2 hts gX8_appeal_X8_isOf rfl rfl rfl (by decide +kernel) ⟨Nat.le_of_ble_eq_true rfl, Nat.le_of_ble_eq_true rfl⟩) trivial rfl rfl (Nat.le_of_ble_eq_true rfl) dX8_appeal_19 ⟨Nat.zero_le _, Nat.zero_le _⟩ ?_
    refine j_eqP (tgt := 33) hx hb dX8_appeal_22 (by decide) (fun c22 => ?_) (fun c22 => ?_)
    · refine j_const hx hb dX8_appeal_33 ?_
      exact r_iE hx hb hr hlk (Nat.le_of_ble_eq_true rfl) (Nat.le_of_ble_eq_true rfl) (congrArg (fun z => some (Value.int (J z))) (show ((-1) : Int) = apR V h d v lk from (ap_v1 (by omega)).symm)) hL0 (WX.eq (WX.of hF0 hRW hA) (if_neg (fun z => absurd z.1 (by omega)))) dX8_appeal_34
    · refine j_const hx hb dX8_appeal_25 ?_
      refine lv_iload_n hx hb dX8_appeal_26 rfl (lv_at hl 4 rfl) ?_
      refine k_S (As := [.int (J 2), .int (J v)]) (rest := []) (v := .int (J (pI ((2 = 0 ∧ 1 ≤ v ∧ v ≤ 500) ∨ (2 = 1 ∧ 0 ≤ v ∧ v ≤ 3) ∨ (2 = 2 ∧ 1 ≤ v ∧ v ≤ 900))))) hx hb hml hown hts hK hl.1 (c_X8_isEvent l G 2 v (by omega) (by omega)) (va_cwS 2 hts gX8_appeal_X8_isEvent rfl rfl rfl (by decide +kernel) ⟨Nat.le_of_ble_eq_true rfl, Nat.le_of_ble_eq_true rfl⟩) trivial rfl rfl (Nat.le_of_ble_eq_true rfl) dX8_appeal_27 ⟨Nat.zero_le _, Nat.zero_le _⟩ ?_
      refine j_neP (tgt := 35) hx hb dX8_appeal_30 (by decide) (fun c30 => ?_) (fun c30 => ?_)
      · refine lv_iload hx hb dX8_appeal_35 (lv_at hl 5 rfl) ?_
        refine j_eq0 (tgt := 51) hx hb (by omega) (by omega) dX8_appeal_37 (by decide) (fun c37 => ?_) (fun c37 => ?_)
        · refine lv_aload hx hb dX8_appeal_51 (lv_at hl 0 rfl) ?_
          refine lv_iload_n hx hb dX8_appeal_53 rfl (lv_at hl 3 rfl) ?_
          refine lv_iload_n hx hb dX8_appeal_54 rfl (lv_at hl 4 rfl) ?_
          refine e_S (A := A) (As := [.ref (f 0 h), .int (J d), .int (J v)]) (rest := []) hx hb hml hown hts hK hl.1 (c_X8_cutOne l G A a f N u ys V h d v sz hA hAn (by omega) (by omega) (by omega)) (va_cwS 3 hts gX8_appeal_X8_cutOne rfl rfl rfl (by decide +kernel) ⟨Nat.le_of_ble_eq_true rfl, Nat.le_of_ble_eq_true rfl⟩) (⟨hsz, hRW⟩) rfl rfl (Nat.le_of_ble_eq_true rfl) dX8_appeal_55 ⟨Nat.le_of_ble_eq_true rfl, Nat.le_of_ble_eq_true rfl⟩ hL0 (fun x hx => hx) (fun H_3 lo_4 hp_5 hL_6 => ?_)
          show W p l e (headSpec wsX8_appeal rmX8_appeal).room s m ([.ref (a 0), .int (J h), .int (J d), .int (J v), .int (J lk)] : List Value).toArray below meth c H_3 lo_4 (0 + 1) (0 + 4) (MQ below (QE (some (.int (J (apR V h d v lk))) : Option Value) (fun H H1 => WX G A a (@ite St (((0 ≤ h ∧ h < V 0 0) ∧ (0 ≤ d ∧ d < 3650) ∧ 1 ≤ v ∧ v ≤ 900) ∧ ¬ apF V h lk) (Classical.propDecidable _) (apW V h d v lk (V 0 0)) V) H H1)) ([.ref (a 0), .int (J h), .int (J d), .int (J v), .int (J lk)] : List Value).toArray s 40 160 A) (F0 m 58 ls [.int (J (if V 6 h = 12 then -3 else 1))])
          exact r_iE hx hb hr hlk (Nat.le_of_ble_eq_true rfl) (Nat.le_of_ble_eq_true rfl) (congrArg (fun z => some (Value.int (J z))) (show (if V 6 h = 12 then -3 else 1 : Int) = apR V h d v lk from ap1V c37 (show (0 ≤ h ∧ h < V 0 0) ∧ (0 ≤ d ∧ d < 3650) ∧ 1 ≤ v ∧ v ≤ 900 by omega))) hL_6 (WX.eq hp_5 (ap1P c37 (show (0 ≤ h ∧ h < V 0 0) ∧ (0 ≤ d ∧ d < 3650) ∧ 1 ≤ v ∧ v ≤ 900 by omega))) dX8_appeal_58
        · refine lv_aload_n hx hb dX8_appeal_40 rfl (lv_at hl 1 rfl) ?_
          refine lv_aload hx hb dX8_appeal_41 (lv_at hl 0 rfl) ?_
          refine lv_iload_n hx hb dX8_appeal_43 rfl (lv_at hl 3 rfl) ?_
          refine lv_iload_n hx hb dX8_appeal_44 rfl (lv_at hl 4 rfl) ?_
          refine e_V (A := A) (ci := 8) (b := a 0) (As := [.ref (f 0 h), .int (J d), .int (J v)]) (rest := []) hx hb hml hown hts hK hl.1 (c_X8_cutLike l G A a f N u ys V h d v lk sz hA hAn (by omega) (by omega) (by omega) c37) (cwV 3 hts gX8_appeal_X8_cutLike rfl rfl rfl (by decide +kernel) ⟨Nat.le_of_ble_eq_true rfl, Nat.le_of_ble_eq_true rfl⟩) hX rfl (⟨hsz, hRW⟩) rfl rfl (Nat.le_of_ble_eq_true rfl) dX8_appeal_45 ⟨Nat.le_of_ble_eq_true rfl, Nat.le_of_ble_eq_true rfl⟩ hL0 (fun x hx => hx) (fun H_7 lo_8 hp_9 hL_10 => ?_)
          show W p l e (headSpec wsX8_appeal rmX8_appeal).room s m ([.ref (a 0), .int (J h), .int (J d), .int (J v), .int (J lk)] : List Value).toArray below meth c H_7 lo_8 (0 + 40) (0 + 160) (MQ below (QE (some (.int (J (apR V h d v lk))) : Option Value) (fun H H1 => WX G A a (@ite St (((0 ≤ h ∧ h < V 0 0) ∧ (0 ≤ d ∧ d < 3650) ∧ 1 ≤ v ∧ v ≤ 900) ∧ ¬ apF V h lk) (Classical.propDecidable _) (apW V h d v lk (V 0 0)) V) H H1)) ([.ref (a 0), .int (J h), .int (J d), .int (J v), .int (J lk)] : List Value).toArray s 40 160 A) (F0 m 48 ls [.int (J (@ite Int (apF V h lk) (Classical.propDecidable _) (-3) (apN V h lk (V 0 0))))])
          refine lv_goto (tgt := 58) hx hb dX8_appeal_48 (by decide) ?_
          exact r_iE hx hb hr hlk (Nat.le_of_ble_eq_true rfl) (Nat.le_of_ble_eq_true rfl) (congrArg (fun z => some (Value.int (J z))) (show (@ite Int (apF V h lk) (Classical.propDecidable _) (-3) (apN V h lk (V 0 0)) : Int) = apR V h d v lk from by unfold apR; rw [if_pos (show (0 ≤ h ∧ h < V 0 0) ∧ (0 ≤ d ∧ d < 3650) ∧ 1 ≤ v ∧ v ≤ 900 by omega)])) hL_10 (WX.eq hp_9 (ap_sw (show (0 ≤ h ∧ h < V 0 0) ∧ (0 ≤ d ∧ d < 3650) ∧ 1 ≤ v ∧ v ≤ 900 by omega) _ _)) dX8_appeal_58
      · refine j_const hx hb dX8_appeal_33 ?_
        exact r_iE hx hb hr hlk (Nat.le_of_ble_eq_true rfl) (Nat.le_of_ble_eq_true rfl) (congrArg (fun z => some (Value.int (J z))) (show ((-1) : Int) = apR V h d v lk from (ap_v1 (by omega)).symm)) hL0 (WX.eq (WX.of hF0 hRW hA) (if_neg (fun z => absurd z.1 (by omega)))) dX8_appeal_34
  · refine j_qn (qN_n sp5) ?_
    refine lv_astoreN (lv' := [(5, .null), (0, .ref (a 0)), (1, .int (J h)), (2, .int (J d)), (3, .int (J v)), (4, .int (J lk))]) hx hb dX8_appeal_8 hl (by decide) rfl (fun ls hl => ?_)
    refine lv_aloadN hx hb dX8_appeal_10 (lv_at hl 0 rfl) ?_
    refine lv_ifnullN (tgt := 33) hx hb dX8_appeal_12 (by decide) ?_
    refine j_const hx hb dX8_appeal_33 ?_
    exact r_iE hx hb hr hlk (Nat.le_of_ble_eq_true rfl) (Nat.le_of_ble_eq_true rfl) (congrArg (fun z => some (Value.int (J z))) (show ((-1) : Int) = apR V h d v lk from (ap_v1 (by omega)).symm)) hL0 (WX.eq (WX.of hF0 hRW hA) (if_neg (fun z => absurd z.1 (by omega)))) dX8_appeal_34
