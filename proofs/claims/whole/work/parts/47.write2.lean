abbrev rmX8_readYearSums : Room := { frames := 5, cells := 0, slots := 0, locals := 123 }
set_option maxHeartbeats 4000000 in
set_option maxRecDepth 100000 in
theorem c_X8_readYearSums (l : Launch) (G : GG) (a : Nat → Nat) (f : Nat → Int → Nat) (N : Int → List Int) (u : Nat → Int → Int) (ys : Int → Int) (V : St) (y : Int) (sz : Nat) (h_y : 0 ≤ y ∧ y < 10) : ME l G yX8_readYearSums wsX8_readYearSums rmX8_readYearSums [.ref (a 0), .int (J y)] (fun H => H.size = sz ∧ (RW G H a f N u ys V)) (none : Option Value) (fun x => (fun x => x = (a 6)) x ∨ sz ≤ x) (fun H H1 => Fr H H1 (fun x => x = (a 6)) 0 ∧ RW G H1 a f N u (yS V (f 9) N y) V) 0 0 := by
  refine ME.of (cc := cX8_readYearSums) (maxL := 4) (ret := none) (by decide) rfl (Nat.le_of_ble_eq_true rfl) ?_
  intro p e s m below meth c hx hb hr hml hown hts hlk hin hK hP ls hl
  have hL0 : ∀ z9 ∈ ([] : List Loc), (fun x => (fun x => x = (a 6)) x ∨ sz ≤ x) z9.base := fun z9 h => absurd h List.not_mem_nil
  have hown : s.vm.findClass RX8 = some m.cls := hown
  have hl : lv_has ls 4 [(0, .ref (a 0)), (1, .int (J y))] := hl
  have inX8_ : ∀ w ∈ u_ws RX8 TX8 4, w ∈ wsX8_readYearSums := by decide +kernel
  have lk0 := hts (.fieldLink RX8 23 "RateBook" "yearSums" "[J") (by decide +kernel)
  have lk1 := hts (.fieldLink RX8 12 "RateBook" "town" "LRateBook$Town;") (by decide +kernel)
  obtain ⟨hsz, hP⟩ := hP
  have hF0 : Fr s.heap s.heap (fun x => x = (a 6)) 0 := Fr.rf
  have hRW : RW G s.heap a f N u ys V := hP
  have hN := hRW.2.2.1
  obtain ⟨L, hLe⟩ : ∃ L : Int → List EvT, L = fun h => mkL V (f 9) h (N h) := ⟨_, rfl⟩
  have hRB : RB G s.heap a f L u V := hLe ▸ hRW.1
  obtain ⟨hV, hX, hT, hE, hLi, hBa, hBk⟩ := id hRB
  obtain ⟨hT1, hT2, hT3, hT4⟩ := id hT
  obtain ⟨hL1, hL2, hL3, hL4, hL5, hL6⟩ := id hLi
  have hn := hV.n
  have hnl := hV.l
  have hLl : ∀ h, 0 ≤ h → h < V 0 0 → ((L h).length : Int) = V 6 h := fun h z1 z2 => by rw [hLe]; exact (congrArg Int.ofNat (mkL_len _ _ _ _)).trans (hN h z1 z2).1
  have hMe : ∀ h, 0 ≤ h → h < V 0 0 → ∀ e ∈ L h, eAd e ≠ f 1 h ∧ eAd e ≠ f 2 h := fun h z1 z2 e he => by
    rw [hLe] at he
    obtain ⟨j, hj, rfl⟩ := mkL_mem he
    have w := (hN h z1 z2).2.1 j hj
    exact ⟨fun z => absurd (hRW.2.2.2 19 _ 11 h (dE z1 z2 w.1 w.2) (dH 11 (by omega) (by omega) z1 z2) z).1 (by omega), fun z => absurd (hRW.2.2.2 19 _ 12 h (dE z1 z2 w.1 w.2) (dH 12 (by omega) (by omega) z1 z2) z).1 (by omega)⟩
  have hM12 : ∀ h, 0 ≤ h → h < V 0 0 → f 1 h ≠ f 2 h := fun h z1 z2 z => absurd (hRW.2.2.2 11 h 12 h (dH 11 (by omega) (by omega) z1 z2) (dH 12 (by omega) (by omega) z1 z2) z).1 (by omega)
  have hlt_0 := (hX).lt
  have hlt_1 := (hT2).lt
  have hlt_2 := (hT3).lt
  have hlt_3 := (hL2).lt
  have hlt_4 := (hL3).lt
  have hlt_5 := (hBa).lt
  refine j_const hx hb dX8_readYearSums_0 ?_
  refine lv_istore_n (lv' := [(2, .int (J 0)), (0, .ref (a 0)), (1, .int (J y))]) hx hb dX8_readYearSums_1 rfl hl (by decide) rfl (fun ls hl => ?_)
  have lp2 : ∀ (n : Nat) (i : Int) (H2 : Heap) (lo2 : List Loc) (hL2 : ∀ z9 ∈ lo2, (fun x => (fun x => x = (a 6)) x ∨ sz ≤ x) z9.base) (i0 : 0 ≤ i ∧ i ≤ 40) (hFl : Fr s.heap H2 (fun x => x = a 6) 0) (lys : At G H2 (a 6) (eL G 40 (yI V (f 9) N ys y i))) (hm : 40 - i < (n : Int)) (ls : Array Slot) (hl : lv_has ls 4 [(2, .int (J i)), (0, .ref (a 0)), (1, .int (J y))]), W p l e (headSpec wsX8_readYearSums rmX8_readYearSums).room s m ([.ref (a 0), .int (J y)] : List Value).toArray below meth c H2 lo2 0 0 (MQ below (QE (none : Option Value) (fun H H1 => Fr H H1 (fun x => x = (a 6)) 0 ∧ RW G H1 a f N u (yS V (f 9) N y) V)) ([.ref (a 0), .int (J y)] : List Value).toArray s 0 0 (fun x => (fun x => x = (a 6)) x ∨ sz ≤ x)) (F0 m 2 ls []) := by
    intro n
    induction n with
    | zero =>
      intro i H2 lo2 hL2 i0 hFl lys hm ls hl
      exact absurd hm (by omega)
    | succ n ih2 =>
      intro i H2 lo2 hL2 i0 hFl lys hm ls hl
      have hRWl : RW G H2 a f N u (yI V (f 9) N ys y i) V := hRW.sums hFl lys
      have hRB : RB G H2 a f L u V := hLe ▸ hRWl.1
      obtain ⟨-, hX, hT, hE, hLi, hBa, hBk⟩ := id hRB
      obtain ⟨-, hT2, hT3, hT4⟩ := id hT
      refine lv_iload_n hx hb dX8_readYearSums_2 rfl (lv_at hl 0 rfl) ?_
      refine lv_aload_n hx hb dX8_readYearSums_3 rfl (lv_at hl 1 rfl) ?_
      refine j_get (ci := 8) (v := .ref (a 6)) hx hb hts inX8_ hown hK hX rfl 3 (by decide) lk0 (fun _ h9 => h9) rfl dX8_readYearSums_4 ?_
      refine j_alL hx hb hK lys dX8_readYearSums_7 ?_
      refine j_re (y := 40) rfl ?_
      refine j_cge (tgt := 46) hx hb (by omega) (by omega) (by decide) (by decide) dX8_readYearSums_8 (by decide) (fun c8 => ?_) (fun c8 => ?_)
      · exact r_vE hx hb hr hlk (Nat.le_of_ble_eq_true rfl) (Nat.le_of_ble_eq_true rfl) rfl hL2 (⟨hFl, hRW.sums hFl (eL_congr (fun j h1 h2 => if_pos (by omega)) lys)⟩) dX8_readYearSums_46
      · refine lv_aload_n hx hb dX8_readYearSums_11 rfl (lv_at hl 1 rfl) ?_
        refine j_get (ci := 8) (v := .ref (a 1)) hx hb hts inX8_ hown hK hX rfl 0 (by decide) lk1 (fun _ h9 => h9) rfl dX8_readYearSums_12 ?_
        refine lv_iload_n hx hb dX8_readYearSums_15 rfl (lv_at hl 0 rfl) ?_
        refine k_V (ci := 5) (b := a 1) (As := [.int (J i)]) (rest := []) (v := va_rf (qN (V 0 0) (f 0) i)) hx hb hml hown hts hK hl.1 (c_X5_at l G (a 1) (a 2) (f 0) (f 1) V i (by omega)) (cwV 1 hts gX8_readYearSums_X5_at rfl rfl rfl (by decide +kernel) ⟨Nat.le_of_ble_eq_true rfl, Nat.le_of_ble_eq_true rfl⟩) hT2 rfl hT rfl rfl (Nat.le_of_ble_eq_true rfl) dX8_readYearSums_16 ⟨Nat.zero_le _, Nat.zero_le _⟩ ?_
        by_cases sp16 : 0 ≤ i ∧ i < V 0 0
        · refine j_qs (b := f 0 i) (qN_s sp16) ?_
          have hce_1 : At G H2 (f 0 i) (eHo V (f 1) i) := hT4 i sp16.1 sp16.2
          have hih_2 := hT1.h sp16.1 sp16.2
          refine lv_astore_n (lv' := [(3, .ref (f 0 i)), (2, .int (J i)), (0, .ref (a 0)), (1, .int (J y))]) hx hb dX8_readYearSums_19 rfl hl (by decide) rfl (fun ls hl => ?_)
          refine lv_aload_n hx hb dX8_readYearSums_20 rfl (lv_at hl 2 rfl) ?_
          refine j_get (ci := 8) (v := .ref (a 6)) hx hb hts inX8_ hown hK hX rfl 3 (by decide) lk0 (fun _ h9 => h9) rfl dX8_readYearSums_21 ?_
          refine lv_iload_n hx hb dX8_readYearSums_24 rfl (lv_at hl 1 rfl) ?_
          refine lv_aload_n hx hb dX8_readYearSums_25 rfl (lv_at hl 0 rfl) ?_
          refine lv_ifnonnull (tgt := 33) hx hb dX8_readYearSums_26 (by decide) ?_
          refine lv_aload_n hx hb dX8_readYearSums_33 rfl (lv_at hl 2 rfl) ?_
          refine lv_aload_n hx hb dX8_readYearSums_34 rfl (lv_at hl 0 rfl) ?_
          refine lv_iload_n hx hb dX8_readYearSums_35 rfl (lv_at hl 3 rfl) ?_
          refine k_V (ci := 8) (b := a 0) (As := [.ref (f 0 i), .int (J y)]) (rest := [.int (J i), .ref (a 6)]) (v := .long (JL (yrO V (L i) i y))) hx hb hml hown hts hK hl.1 (c_X8_sumOfYear l G a f L u V i y (by omega) h_y) (cwV 2 hts gX8_readYearSums_X8_sumOfYear rfl rfl rfl (by decide +kernel) ⟨Nat.le_of_ble_eq_true rfl, Nat.le_of_ble_eq_true rfl⟩) hX rfl hRB rfl rfl (Nat.le_of_ble_eq_true rfl) dX8_readYearSums_36 ⟨Nat.zero_le _, Nat.zero_le _⟩ ?_
          refine j_last (A := (fun x => (fun x => x = (a 6)) x ∨ sz ≤ x)) hx hb hK lys (by omega) (by omega) (by decide) hL2 (Or.inl rfl) dX8_readYearSums_39 (fun H_3 lo_4 hc_5 hx_6 hL_7 => ?_)
          have hc_5 : At G H_3 (a 6) (eL G 40 (uf (yI V (f 9) N ys y i) i (yrO V (L i) i y))) := hc_5
          have hF_13 : Fr s.heap H_3 (fun x => x = (a 6)) 0 := hFl.x hx_6 (fun _ => rfl)
          refine lv_iinc (v := J (i + 1)) (lv' := [(2, .int (J (i + 1))), (3, .ref (f 0 i)), (0, .ref (a 0)), (1, .int (J y))]) hx hb dX8_readYearSums_40 hl (k := 1) rfl (J_add _ _) (by decide) rfl (fun ls hl => ?_)
          refine lv_goto (tgt := 2) hx hb dX8_readYearSums_43 (by decide) ?_
          exact ih2 (i + 1) H_3 lo_4 hL_7 (by omega) hF_13 (eL_congr (fun j h1 h2 => yI_st (by unfold yS; rw [if_pos (by omega), hLe]) j) hc_5) (by omega) _ (lv_sub hl [0, 2, 3] rfl)
        · refine j_qn (qN_n sp16) ?_
          refine lv_astore_nN (lv' := [(3, .null), (2, .int (J i)), (0, .ref (a 0)), (1, .int (J y))]) hx hb dX8_readYearSums_19 rfl hl (by decide) rfl (fun ls hl => ?_)
          refine lv_aload_n hx hb dX8_readYearSums_20 rfl (lv_at hl 2 rfl) ?_
          refine j_get (ci := 8) (v := .ref (a 6)) hx hb hts inX8_ hown hK hX rfl 3 (by decide) lk0 (fun _ h9 => h9) rfl dX8_readYearSums_21 ?_
          refine lv_iload_n hx hb dX8_readYearSums_24 rfl (lv_at hl 1 rfl) ?_
          refine lv_aload_nN hx hb dX8_readYearSums_25 rfl (lv_at hl 0 rfl) ?_
          refine lv_ifnonnullN hx hb dX8_readYearSums_26 ?_
          refine j_lconst hx hb (z := 0) dX8_readYearSums_29 rfl ?_
          refine lv_goto (tgt := 39) hx hb dX8_readYearSums_30 (by decide) ?_
          refine j_last (A := (fun x => (fun x => x = (a 6)) x ∨ sz ≤ x)) hx hb hK lys (by omega) (by omega) (by decide) hL2 (Or.inl rfl) dX8_readYearSums_39 (fun H_14 lo_15 hc_16 hx_17 hL_18 => ?_)
          have hc_16 : At G H_14 (a 6) (eL G 40 (uf (yI V (f 9) N ys y i) i 0)) := hc_16
          have hF_23 : Fr s.heap H_14 (fun x => x = (a 6)) 0 := hFl.x hx_17 (fun _ => rfl)
          refine lv_iinc (v := J (i + 1)) (lv' := [(2, .int (J (i + 1))), (3, .null), (0, .ref (a 0)), (1, .int (J y))]) hx hb dX8_readYearSums_40 hl (k := 1) rfl (J_add _ _) (by decide) rfl (fun ls hl => ?_)
          refine lv_goto (tgt := 2) hx hb dX8_readYearSums_43 (by decide) ?_
          exact ih2 (i + 1) H_14 lo_15 hL_18 (by omega) hF_23 (eL_congr (fun j h1 h2 => yI_st (by unfold yS; rw [if_neg (by omega)]) j) hc_16) (by omega) _ (lv_sub hl [0, 2, 3] rfl)
  exact lp2 41 0 s.heap ([]) hL0 (by omega) hF0 (eL_congr (fun j h1 h2 => (if_neg (by omega)).symm) hRW.2.1) (by omega) _ (lv_sub hl [0, 1, 2] rfl)

abbrev rmX8_poundage : Room := { frames := 6, cells := 0, slots := 0, locals := 146 }
set_option maxHeartbeats 4000000 in
set_option maxRecDepth 100000 in
theorem c_X8_poundage (l : Launch) (G : GG) (A : Nat → Prop) (a : Nat → Nat) (f : Nat → Int → Nat) (N : Int → List Int) (u : Nat → Int → Int) (ys : Int → Int) (V : St) (y nd : Int) (sz : Nat) (hA : ∀ t i, dom V t i → A (adr a f t i)) (hAn : ∀ x, sz ≤ x → A x) (hq : 0 ≤ y → y < 10 → ∀ h, 0 ≤ h → h < V 0 0 → yrO V (mkL V (f 9) h (N h)) h y = mYr V h y) (g_y : -2147483648 ≤ y ∧ y < 2147483648) (g_nd : -2147483648 ≤ nd ∧ nd < 2147483648) : ME l G yX8_poundage wsX8_poundage rmX8_poundage [.ref (a 0), .int (J y), .int (J nd)] (fun H => H.size = sz ∧ (RW G H a f N u ys V)) (some (.int (J (if (0 ≤ y ∧ y < 10) ∧ 0 ≤ nd ∧ nd ≤ 100000000 then mLp V y nd else -1))) : Option Value) A (fun H H1 => WX G A a V H H1) 0 0 := by
  refine ME.of (cc := cX8_poundage) (maxL := 3) (ret := (some .int)) (by decide) rfl (Nat.le_of_ble_eq_true rfl) ?_
  intro p e s m below meth c hx hb hr hml hown hts hlk hin hK hP ls hl
  have hL0 : ∀ z9 ∈ ([] : List Loc), A z9.base := fun z9 h => absurd h List.not_mem_nil
  have hown : s.vm.findClass RX8 = some m.cls := hown
  have hl : lv_has ls 3 [(0, .ref (a 0)), (1, .int (J y)), (2, .int (J nd))] := hl
  have lk0 := hts (.constant RX8 158 100000000) (by decide +kernel)
  obtain ⟨hsz, hP⟩ := hP
  have hF0 : Fr s.heap s.heap A 0 := Fr.rf
  have hRW : RW G s.heap a f N u ys V := hP
  have hN := hRW.2.2.1
  obtain ⟨L, hLe⟩ : ∃ L : Int → List EvT, L = fun h => mkL V (f 9) h (N h) := ⟨_, rfl⟩
  have hRB : RB G s.heap a f L u V := hLe ▸ hRW.1
  obtain ⟨hV, hX, hT, hE, hLi, hBa, hBk⟩ := id hRB
  obtain ⟨hT1, hT2, hT3, hT4⟩ := id hT
  obtain ⟨hL1, hL2, hL3, hL4, hL5, hL6⟩ := id hLi
  have hn := hV.n
  have hnl := hV.l
  have hLl : ∀ h, 0 ≤ h → h < V 0 0 → ((L h).length : Int) = V 6 h := fun h z1 z2 => by rw [hLe]; exact (congrArg Int.ofNat (mkL_len _ _ _ _)).trans (hN h z1 z2).1
  have hMe : ∀ h, 0 ≤ h → h < V 0 0 → ∀ e ∈ L h, eAd e ≠ f 1 h ∧ eAd e ≠ f 2 h := fun h z1 z2 e he => by
    rw [hLe] at he
    obtain ⟨j, hj, rfl⟩ := mkL_mem he
    have w := (hN h z1 z2).2.1 j hj
    exact ⟨fun z => absurd (hRW.2.2.2 19 _ 11 h (dE z1 z2 w.1 w.2) (dH 11 (by omega) (by omega) z1 z2) z).1 (by omega), fun z => absurd (hRW.2.2.2 19 _ 12 h (dE z1 z2 w.1 w.2) (dH 12 (by omega) (by omega) z1 z2) z).1 (by omega)⟩
  have hM12 : ∀ h, 0 ≤ h → h < V 0 0 → f 1 h ≠ f 2 h := fun h z1 z2 z => absurd (hRW.2.2.2 11 h 12 h (dH 11 (by omega) (by omega) z1 z2) (dH 12 (by omega) (by omega) z1 z2) z).1 (by omega)
  have hlt_0 := (hX).lt
  have hlt_1 := (hT2).lt
  have hlt_2 := (hT3).lt
  have hlt_3 := (hL2).lt
  have hlt_4 := (hL3).lt
  have hlt_5 := (hBa).lt
  refine lv_iload_n hx hb dX8_poundage_0 rfl (lv_at hl 1 rfl) ?_
  refine j_bi hx hb dX8_poundage_1 (by decide +kernel) ?_
  refine k_S (As := [.int (J y), .int (J 10)]) (rest := []) (v := .int (J (pI (0 ≤ y ∧ y < 10)))) hx hb hml hown hts hK hl.1 (c_X8_isOf l G y 10 (by omega) (by omega)) (va_cwS 2 hts gX8_poundage_X8_isOf rfl rfl rfl (by decide +kernel) ⟨Nat.le_of_ble_eq_true rfl, Nat.le_of_ble_eq_true rfl⟩) trivial rfl rfl (Nat.le_of_ble_eq_true rfl) dX8_poundage_3 ⟨Nat.zero_le _, Nat.zero_le _⟩ ?_
  refine j_eqP (tgt := 19) hx hb dX8_poundage_6 (by decide) (fun c6 => ?_) (fun c6 => ?_)
  · refine j_const hx hb dX8_poundage_19 ?_
    exact r_iE hx hb hr hlk (Nat.le_of_ble_eq_true rfl) (Nat.le_of_ble_eq_true rfl) (congrArg (fun z => some (Value.int (J z))) (show ((-1) : Int) = if (0 ≤ y ∧ y < 10) ∧ 0 ≤ nd ∧ nd ≤ 100000000 then mLp V y nd else -1 from by rw [if_neg (by omega)])) hL0 (WX.of hF0 hRW hA) dX8_poundage_20
  · refine lv_iload_n hx hb dX8_poundage_9 rfl (lv_at hl 2 rfl) ?_
    refine j_const hx hb dX8_poundage_10 ?_
    refine j_ldc hx hb hown lk0 (z := 100000000) rfl dX8_poundage_11 ?_
    refine k_S (As := [.int (J nd), .int (J 0), .int (J 100000000)]) (rest := []) (v := .int (J (pI (0 ≤ nd ∧ nd ≤ 100000000)))) hx hb hml hown hts hK hl.1 (c_X8_isWithin l G nd 0 100000000 (by omega) (by omega) (by omega)) (va_cwS 3 hts gX8_poundage_X8_isWithin rfl rfl rfl (by decide +kernel) ⟨Nat.le_of_ble_eq_true rfl, Nat.le_of_ble_eq_true rfl⟩) trivial rfl rfl (Nat.le_of_ble_eq_true rfl) dX8_poundage_13 ⟨Nat.zero_le _, Nat.zero_le _⟩ ?_
    refine j_neP (tgt := 21) hx hb dX8_poundage_16 (by decide) (fun c16 => ?_) (fun c16 => ?_)
    · refine lv_aload_n hx hb dX8_poundage_21 rfl (lv_at hl 0 rfl) ?_
      refine lv_iload_n hx hb dX8_poundage_22 rfl (lv_at hl 1 rfl) ?_
      refine e_V (A := A) (ci := 8) (b := a 0) (As := [.int (J y)]) (rest := []) hx hb hml hown hts hK hl.1 (c_X8_readYearSums l G a f N u ys V y sz (by omega)) (cwV 1 hts gX8_poundage_X8_readYearSums rfl rfl rfl (by decide +kernel) ⟨Nat.le_of_ble_eq_true rfl, Nat.le_of_ble_eq_true rfl⟩) hX rfl (⟨by have z1 := hF0.1; omega, hRW⟩) rfl rfl (Nat.le_of_ble_eq_true rfl) dX8_poundage_23 ⟨Nat.le_of_ble_eq_true rfl, Nat.le_of_ble_eq_true rfl⟩ hL0 (fun x hx => hx.elim (fun z => by rw [z]; exact (hA 6 0 (dA 6 (by omega)))) (fun z => hAn x (by omega))) (fun H_1 lo_2 hp_3 hL_4 => ?_)
      show W p l e (headSpec wsX8_poundage rmX8_poundage).room s m ([.ref (a 0), .int (J y), .int (J nd)] : List Value).toArray below meth c H_1 lo_2 (0 + 0) (0 + 0) (MQ below (QE (some (.int (J (if (0 ≤ y ∧ y < 10) ∧ 0 ≤ nd ∧ nd ≤ 100000000 then mLp V y nd else -1))) : Option Value) (fun H H1 => WX G A a V H H1)) ([.ref (a 0), .int (J y), .int (J nd)] : List Value).toArray s 0 0 A) (F0 m 26 ls [])
      have hf_6 : Fr s.heap H_1 (fun x => x = (a 6)) 0 := hp_3.1
      have hF_5 : Fr s.heap H_1 A 0 := hF0.f hf_6 (fun x hx z => by rw [z] at hx ⊢; exact (fun _ => (hA 6 0 (dA 6 (by omega)))) hx)
      have hRWy : RW G H_1 a f N u (yS V (f 9) N y) V := hp_3.2
      have hRB : RB G H_1 a f L u V := hLe ▸ hRWy.1
      obtain ⟨-, hX, hT, hE, hLi, hBa, hBk⟩ := id hRB
      obtain ⟨-, hT2, hT3, hT4⟩ := id hT
      obtain ⟨-, hL2, hL3, hL4, hL5, hL6⟩ := id hLi
      have hysr : ∀ i, 0 ≤ i → i < 40 → 0 ≤ yS V (f 9) N y i ∧ yS V (f 9) N y i ≤ 20000000000 := fun i z1 z2 => by
          unfold yS
          by_cases z3 : i < V 0 0
          · rw [if_pos z3]; exact yrO_rng hV (fun e he => (hE i z1 z3).2.2.2.2 e (by rw [hLe]; exact he)) z1 z3
          · rw [if_neg z3]; omega
      have hFy : Fr H_1 H_1 (fun z => z = f 6 y ∨ z = f 7 y) 0 := Fr.rf
      refine lv_aload_n hx hb dX8_poundage_26 rfl (lv_at hl 0 rfl) ?_
      refine lv_iload_n hx hb dX8_poundage_27 rfl (lv_at hl 2 rfl) ?_
      refine k_V (ci := 8) (b := a 0) (As := [.int (J nd)]) (rest := []) (v := .int (J (lpO (yS V (f 9) N y) nd))) hx hb hml hown hts hK hl.1 (c_X8_leastPoundage l G a (yS V (f 9) N y) nd hysr (by omega)) (cwV 1 hts gX8_poundage_X8_leastPoundage rfl rfl rfl (by decide +kernel) ⟨Nat.le_of_ble_eq_true rfl, Nat.le_of_ble_eq_true rfl⟩) hX rfl (⟨hX, hRWy.2.1⟩) rfl rfl (Nat.le_of_ble_eq_true rfl) dX8_poundage_28 ⟨Nat.zero_le _, Nat.zero_le _⟩ ?_
      exact r_iE hx hb hr hlk (Nat.le_of_ble_eq_true rfl) (Nat.le_of_ble_eq_true rfl) (congrArg (fun z => some (Value.int (J z))) (show (lpO (yS V (f 9) N y) nd : Int) = if (0 ≤ y ∧ y < 10) ∧ 0 ≤ nd ∧ nd ≤ 100000000 then mLp V y nd else -1 from by rw [if_pos (by omega)]; exact lp_eq hV nd (hq (by omega) (by omega)))) hL_4 (WX.of hF_5 hRWy hA) dX8_poundage_31
    · refine j_const hx hb dX8_poundage_19 ?_
      exact r_iE hx hb hr hlk (Nat.le_of_ble_eq_true rfl) (Nat.le_of_ble_eq_true rfl) (congrArg (fun z => some (Value.int (J z))) (show ((-1) : Int) = if (0 ≤ y ∧ y < 10) ∧ 0 ≤ nd ∧ nd ≤ 100000000 then mLp V y nd else -1 from by rw [if_neg (by omega)])) hL0 (WX.of hF0 hRW hA) dX8_poundage_20

abbrev rmX8_pay : Room := { frames := 1, cells := 0, slots := 0, locals := 22 }
set_option maxHeartbeats 4000000 in
set_option maxRecDepth 100000 in
theorem c_X8_pay (l : Launch) (G : GG) (A : Nat → Prop) (a : Nat → Nat) (f : Nat → Int → Nat) (N : Int → List Int) (u : Nat → Int → Int) (ys : Int → Int) (V : St) (h y m_ : Int) (sz : Nat) (hA : ∀ t i, dom V t i → A (adr a f t i)) (hAn : ∀ x, sz ≤ x → A x) (g_h : -2147483648 ≤ h ∧ h < 2147483648) (g_y : -2147483648 ≤ y ∧ y < 2147483648) (g_m_ : -2147483648 ≤ m_ ∧ m_ < 2147483648) : ME l G yX8_pay wsX8_pay rmX8_pay [.ref (a 0), .int (J h), .int (J y), .int (J m_)] (fun H => H.size = sz ∧ (RW G H a f N u ys V)) (some (.int (J (if (0 ≤ h ∧ h < V 0 0) ∧ (0 ≤ y ∧ y < 10) ∧ 1 ≤ m_ ∧ m_ ≤ 10000000 then (if V 17 (10 * h + y) + m_ ≤ 10000000 then V 17 (10 * h + y) + m_ else -3) else -1))) : Option Value) A (fun H H1 => WX G A a (if ((0 ≤ h ∧ h < V 0 0) ∧ (0 ≤ y ∧ y < 10) ∧ 1 ≤ m_ ∧ m_ ≤ 10000000) ∧ V 17 (10 * h + y) + m_ ≤ 10000000 then sPa V h y m_ else V) H H1) 0 0 := by
  refine ME.of (cc := cX8_pay) (maxL := 6) (ret := (some .int)) (by decide) rfl (Nat.le_of_ble_eq_true rfl) ?_
  intro p e s m below meth c hx hb hr hml hown hts hlk hin hK hP ls hl
  have hL0 : ∀ z9 ∈ ([] : List Loc), A z9.base := fun z9 h => absurd h List.not_mem_nil
  have hown : s.vm.findClass RX8 = some m.cls := hown
  have hl : lv_has ls 6 [(0, .ref (a 0)), (1, .int (J h)), (2, .int (J y)), (3, .int (J m_))] := hl
  have inX8_ : ∀ w ∈ u_ws RX8 TX8 4, w ∈ wsX8_pay := by decide +kernel
  have lk0 := hts (.fieldLink RX8 12 "RateBook" "town" "LRateBook$Town;") (by decide +kernel)
  have lk1 := hts (.constant RX8 185 10000000) (by decide +kernel)
  obtain ⟨hsz, hP⟩ := hP
  have hF0 : Fr s.heap s.heap A 0 := Fr.rf
  have hRW : RW G s.heap a f N u ys V := hP
  have hN := hRW.2.2.1
  obtain ⟨L, hLe⟩ : ∃ L : Int → List EvT, L = fun h => mkL V (f 9) h (N h) := ⟨_, rfl⟩
  have hRB : RB G s.heap a f L u V := hLe ▸ hRW.1
  obtain ⟨hV, hX, hT, hE, hLi, hBa, hBk⟩ := id hRB
  obtain ⟨hT1, hT2, hT3, hT4⟩ := id hT
  obtain ⟨hL1, hL2, hL3, hL4, hL5, hL6⟩ := id hLi
  have hn := hV.n
  have hnl := hV.l
  have hLl : ∀ h, 0 ≤ h → h < V 0 0 → ((L h).length : Int) = V 6 h := fun h z1 z2 => by rw [hLe]; exact (congrArg Int.ofNat (mkL_len _ _ _ _)).trans (hN h z1 z2).1
  have hMe : ∀ h, 0 ≤ h → h < V 0 0 → ∀ e ∈ L h, eAd e ≠ f 1 h ∧ eAd e ≠ f 2 h := fun h z1 z2 e he => by
    rw [hLe] at he
    obtain ⟨j, hj, rfl⟩ := mkL_mem he
    have w := (hN h z1 z2).2.1 j hj
    exact ⟨fun z => absurd (hRW.2.2.2 19 _ 11 h (dE z1 z2 w.1 w.2) (dH 11 (by omega) (by omega) z1 z2) z).1 (by omega), fun z => absurd (hRW.2.2.2 19 _ 12 h (dE z1 z2 w.1 w.2) (dH 12 (by omega) (by omega) z1 z2) z).1 (by omega)⟩
  have hM12 : ∀ h, 0 ≤ h → h < V 0 0 → f 1 h ≠ f 2 h := fun h z1 z2 z => absurd (hRW.2.2.2 11 h 12 h (dH 11 (by omega) (by omega) z1 z2) (dH 12 (by omega) (by omega) z1 z2) z).1 (by omega)
  have hlt_0 := (hX).lt
  have hlt_1 := (hT2).lt
  have hlt_2 := (hT3).lt
  have hlt_3 := (hL2).lt
  have hlt_4 := (hL3).lt
  have hlt_5 := (hBa).lt
  refine lv_aload_n hx hb dX8_pay_0 rfl (lv_at hl 0 rfl) ?_
  refine lv_iload_n hx hb dX8_pay_1 rfl (lv_at hl 2 rfl) ?_
  refine k_V (ci := 8) (b := a 0) (As := [.int (J y)]) (rest := []) (v := va_rf (qN 10 (f 6) y)) hx hb hml hown hts hK hl.1 (c_X8_bookOf l G a f L u V y (by omega)) (cwV 1 hts gX8_pay_X8_bookOf rfl rfl rfl (by decide +kernel) ⟨Nat.le_of_ble_eq_true rfl, Nat.le_of_ble_eq_true rfl⟩) hX rfl hRB rfl rfl (Nat.le_of_ble_eq_true rfl) dX8_pay_2 ⟨Nat.zero_le _, Nat.zero_le _⟩ ?_
  by_cases sp2 : 0 ≤ y ∧ y < 10
  · refine j_qs (b := f 6 y) (qN_s sp2) ?_
    have hbk := hBk y sp2.1 sp2.2
    have hyr := hV.y sp2.1 sp2.2
    refine lv_astore (lv' := [(4, .ref (f 6 y)), (0, .ref (a 0)), (1, .int (J h)), (2, .int (J y)), (3, .int (J m_))]) hx hb dX8_pay_5 hl (by decide) rfl (fun ls hl => ?_)
    refine lv_aload_n hx hb dX8_pay_7 rfl (lv_at hl 1 rfl) ?_
    refine j_get (ci := 8) (v := .ref (a 1)) hx hb hts inX8_ hown hK hX rfl 0 (by decide) lk0 (fun _ h9 => h9) rfl dX8_pay_8 ?_
    refine lv_iload_n hx hb dX8_pay_11 rfl (lv_at hl 2 rfl) ?_
    refine k_V (ci := 5) (b := a 1) (As := [.int (J h)]) (rest := []) (v := va_rf (qN (V 0 0) (f 0) h)) hx hb hml hown hts hK hl.1 (c_X5_at l G (a 1) (a 2) (f 0) (f 1) V h (by omega)) (cwV 1 hts gX8_pay_X5_at rfl rfl rfl (by decide +kernel) ⟨Nat.le_of_ble_eq_true rfl, Nat.le_of_ble_eq_true rfl⟩) hT2 rfl hT rfl rfl (Nat.le_of_ble_eq_true rfl) dX8_pay_12 ⟨Nat.zero_le _, Nat.zero_le _⟩ ?_
    by_cases sp12 : 0 ≤ h ∧ h < V 0 0
    · refine j_qs (b := f 0 h) (qN_s sp12) ?_
      have hce_1 : At G s.heap (f 0 h) (eHo V (f 1) h) := hT4 h sp12.1 sp12.2
      have hih_2 := hT1.h sp12.1 sp12.2
      refine lv_ifnull hx hb dX8_pay_15 ?_
      refine lv_aload hx hb dX8_pay_18 (lv_at hl 0 rfl) ?_
      refine lv_ifnull hx hb dX8_pay_20 ?_
      refine lv_iload_n hx hb dX8_pay_23 rfl (lv_at hl 4 rfl) ?_
      refine j_const hx hb dX8_pay_24 ?_
      refine j_ldc hx hb hown lk1 (z := 10000000) rfl dX8_pay_25 ?_
      refine k_S (As := [.int (J m_), .int (J 1), .int (J 10000000)]) (rest := []) (v := .int (J (pI (1 ≤ m_ ∧ m_ ≤ 10000000)))) hx hb hml hown hts hK hl.1 (c_X8_isWithin l G m_ 1 10000000 (by omega) (by omega) (by omega)) (va_cwS 3 hts gX8_pay_X8_isWithin rfl rfl rfl (by decide +kernel) ⟨Nat.le_of_ble_eq_true rfl, Nat.le_of_ble_eq_true rfl⟩) trivial rfl rfl (Nat.le_of_ble_eq_true rfl) dX8_pay_27 ⟨Nat.zero_le _, Nat.zero_le _⟩ ?_
      refine j_neP (tgt := 35) hx hb dX8_pay_30 (by decide) (fun c30 => ?_) (fun c30 => ?_)
      · refine lv_aload hx hb dX8_pay_35 (lv_at hl 0 rfl) ?_
        refine lv_iload_n hx hb dX8_pay_37 rfl (lv_at hl 2 rfl) ?_
        have ce_3 : At G s.heap (f 6 y) (eO 7 [.ref (f 7 y), .ref (f 8 y), .int (J (V 13 y)), .int (J (V 15 y)), .int (J (V 14 y))]) := (hBk y (by omega) (by omega)).2.1
        refine k_V (ci := 7) (b := f 6 y) (As := [.int (J h)]) (rest := []) (v := .int (J (pdF V y h))) hx hb hml hown hts hK hl.1 (c_X7_paidBy l G (f 6) (f 7) (f 8) V y h (by omega)) (cwV 1 hts gX8_pay_X7_paidBy rfl rfl rfl (by decide +kernel) ⟨Nat.le_of_ble_eq_true rfl, Nat.le_of_ble_eq_true rfl⟩) ce_3 rfl hbk rfl rfl (Nat.le_of_ble_eq_true rfl) dX8_pay_38 ⟨Nat.zero_le _, Nat.zero_le _⟩ ?_
        refine lv_iload_n hx hb dX8_pay_41 rfl (lv_at hl 4 rfl) ?_
        refine j_add hx hb dX8_pay_42 ?_
        have hpe : pdF V y h = V 17 (10 * h + y) := rfl
        have hbb := hV.b (i := h) (y := y) (by omega) (by omega) (by omega) (by omega)
        refine lv_istore (lv' := [(5, .int (J ((pdF V y h) + m_))), (4, .ref (f 6 y)), (0, .ref (a 0)), (1, .int (J h)), (2, .int (J y)), (3, .int (J m_))]) hx hb dX8_pay_43 hl (by decide) rfl (fun ls hl => ?_)
        refine lv_iload hx hb dX8_pay_45 (lv_at hl 0 rfl) ?_
        refine j_ldc hx hb hown lk1 (z := 10000000) rfl dX8_pay_47 ?_
        refine j_cle (tgt := 55) hx hb (by omega) (by omega) (by decide) (by decide) dX8_pay_49 (by decide) (fun c49 => ?_) (fun c49 => ?_)
        · refine lv_aload hx hb dX8_pay_55 (lv_at hl 1 rfl) ?_
          refine lv_iload_n hx hb dX8_pay_57 rfl (lv_at hl 3 rfl) ?_
          refine lv_iload hx hb dX8_pay_58 (lv_at hl 0 rfl) ?_
          refine e_V (A := A) (ci := 7) (b := f 6 y) (As := [.int (J h), .int (J ((pdF V y h) + m_))]) (rest := []) hx hb hml hown hts hK hl.1 (c_X7_putPaid l G (f 6 y) (f 7 y) (f 8 y) (V 13 y) (V 15 y) (V 14 y) (blF V y) (pdF V y) h ((pdF V y h) + m_) sz (by omega) (⟨fun z => absurd (hRW.2.2.2 17 y 16 y (dB 17 (by omega) (by omega) (by omega) (by omega)) (dB 16 (by omega) (by omega) (by omega) (by omega)) z).1 (by omega), fun z => absurd (hRW.2.2.2 18 y 16 y (dB 18 (by omega) (by omega) (by omega) (by omega)) (dB 16 (by omega) (by omega) (by omega) (by omega)) z).1 (by omega), fun z => absurd (hRW.2.2.2 17 y 18 y (dB 17 (by omega) (by omega) (by omega) (by omega)) (dB 18 (by omega) (by omega) (by omega) (by omega)) z).1 (by omega)⟩)) (cwV 2 hts gX8_pay_X7_putPaid rfl rfl rfl (by decide +kernel) ⟨Nat.le_of_ble_eq_true rfl, Nat.le_of_ble_eq_true rfl⟩) ce_3 rfl (⟨by have z1 := hF0.1; omega, ⟨hbk.2.1, hbk.2.2.1, hbk.2.2.2⟩⟩) rfl rfl (Nat.le_of_ble_eq_true rfl) dX8_pay_60 ⟨Nat.le_of_ble_eq_true rfl, Nat.le_of_ble_eq_true rfl⟩ hL0 (fun x hx => hx.elim (fun z => by rw [z]; exact (hA 18 y (dB 18 (by omega) (by omega) (by omega) (by omega)))) (fun z => hAn x (by omega))) (fun H_4 lo_5 hp_6 hL_7 => ?_)
          show W p l e (headSpec wsX8_pay rmX8_pay).room s m ([.ref (a 0), .int (J h), .int (J y), .int (J m_)] : List Value).toArray below meth c H_4 lo_5 (0 + 0) (0 + 0) (MQ below (QE (some (.int (J (if (0 ≤ h ∧ h < V 0 0) ∧ (0 ≤ y ∧ y < 10) ∧ 1 ≤ m_ ∧ m_ ≤ 10000000 then (if V 17 (10 * h + y) + m_ ≤ 10000000 then V 17 (10 * h + y) + m_ else -3) else -1))) : Option Value) (fun H H1 => WX G A a (if ((0 ≤ h ∧ h < V 0 0) ∧ (0 ≤ y ∧ y < 10) ∧ 1 ≤ m_ ∧ m_ ≤ 10000000) ∧ V 17 (10 * h + y) + m_ ≤ 10000000 then sPa V h y m_ else V) H H1)) ([.ref (a 0), .int (J h), .int (J y), .int (J m_)] : List Value).toArray s 0 0 A) (F0 m 63 ls [])
          have hf_9 : Fr s.heap H_4 (fun x => x = (f 8 y)) 0 := hp_6.1
          have hF_8 : Fr s.heap H_4 A 0 := hF0.f hf_9 (fun x hx z => by rw [z] at hx ⊢; exact (fun _ => (hA 18 y (dB 18 (by omega) (by omega) (by omega) (by omega)))) hx)
          refine lv_iload hx hb dX8_pay_63 (lv_at hl 0 rfl) ?_
          exact r_iE hx hb hr hlk (Nat.le_of_ble_eq_true rfl) (Nat.le_of_ble_eq_true rfl) (congrArg (fun z => some (Value.int (J z))) (show ((pdF V y h) + m_ : Int) = if (0 ≤ h ∧ h < V 0 0) ∧ (0 ≤ y ∧ y < 10) ∧ 1 ≤ m_ ∧ m_ ≤ 10000000 then (if V 17 (10 * h + y) + m_ ≤ 10000000 then V 17 (10 * h + y) + m_ else -3) else -1 from by rw [if_pos (by omega), if_pos (by omega)]; rfl)) hL_7 (WX.eq (WX.of hF_8 (hRW.pay (hh := h) (y := y) (s := m_) (by omega) (by omega) (by omega) (by omega) (by omega) (by omega) hp_6.1 hp_6.2) hA) (if_pos (by omega))) dX8_pay_65
        · refine j_bi hx hb dX8_pay_52 (by decide +kernel) ?_
          exact r_iE hx hb hr hlk (Nat.le_of_ble_eq_true rfl) (Nat.le_of_ble_eq_true rfl) (congrArg (fun z => some (Value.int (J z))) (show ((-3) : Int) = if (0 ≤ h ∧ h < V 0 0) ∧ (0 ≤ y ∧ y < 10) ∧ 1 ≤ m_ ∧ m_ ≤ 10000000 then (if V 17 (10 * h + y) + m_ ≤ 10000000 then V 17 (10 * h + y) + m_ else -3) else -1 from by rw [if_pos (by omega), if_neg (by omega)])) hL0 (WX.eq (WX.of hF0 hRW hA) (if_neg (by omega))) dX8_pay_54
      · refine j_const hx hb dX8_pay_33 ?_
        exact r_iE hx hb hr hlk (Nat.le_of_ble_eq_true rfl) (Nat.le_of_ble_eq_true rfl) (congrArg (fun z => some (Value.int (J z))) (show ((-1) : Int) = if (0 ≤ h ∧ h < V 0 0) ∧ (0 ≤ y ∧ y < 10) ∧ 1 ≤ m_ ∧ m_ ≤ 10000000 then (if V 17 (10 * h + y) + m_ ≤ 10000000 then V 17 (10 * h + y) + m_ else -3) else -1 from (if_neg (by omega)).symm)) hL0 (WX.eq (WX.of hF0 hRW hA) (if_neg (by omega))) dX8_pay_34
    · refine j_qn (qN_n sp12) ?_
      refine lv_ifnullN (tgt := 33) hx hb dX8_pay_15 (by decide) ?_
      refine j_const hx hb dX8_pay_33 ?_
      exact r_iE hx hb hr hlk (Nat.le_of_ble_eq_true rfl) (Nat.le_of_ble_eq_true rfl) (congrArg (fun z => some (Value.int (J z))) (show ((-1) : Int) = if (0 ≤ h ∧ h < V 0 0) ∧ (0 ≤ y ∧ y < 10) ∧ 1 ≤ m_ ∧ m_ ≤ 10000000 then (if V 17 (10 * h + y) + m_ ≤ 10000000 then V 17 (10 * h + y) + m_ else -3) else -1 from (if_neg (by omega)).symm)) hL0 (WX.eq (WX.of hF0 hRW hA) (if_neg (by omega))) dX8_pay_34
  · refine j_qn (qN_n sp2) ?_
    refine lv_astoreN (lv' := [(4, .null), (0, .ref (a 0)), (1, .int (J h)), (2, .int (J y)), (3, .int (J m_))]) hx hb dX8_pay_5 hl (by decide) rfl (fun ls hl => ?_)
    refine lv_aload_n hx hb dX8_pay_7 rfl (lv_at hl 1 rfl) ?_
    refine j_get (ci := 8) (v := .ref (a 1)) hx hb hts inX8_ hown hK hX rfl 0 (by decide) lk0 (fun _ h9 => h9) rfl dX8_pay_8 ?_
    refine lv_iload_n hx hb dX8_pay_11 rfl (lv_at hl 2 rfl) ?_
    refine k_V (ci := 5) (b := a 1) (As := [.int (J h)]) (rest := []) (v := va_rf (qN (V 0 0) (f 0) h)) hx hb hml hown hts hK hl.1 (c_X5_at l G (a 1) (a 2) (f 0) (f 1) V h (by omega)) (cwV 1 hts gX8_pay_X5_at rfl rfl rfl (by decide +kernel) ⟨Nat.le_of_ble_eq_true rfl, Nat.le_of_ble_eq_true rfl⟩) hT2 rfl hT rfl rfl (Nat.le_of_ble_eq_true rfl) dX8_pay_12 ⟨Nat.zero_le _, Nat.zero_le _⟩ ?_
    by_cases sp12 : 0 ≤ h ∧ h < V 0 0
    · refine j_qs (b := f 0 h) (qN_s sp12) ?_
      have hce_10 : At G s.heap (f 0 h) (eHo V (f 1) h) := hT4 h sp12.1 sp12.2
      have hih_11 := hT1.h sp12.1 sp12.2
      refine lv_ifnull hx hb dX8_pay_15 ?_
      refine lv_aloadN hx hb dX8_pay_18 (lv_at hl 0 rfl) ?_
      refine lv_ifnullN (tgt := 33) hx hb dX8_pay_20 (by decide) ?_
      refine j_const hx hb dX8_pay_33 ?_
      exact r_iE hx hb hr hlk (Nat.le_of_ble_eq_true rfl) (Nat.le_of_ble_eq_true rfl) (congrArg (fun z => some (Value.int (J z))) (show ((-1) : Int) = if (0 ≤ h ∧ h < V 0 0) ∧ (0 ≤ y ∧ y < 10) ∧ 1 ≤ m_ ∧ m_ ≤ 10000000 then (if V 17 (10 * h + y) + m_ ≤ 10000000 then V 17 (10 * h + y) + m_ else -3) else -1 from (if_neg (by omega)).symm)) hL0 (WX.eq (WX.of hF0 hRW hA) (if_neg (by omega))) dX8_pay_34
    · refine j_qn (qN_n sp12) ?_
      refine lv_ifnullN (tgt := 33) hx hb dX8_pay_15 (by decide) ?_
      refine j_const hx hb dX8_pay_33 ?_
      exact r_iE hx hb hr hlk (Nat.le_of_ble_eq_true rfl) (Nat.le_of_ble_eq_true rfl) (congrArg (fun z => some (Value.int (J z))) (show ((-1) : Int) = if (0 ≤ h ∧ h < V 0 0) ∧ (0 ≤ y ∧ y < 10) ∧ 1 ≤ m_ ∧ m_ ≤ 10000000 then (if V 17 (10 * h + y) + m_ ≤ 10000000 then V 17 (10 * h + y) + m_ else -3) else -1 from (if_neg (by omega)).symm)) hL0 (WX.eq (WX.of hF0 hRW hA) (if_neg (by omega))) dX8_pay_34

abbrev rmX8_struck : Room := { frames := 6, cells := 0, slots := 0, locals := 146 }
set_option maxHeartbeats 4000000 in
set_option maxRecDepth 100000 in
theorem c_X8_struck (l : Launch) (G : GG) (A : Nat → Prop) (a : Nat → Nat) (f : Nat → Int → Nat) (N : Int → List Int) (u : Nat → Int → Int) (ys : Int → Int) (V : St) (y nd : Int) (sz : Nat) (hA : ∀ t i, dom V t i → A (adr a f t i)) (hAn : ∀ x, sz ≤ x → A x) (hq : 0 ≤ y → y < 10 → ∀ h, 0 ≤ h → h < V 0 0 → yrO V (mkL V (f 9) h (N h)) h y = mYr V h y) (g_y : -2147483648 ≤ y ∧ y < 2147483648) (g_nd : -2147483648 ≤ nd ∧ nd < 2147483648) : ME l G yX8_struck wsX8_struck rmX8_struck [.ref (a 0), .int (J y), .int (J nd)] (fun H => H.size = sz ∧ (RW G H a f N u ys V)) (some (.int (J (if (0 ≤ y ∧ y < 10) ∧ 0 ≤ nd ∧ nd ≤ 100000000 then (if mLp V y nd = -4 then -2 else mLp V y nd) else -1))) : Option Value) A (fun H H1 => WX G A a (if ((0 ≤ y ∧ y < 10) ∧ 0 ≤ nd ∧ nd ≤ 100000000) ∧ mLp V y nd ≠ -4 then sSt V y nd else V) H H1) 0 0 := by
  refine ME.of (cc := cX8_struck) (maxL := 6) (ret := (some .int)) (by decide) rfl (Nat.le_of_ble_eq_true rfl) ?_
  intro p e s m below meth c hx hb hr hml hown hts hlk hin hK hP ls hl
  have hL0 : ∀ z9 ∈ ([] : List Loc), A z9.base := fun z9 h => absurd h List.not_mem_nil
  have hown : s.vm.findClass RX8 = some m.cls := hown
  have hl : lv_has ls 6 [(0, .ref (a 0)), (1, .int (J y)), (2, .int (J nd))] := hl
  have inX5_ : ∀ w ∈ u_ws RX5 TX5 2, w ∈ wsX8_struck := by decide +kernel
  have inX7_ : ∀ w ∈ u_ws RX7 TX7 5, w ∈ wsX8_struck := by decide +kernel
  have inX8_ : ∀ w ∈ u_ws RX8 TX8 4, w ∈ wsX8_struck := by decide +kernel
  have lk0 := hts (.constant RX8 158 100000000) (by decide +kernel)
  have lk1 := hts (.fieldLink RX8 170 "RateBook$YearBook" "isStruck" "Z") (by decide +kernel)
  have lk2 := hts (.fieldLink RX8 174 "RateBook$YearBook" "needs" "I") (by decide +kernel)
  have lk3 := hts (.fieldLink RX8 177 "RateBook$YearBook" "thousandths" "I") (by decide +kernel)
  have lk4 := hts (.fieldLink RX8 12 "RateBook" "town" "LRateBook$Town;") (by decide +kernel)
  have lk5 := hts (.fieldLink RX8 23 "RateBook" "yearSums" "[J") (by decide +kernel)
  obtain ⟨hsz, hP⟩ := hP
  have hF0 : Fr s.heap s.heap A 0 := Fr.rf
  have hRW : RW G s.heap a f N u ys V := hP
  have hN := hRW.2.2.1
  obtain ⟨L, hLe⟩ : ∃ L : Int → List EvT, L = fun h => mkL V (f 9) h (N h) := ⟨_, rfl⟩
  have hRB : RB G s.heap a f L u V := hLe ▸ hRW.1
  obtain ⟨hV, hX, hT, hE, hLi, hBa, hBk⟩ := id hRB
  obtain ⟨hT1, hT2, hT3, hT4⟩ := id hT
  obtain ⟨hL1, hL2, hL3, hL4, hL5, hL6⟩ := id hLi
  have hn := hV.n
  have hnl := hV.l
  have hLl : ∀ h, 0 ≤ h → h < V 0 0 → ((L h).length : Int) = V 6 h := fun h z1 z2 => by rw [hLe]; exact (congrArg Int.ofNat (mkL_len _ _ _ _)).trans (hN h z1 z2).1
  have hMe : ∀ h, 0 ≤ h → h < V 0 0 → ∀ e ∈ L h, eAd e ≠ f 1 h ∧ eAd e ≠ f 2 h := fun h z1 z2 e he => by
    rw [hLe] at he
    obtain ⟨j, hj, rfl⟩ := mkL_mem he
    have w := (hN h z1 z2).2.1 j hj
    exact ⟨fun z => absurd (hRW.2.2.2 19 _ 11 h (dE z1 z2 w.1 w.2) (dH 11 (by omega) (by omega) z1 z2) z).1 (by omega), fun z => absurd (hRW.2.2.2 19 _ 12 h (dE z1 z2 w.1 w.2) (dH 12 (by omega) (by omega) z1 z2) z).1 (by omega)⟩
  have hM12 : ∀ h, 0 ≤ h → h < V 0 0 → f 1 h ≠ f 2 h := fun h z1 z2 z => absurd (hRW.2.2.2 11 h 12 h (dH 11 (by omega) (by omega) z1 z2) (dH 12 (by omega) (by omega) z1 z2) z).1 (by omega)
  have hlt_0 := (hX).lt
  have hlt_1 := (hT2).lt
  have hlt_2 := (hT3).lt
  have hlt_3 := (hL2).lt
  have hlt_4 := (hL3).lt
  have hlt_5 := (hBa).lt
  refine lv_aload_n hx hb dX8_struck_0 rfl (lv_at hl 0 rfl) ?_
  refine lv_iload_n hx hb dX8_struck_1 rfl (lv_at hl 1 rfl) ?_
  refine k_V (ci := 8) (b := a 0) (As := [.int (J y)]) (rest := []) (v := va_rf (qN 10 (f 6) y)) hx hb hml hown hts hK hl.1 (c_X8_bookOf l G a f L u V y (by omega)) (cwV 1 hts gX8_struck_X8_bookOf rfl rfl rfl (by decide +kernel) ⟨Nat.le_of_ble_eq_true rfl, Nat.le_of_ble_eq_true rfl⟩) hX rfl hRB rfl rfl (Nat.le_of_ble_eq_true rfl) dX8_struck_2 ⟨Nat.zero_le _, Nat.zero_le _⟩ ?_
  by_cases sp2 : 0 ≤ y ∧ y < 10
  · refine j_qs (b := f 6 y) (qN_s sp2) ?_
    have hbk := hBk y sp2.1 sp2.2
    have hyr := hV.y sp2.1 sp2.2
    refine lv_astore_n (lv' := [(3, .ref (f 6 y)), (0, .ref (a 0)), (1, .int (J y)), (2, .int (J nd))]) hx hb dX8_struck_5 rfl hl (by decide) rfl (fun ls hl => ?_)
    refine lv_aload_n hx hb dX8_struck_6 rfl (lv_at hl 0 rfl) ?_
    refine lv_ifnull hx hb dX8_struck_7 ?_
    refine lv_iload_n hx hb dX8_struck_10 rfl (lv_at hl 3 rfl) ?_
    refine j_const hx hb dX8_struck_11 ?_
    refine j_ldc hx hb hown lk0 (z := 100000000) rfl dX8_struck_12 ?_
    refine k_S (As := [.int (J nd), .int (J 0), .int (J 100000000)]) (rest := []) (v := .int (J (pI (0 ≤ nd ∧ nd ≤ 100000000)))) hx hb hml hown hts hK hl.1 (c_X8_isWithin l G nd 0 100000000 (by omega) (by omega) (by omega)) (va_cwS 3 hts gX8_struck_X8_isWithin rfl rfl rfl (by decide +kernel) ⟨Nat.le_of_ble_eq_true rfl, Nat.le_of_ble_eq_true rfl⟩) trivial rfl rfl (Nat.le_of_ble_eq_true rfl) dX8_struck_14 ⟨Nat.zero_le _, Nat.zero_le _⟩ ?_
    refine j_neP (tgt := 22) hx hb dX8_struck_17 (by decide) (fun c17 => ?_) (fun c17 => ?_)
    · refine lv_aload_n hx hb dX8_struck_22 rfl (lv_at hl 1 rfl) ?_
      refine lv_iload_n hx hb dX8_struck_23 rfl (lv_at hl 2 rfl) ?_
      refine e_V (A := A) (ci := 8) (b := a 0) (As := [.int (J y)]) (rest := []) hx hb hml hown hts hK hl.1 (c_X8_readYearSums l G a f N u ys V y sz (by omega)) (cwV 1 hts gX8_struck_X8_readYearSums rfl rfl rfl (by decide +kernel) ⟨Nat.le_of_ble_eq_true rfl, Nat.le_of_ble_eq_true rfl⟩) hX rfl (⟨by have z1 := hF0.1; omega, hRW⟩) rfl rfl (Nat.le_of_ble_eq_true rfl) dX8_struck_24 ⟨Nat.le_of_ble_eq_true rfl, Nat.le_of_ble_eq_true rfl⟩ hL0 (fun x hx => hx.elim (fun z => by rw [z]; exact (hA 6 0 (dA 6 (by omega)))) (fun z => hAn x (by omega))) (fun H_1 lo_2 hp_3 hL_4 => ?_)
      show W p l e (headSpec wsX8_struck rmX8_struck).room s m ([.ref (a 0), .int (J y), .int (J nd)] : List Value).toArray below meth c H_1 lo_2 (0 + 0) (0 + 0) (MQ below (QE (some (.int (J (if (0 ≤ y ∧ y < 10) ∧ 0 ≤ nd ∧ nd ≤ 100000000 then (if mLp V y nd = -4 then -2 else mLp V y nd) else -1))) : Option Value) (fun H H1 => WX G A a (if ((0 ≤ y ∧ y < 10) ∧ 0 ≤ nd ∧ nd ≤ 100000000) ∧ mLp V y nd ≠ -4 then sSt V y nd else V) H H1)) ([.ref (a 0), .int (J y), .int (J nd)] : List Value).toArray s 0 0 A) (F0 m 27 ls [])
      have hf_6 : Fr s.heap H_1 (fun x => x = (a 6)) 0 := hp_3.1
      have hF_5 : Fr s.heap H_1 A 0 := hF0.f hf_6 (fun x hx z => by rw [z] at hx ⊢; exact (fun _ => (hA 6 0 (dA 6 (by omega)))) hx)
      have hRWy : RW G H_1 a f N u (yS V (f 9) N y) V := hp_3.2
      have hRB : RB G H_1 a f L u V := hLe ▸ hRWy.1
      obtain ⟨-, hX, hT, hE, hLi, hBa, hBk⟩ := id hRB
      obtain ⟨-, hT2, hT3, hT4⟩ := id hT
      obtain ⟨-, hL2, hL3, hL4, hL5, hL6⟩ := id hLi
      have hysr : ∀ i, 0 ≤ i → i < 40 → 0 ≤ yS V (f 9) N y i ∧ yS V (f 9) N y i ≤ 20000000000 := fun i z1 z2 => by
          unfold yS
          by_cases z3 : i < V 0 0
          · rw [if_pos z3]; exact yrO_rng hV (fun e he => (hE i z1 z3).2.2.2.2 e (by rw [hLe]; exact he)) z1 z3
          · rw [if_neg z3]; omega
      have hFy : Fr H_1 H_1 (fun z => z = f 6 y ∨ z = f 7 y) 0 := Fr.rf
      refine lv_aload_n hx hb dX8_struck_27 rfl (lv_at hl 1 rfl) ?_
      refine lv_iload_n hx hb dX8_struck_28 rfl (lv_at hl 3 rfl) ?_
      refine k_V (ci := 8) (b := a 0) (As := [.int (J nd)]) (rest := []) (v := .int (J (lpO (yS V (f 9) N y) nd))) hx hb hml hown hts hK hl.1 (c_X8_leastPoundage l G a (yS V (f 9) N y) nd hysr (by omega)) (cwV 1 hts gX8_struck_X8_leastPoundage rfl rfl rfl (by decide +kernel) ⟨Nat.le_of_ble_eq_true rfl, Nat.le_of_ble_eq_true rfl⟩) hX rfl (⟨hX, hRWy.2.1⟩) rfl rfl (Nat.le_of_ble_eq_true rfl) dX8_struck_29 ⟨Nat.zero_le _, Nat.zero_le _⟩ ?_
      refine lv_istore (lv' := [(4, .int (J (lpO (yS V (f 9) N y) nd))), (3, .ref (f 6 y)), (0, .ref (a 0)), (1, .int (J y)), (2, .int (J nd))]) hx hb dX8_struck_32 hl (by decide) rfl (fun ls hl => ?_)
      refine lv_iload hx hb dX8_struck_34 (lv_at hl 0 rfl) ?_
      refine j_bi hx hb dX8_struck_36 (by decide +kernel) ?_
      have hlpo := lpO_spec (yS V (f 9) N y) nd
      refine j_cne (tgt := 44) hx hb (by omega) (by omega) (by decide) (by decide) dX8_struck_38 (by decide) (fun c38 => ?_) (fun c38 => ?_)
      · refine lv_aload_n hx hb dX8_struck_44 rfl (lv_at hl 1 rfl) ?_
        refine j_const hx hb dX8_struck_45 ?_
        have ce_7 : At G H_1 (f 6 y) (eO 7 [.ref (f 7 y), .ref (f 8 y), .int (J (V 13 y)), .int (J (V 15 y)), .int (J (V 14 y))]) := (hBk y (by omega) (by omega)).2.1
        refine j_put (ci := 7) (A := A) (ty := .boolean) hx hb hts inX7_ tyX7 tyX7_ok nmX7 hown hK ce_7 rfl 2 (by decide) lk1 (fun _ h9 => h9) rfl (by decide +kernel) (by decide) rfl (Nat.le_of_ble_eq_true rfl) hL_4 (hA 16 y (dB 16 (by omega) (by omega) (by omega) (by omega))) dX8_struck_46 (fun H_8 lo_9 hc_10 hx_11 hL_12 => ?_)
        have hc_10 : At G H_8 (f 6 y) (eO 7 [.ref (f 7 y), .ref (f 8 y), .int (J 1), .int (J (V 15 y)), .int (J (V 14 y))]) := hc_10
        have ce_13 : At G H_8 (a 0) (eO 8 [.ref (a 1), .ref (a 3), .ref (a 5), .ref (a 6)]) := hX.x hx_11 (fun z => absurd (hRW.2.2.2 0 0 16 y (dA 0 (by omega)) (dB 16 (by omega) (by omega) (by omega) (by omega)) z).1 (by omega))
        have ce_14 : At G H_8 (a 1) (eO 5 [.ref (a 2), .int (J (V 0 0))]) := hT2.x hx_11 (fun z => absurd (hRW.2.2.2 1 0 16 y (dA 1 (by omega)) (dB 16 (by omega) (by omega) (by omega) (by omega)) z).1 (by omega))
        have ce_15 : At G H_8 (a 2) (eQ G 4 40 (qN (V 0 0) (f 0))) := hT3.x hx_11 (fun z => absurd (hRW.2.2.2 2 0 16 y (dA 2 (by omega)) (dB 16 (by omega) (by omega) (by omega) (by omega)) z).1 (by omega))
        have ce_16 : At G H_8 (a 3) (eO 3 [.ref (a 4), .int (J (V 0 1))]) := hL2.x hx_11 (fun z => absurd (hRW.2.2.2 3 0 16 y (dA 3 (by omega)) (dB 16 (by omega) (by omega) (by omega) (by omega)) z).1 (by omega))
        have ce_17 : At G H_8 (a 4) (eQ G 5 10 (qN (V 0 1) (f 3))) := hL3.x hx_11 (fun z => absurd (hRW.2.2.2 4 0 16 y (dA 4 (by omega)) (dB 16 (by omega) (by omega) (by omega) (by omega)) z).1 (by omega))
        have ce_18 : At G H_8 (a 5) (eQ G 7 10 (fun y => some (f 6 y))) := hBa.x hx_11 (fun z => absurd (hRW.2.2.2 5 0 16 y (dA 5 (by omega)) (dB 16 (by omega) (by omega) (by omega) (by omega)) z).1 (by omega))
        have ce_19 : At G H_8 (a 6) (eL G 40 (yS V (f 9) N y)) := hRWy.2.1.x hx_11 (fun z => absurd (hRW.2.2.2 6 0 16 y (dA 6 (by omega)) (dB 16 (by omega) (by omega) (by omega) (by omega)) z).1 (by omega))
        have hG_20 : Fr H_1 H_8 (fun z => z = f 6 y ∨ z = f 7 y) 0 := hFy.x hx_11 (fun _ => Or.inl rfl)
        have hr7_21 : At G H_8 (f 7 y) (eI G 40 (blF V y)) := (hBk y (by omega) (by omega)).2.2.1.x hx_11 (fun z => absurd (hRW.2.2.2 17 y 16 y (dB 17 (by omega) (by omega) (by omega) (by omega)) (dB 16 (by omega) (by omega) (by omega) (by omega)) z).1 (by omega))
        have hF_22 : Fr s.heap H_8 A 0 := hF_5.x hx_11 (fun _ => (hA 16 y (dB 16 (by omega) (by omega) (by omega) (by omega))))
        refine lv_aload_n hx hb dX8_struck_49 rfl (lv_at hl 1 rfl) ?_
        refine lv_iload_n hx hb dX8_struck_50 rfl (lv_at hl 4 rfl) ?_
        refine j_put (ci := 7) (A := A) (ty := .int) hx hb hts inX7_ tyX7 tyX7_ok nmX7 hown hK hc_10 rfl 3 (by decide) lk2 (fun _ h9 => h9) rfl (by decide +kernel) rfl rfl (Nat.le_of_ble_eq_true rfl) hL_12 (hA 16 y (dB 16 (by omega) (by omega) (by omega) (by omega))) dX8_struck_51 (fun H_23 lo_24 hc_25 hx_26 hL_27 => ?_)
        have hc_25 : At G H_23 (f 6 y) (eO 7 [.ref (f 7 y), .ref (f 8 y), .int (J 1), .int (J nd), .int (J (V 14 y))]) := hc_25
        have ce_28 : At G H_23 (a 0) (eO 8 [.ref (a 1), .ref (a 3), .ref (a 5), .ref (a 6)]) := ce_13.x hx_26 (fun z => absurd (hRW.2.2.2 0 0 16 y (dA 0 (by omega)) (dB 16 (by omega) (by omega) (by omega) (by omega)) z).1 (by omega))
        have ce_29 : At G H_23 (a 1) (eO 5 [.ref (a 2), .int (J (V 0 0))]) := ce_14.x hx_26 (fun z => absurd (hRW.2.2.2 1 0 16 y (dA 1 (by omega)) (dB 16 (by omega) (by omega) (by omega) (by omega)) z).1 (by omega))
        have ce_30 : At G H_23 (a 2) (eQ G 4 40 (qN (V 0 0) (f 0))) := ce_15.x hx_26 (fun z => absurd (hRW.2.2.2 2 0 16 y (dA 2 (by omega)) (dB 16 (by omega) (by omega) (by omega) (by omega)) z).1 (by omega))
        have ce_31 : At G H_23 (a 3) (eO 3 [.ref (a 4), .int (J (V 0 1))]) := ce_16.x hx_26 (fun z => absurd (hRW.2.2.2 3 0 16 y (dA 3 (by omega)) (dB 16 (by omega) (by omega) (by omega) (by omega)) z).1 (by omega))
        have ce_32 : At G H_23 (a 4) (eQ G 5 10 (qN (V 0 1) (f 3))) := ce_17.x hx_26 (fun z => absurd (hRW.2.2.2 4 0 16 y (dA 4 (by omega)) (dB 16 (by omega) (by omega) (by omega) (by omega)) z).1 (by omega))
        have ce_33 : At G H_23 (a 5) (eQ G 7 10 (fun y => some (f 6 y))) := ce_18.x hx_26 (fun z => absurd (hRW.2.2.2 5 0 16 y (dA 5 (by omega)) (dB 16 (by omega) (by omega) (by omega) (by omega)) z).1 (by omega))
        have ce_34 : At G H_23 (a 6) (eL G 40 (yS V (f 9) N y)) := ce_19.x hx_26 (fun z => absurd (hRW.2.2.2 6 0 16 y (dA 6 (by omega)) (dB 16 (by omega) (by omega) (by omega) (by omega)) z).1 (by omega))
        have hG_35 : Fr H_1 H_23 (fun z => z = f 6 y ∨ z = f 7 y) 0 := hG_20.x hx_26 (fun _ => Or.inl rfl)
        have hr7_36 : At G H_23 (f 7 y) (eI G 40 (blF V y)) := hr7_21.x hx_26 (fun z => absurd (hRW.2.2.2 17 y 16 y (dB 17 (by omega) (by omega) (by omega) (by omega)) (dB 16 (by omega) (by omega) (by omega) (by omega)) z).1 (by omega))
        have hF_37 : Fr s.heap H_23 A 0 := hF_22.x hx_26 (fun _ => (hA 16 y (dB 16 (by omega) (by omega) (by omega) (by omega))))
        refine lv_aload_n hx hb dX8_struck_54 rfl (lv_at hl 1 rfl) ?_
        refine lv_iload hx hb dX8_struck_55 (lv_at hl 0 rfl) ?_
        refine j_put (ci := 7) (A := A) (ty := .int) hx hb hts inX7_ tyX7 tyX7_ok nmX7 hown hK hc_25 rfl 4 (by decide) lk3 (fun _ h9 => h9) rfl (by decide +kernel) rfl rfl (Nat.le_of_ble_eq_true rfl) hL_27 (hA 16 y (dB 16 (by omega) (by omega) (by omega) (by omega))) dX8_struck_57 (fun H_38 lo_39 hc_40 hx_41 hL_42 => ?_)
        have hc_40 : At G H_38 (f 6 y) (eO 7 [.ref (f 7 y), .ref (f 8 y), .int (J 1), .int (J nd), .int (J (lpO (yS V (f 9) N y) nd))]) := hc_40
        have ce_43 : At G H_38 (a 0) (eO 8 [.ref (a 1), .ref (a 3), .ref (a 5), .ref (a 6)]) := ce_28.x hx_41 (fun z => absurd (hRW.2.2.2 0 0 16 y (dA 0 (by omega)) (dB 16 (by omega) (by omega) (by omega) (by omega)) z).1 (by omega))
        have ce_44 : At G H_38 (a 1) (eO 5 [.ref (a 2), .int (J (V 0 0))]) := ce_29.x hx_41 (fun z => absurd (hRW.2.2.2 1 0 16 y (dA 1 (by omega)) (dB 16 (by omega) (by omega) (by omega) (by omega)) z).1 (by omega))
        have ce_45 : At G H_38 (a 2) (eQ G 4 40 (qN (V 0 0) (f 0))) := ce_30.x hx_41 (fun z => absurd (hRW.2.2.2 2 0 16 y (dA 2 (by omega)) (dB 16 (by omega) (by omega) (by omega) (by omega)) z).1 (by omega))
        have ce_46 : At G H_38 (a 3) (eO 3 [.ref (a 4), .int (J (V 0 1))]) := ce_31.x hx_41 (fun z => absurd (hRW.2.2.2 3 0 16 y (dA 3 (by omega)) (dB 16 (by omega) (by omega) (by omega) (by omega)) z).1 (by omega))
        have ce_47 : At G H_38 (a 4) (eQ G 5 10 (qN (V 0 1) (f 3))) := ce_32.x hx_41 (fun z => absurd (hRW.2.2.2 4 0 16 y (dA 4 (by omega)) (dB 16 (by omega) (by omega) (by omega) (by omega)) z).1 (by omega))
        have ce_48 : At G H_38 (a 5) (eQ G 7 10 (fun y => some (f 6 y))) := ce_33.x hx_41 (fun z => absurd (hRW.2.2.2 5 0 16 y (dA 5 (by omega)) (dB 16 (by omega) (by omega) (by omega) (by omega)) z).1 (by omega))
        have ce_49 : At G H_38 (a 6) (eL G 40 (yS V (f 9) N y)) := ce_34.x hx_41 (fun z => absurd (hRW.2.2.2 6 0 16 y (dA 6 (by omega)) (dB 16 (by omega) (by omega) (by omega) (by omega)) z).1 (by omega))
        have hG_50 : Fr H_1 H_38 (fun z => z = f 6 y ∨ z = f 7 y) 0 := hG_35.x hx_41 (fun _ => Or.inl rfl)
        have hr7_51 : At G H_38 (f 7 y) (eI G 40 (blF V y)) := hr7_36.x hx_41 (fun z => absurd (hRW.2.2.2 17 y 16 y (dB 17 (by omega) (by omega) (by omega) (by omega)) (dB 16 (by omega) (by omega) (by omega) (by omega)) z).1 (by omega))
        have hF_52 : Fr s.heap H_38 A 0 := hF_37.x hx_41 (fun _ => (hA 16 y (dB 16 (by omega) (by omega) (by omega) (by omega))))
        refine j_const hx hb dX8_struck_60 ?_
        refine lv_istore (lv' := [(5, .int (J 0)), (4, .int (J (lpO (yS V (f 9) N y) nd))), (3, .ref (f 6 y)), (0, .ref (a 0)), (1, .int (J y)), (2, .int (J nd))]) hx hb dX8_struck_61 hl (by decide) rfl (fun ls hl => ?_)
        have hlpe := lp_eq hV nd (hq (by omega) (by omega))
        have hlpr := mLp_rng V y nd
        have hl7 : At G H_38 (f 7 y) (eI G 40 (blF V y)) := hr7_51
        have lp63 : ∀ (n : Nat) (i : Int) (H63 : Heap) (lo63 : List Loc) (hL63 : ∀ z9 ∈ lo63, A z9.base) (i0 : 0 ≤ i ∧ i ≤ V 0 0) (hFl : Fr s.heap H63 A 0) (hGl : Fr H_1 H63 (fun z => z = f 6 y ∨ z = f 7 y) 0) (lbk : At G H63 (f 6 y) (eO 7 [.ref (f 7 y), .ref (f 8 y), .int (J 1), .int (J nd), .int (J (mLp V y nd))])) (lbl : At G H63 (f 7 y) (eI G 40 (bI V (f 9) N y (mLp V y nd) i))) (hm : V 0 0 - i < (n : Int)) (ls : Array Slot) (hl : lv_has ls 6 [(5, .int (J i)), (4, .int (J (mLp V y nd))), (3, .ref (f 6 y)), (0, .ref (a 0)), (1, .int (J y)), (2, .int (J nd))]), W p l e (headSpec wsX8_struck rmX8_struck).room s m ([.ref (a 0), .int (J y), .int (J nd)] : List Value).toArray below meth c H63 lo63 0 0 (MQ below (QE (some (.int (J (if (0 ≤ y ∧ y < 10) ∧ 0 ≤ nd ∧ nd ≤ 100000000 then (if mLp V y nd = -4 then -2 else mLp V y nd) else -1))) : Option Value) (fun H H1 => WX G A a (if ((0 ≤ y ∧ y < 10) ∧ 0 ≤ nd ∧ nd ≤ 100000000) ∧ mLp V y nd ≠ -4 then sSt V y nd else V) H H1)) ([.ref (a 0), .int (J y), .int (J nd)] : List Value).toArray s 0 0 A) (F0 m 63 ls []) := by
          intro n
          induction n with
          | zero =>
            intro i H63 lo63 hL63 i0 hFl hGl lbk lbl hm ls hl
            exact absurd hm (by omega)
          | succ n ih63 =>
            intro i H63 lo63 hL63 i0 hFl hGl lbk lbl hm ls hl
            have hX3 := hX.f hGl (fun z => z.elim (fun z => absurd (hRW.2.2.2 0 0 16 y (dA 0 (by omega)) (dB 16 (by omega) (by omega) (by omega) (by omega)) z).1 (by omega)) (fun z => absurd (hRW.2.2.2 0 0 17 y (dA 0 (by omega)) (dB 17 (by omega) (by omega) (by omega) (by omega)) z).1 (by omega)))
            have hT3_ := hT2.f hGl (fun z => z.elim (fun z => absurd (hRW.2.2.2 1 0 16 y (dA 1 (by omega)) (dB 16 (by omega) (by omega) (by omega) (by omega)) z).1 (by omega)) (fun z => absurd (hRW.2.2.2 1 0 17 y (dA 1 (by omega)) (dB 17 (by omega) (by omega) (by omega) (by omega)) z).1 (by omega)))
            have hY3 := hRWy.2.1.f hGl (fun z => z.elim (fun z => absurd (hRW.2.2.2 6 0 16 y (dA 6 (by omega)) (dB 16 (by omega) (by omega) (by omega) (by omega)) z).1 (by omega)) (fun z => absurd (hRW.2.2.2 6 0 17 y (dA 6 (by omega)) (dB 17 (by omega) (by omega) (by omega) (by omega)) z).1 (by omega)))
            have hP3 := (hBk y (by omega) (by omega)).2.2.2.f hGl (fun z => z.elim (fun z => absurd (hRW.2.2.2 18 y 16 y (dB 18 (by omega) (by omega) (by omega) (by omega)) (dB 16 (by omega) (by omega) (by omega) (by omega)) z).1 (by omega)) (fun z => absurd (hRW.2.2.2 18 y 17 y (dB 18 (by omega) (by omega) (by omega) (by omega)) (dB 17 (by omega) (by omega) (by omega) (by omega)) z).1 (by omega)))
            refine lv_iload hx hb dX8_struck_63 (lv_at hl 0 rfl) ?_
            refine lv_aload_n hx hb dX8_struck_65 rfl (lv_at hl 3 rfl) ?_
            refine j_get (ci := 8) (v := .ref (a 1)) hx hb hts inX8_ hown hK hX3 rfl 0 (by decide) lk4 (fun _ h9 => h9) rfl dX8_struck_66 ?_
            refine j_getN (ci := 5) (v := .int (J (V 0 0))) hx hb hts inX5_ hown hK hT3_ rfl 1 (by decide) hK.2.1.2.1 (fun _ h9 => h9) rfl dX8_struck_69 ?_
            refine j_cge (tgt := 109) hx hb (by omega) (by omega) (by omega) (by omega) dX8_struck_72 (by decide) (fun c72 => ?_) (fun c72 => ?_)
            · refine lv_iload hx hb dX8_struck_109 (lv_at hl 1 rfl) ?_
              exact r_iE hx hb hr hlk (Nat.le_of_ble_eq_true rfl) (Nat.le_of_ble_eq_true rfl) (congrArg (fun z => some (Value.int (J z))) (show (mLp V y nd : Int) = if (0 ≤ y ∧ y < 10) ∧ 0 ≤ nd ∧ nd ≤ 100000000 then (if mLp V y nd = -4 then -2 else mLp V y nd) else -1 from by rw [if_pos (by omega), if_neg (by omega)])) hL63 (WX.eq (WX.of hFl (hRWy.st (y := y) (nd := nd) (by omega) (by omega) (by omega) hGl lbk (eI_congr (fun j h1 h2 => (congrArg (fun q => bI V (f 9) N y (mLp V y nd) q j) (show i = V 0 0 by omega)).trans (bl_eq hV (by omega) (hq (by omega) (by omega)) h1)) lbl)) (domSt hV hA)) (if_pos (by omega))) dX8_struck_111
            · refine lv_iload hx hb dX8_struck_75 (lv_at hl 0 rfl) ?_
              refine lv_aload_n hx hb dX8_struck_77 rfl (lv_at hl 3 rfl) ?_
              refine j_get (ci := 8) (v := .ref (a 6)) hx hb hts inX8_ hown hK hX3 rfl 3 (by decide) lk5 (fun _ h9 => h9) rfl dX8_struck_78 ?_
              refine j_alL hx hb hK hY3 dX8_struck_81 ?_
              refine j_re (y := 40) rfl ?_
              refine j_cge (tgt := 109) hx hb (by omega) (by omega) (by decide) (by decide) dX8_struck_82 (by decide) (fun c82 => ?_) (fun c82 => ?_)
              · refine lv_iload hx hb dX8_struck_109 (lv_at hl 1 rfl) ?_
                exact r_iE hx hb hr hlk (Nat.le_of_ble_eq_true rfl) (Nat.le_of_ble_eq_true rfl) (congrArg (fun z => some (Value.int (J z))) (show (mLp V y nd : Int) = if (0 ≤ y ∧ y < 10) ∧ 0 ≤ nd ∧ nd ≤ 100000000 then (if mLp V y nd = -4 then -2 else mLp V y nd) else -1 from by rw [if_pos (by omega), if_neg (by omega)])) hL63 (WX.eq (WX.of hFl (hRWy.st (y := y) (nd := nd) (by omega) (by omega) (by omega) hGl lbk (eI_congr (fun j h1 h2 => (congrArg (fun q => bI V (f 9) N y (mLp V y nd) q j) (show i = V 0 0 by omega)).trans (bl_eq hV (by omega) (hq (by omega) (by omega)) h1)) lbl)) (domSt hV hA)) (if_pos (by omega))) dX8_struck_111
              · refine lv_aload_n hx hb dX8_struck_85 rfl (lv_at hl 2 rfl) ?_
                refine lv_iload hx hb dX8_struck_86 (lv_at hl 0 rfl) ?_
                refine lv_aload_n hx hb dX8_struck_88 rfl (lv_at hl 3 rfl) ?_
                refine j_get (ci := 8) (v := .ref (a 6)) hx hb hts inX8_ hown hK hX3 rfl 3 (by decide) lk5 (fun _ h9 => h9) rfl dX8_struck_89 ?_
                refine lv_iload hx hb dX8_struck_92 (lv_at hl 0 rfl) ?_
                refine j_lald hx hb hK hY3 (by omega) (by omega) (by decide) dX8_struck_94 ?_
                refine lv_iload hx hb dX8_struck_95 (lv_at hl 1 rfl) ?_
                refine k_S (As := [.long (JL ((yS V (f 9) N y) i)), .int (J (mLp V y nd))]) (rest := [.int (J i), .ref (f 6 y)]) (v := .int (J (((yS V (f 9) N y) i) * (mLp V y nd) / 365000))) hx hb hml hown hts hK hl.1 (c_X8_billFor l G ((yS V (f 9) N y) i) (mLp V y nd) (hysr i (by omega) (by omega)) (by omega)) (va_cwS 2 hts gX8_struck_X8_billFor rfl rfl rfl (by decide +kernel) ⟨Nat.le_of_ble_eq_true rfl, Nat.le_of_ble_eq_true rfl⟩) trivial rfl rfl (Nat.le_of_ble_eq_true rfl) dX8_struck_97 ⟨Nat.zero_le _, Nat.zero_le _⟩ ?_
                refine e_V (A := A) (ci := 7) (b := f 6 y) (As := [.int (J i), .int (J (((yS V (f 9) N y) i) * (mLp V y nd) / 365000))]) (rest := []) hx hb hml hown hts hK hl.1 (c_X7_putBilled l G (f 6 y) (f 7 y) (f 8 y) 1 nd (mLp V y nd) (bI V (f 9) N y (mLp V y nd) i) (pdF V y) i (((yS V (f 9) N y) i) * (mLp V y nd) / 365000) sz (by omega) (⟨fun z => absurd (hRW.2.2.2 17 y 16 y (dB 17 (by omega) (by omega) (by omega) (by omega)) (dB 16 (by omega) (by omega) (by omega) (by omega)) z).1 (by omega), fun z => absurd (hRW.2.2.2 18 y 16 y (dB 18 (by omega) (by omega) (by omega) (by omega)) (dB 16 (by omega) (by omega) (by omega) (by omega)) z).1 (by omega), fun z => absurd (hRW.2.2.2 17 y 18 y (dB 17 (by omega) (by omega) (by omega) (by omega)) (dB 18 (by omega) (by omega) (by omega) (by omega)) z).1 (by omega)⟩)) (cwV 2 hts gX8_struck_X7_putBilled rfl rfl rfl (by decide +kernel) ⟨Nat.le_of_ble_eq_true rfl, Nat.le_of_ble_eq_true rfl⟩) lbk rfl (⟨by have z1 := hFl.1; omega, ⟨lbk, lbl, hP3⟩⟩) rfl rfl (Nat.le_of_ble_eq_true rfl) dX8_struck_100 ⟨Nat.le_of_ble_eq_true rfl, Nat.le_of_ble_eq_true rfl⟩ hL63 (fun x hx => hx.elim (fun z => by rw [z]; exact (hA 17 y (dB 17 (by omega) (by omega) (by omega) (by omega)))) (fun z => hAn x (by omega))) (fun H_53 lo_54 hp_55 hL_56 => ?_)
                show W p l e (headSpec wsX8_struck rmX8_struck).room s m ([.ref (a 0), .int (J y), .int (J nd)] : List Value).toArray below meth c H_53 lo_54 (0 + 0) (0 + 0) (MQ below (QE (some (.int (J (if (0 ≤ y ∧ y < 10) ∧ 0 ≤ nd ∧ nd ≤ 100000000 then (if mLp V y nd = -4 then -2 else mLp V y nd) else -1))) : Option Value) (fun H H1 => WX G A a (if ((0 ≤ y ∧ y < 10) ∧ 0 ≤ nd ∧ nd ≤ 100000000) ∧ mLp V y nd ≠ -4 then sSt V y nd else V) H H1)) ([.ref (a 0), .int (J y), .int (J nd)] : List Value).toArray s 0 0 A) (F0 m 103 ls [])
                have hf_58 : Fr H63 H_53 (fun x => x = (f 7 y)) 0 := hp_55.1
                have hF_57 : Fr s.heap H_53 A 0 := hFl.f hf_58 (fun x hx z => by rw [z] at hx ⊢; exact (fun _ => (hA 17 y (dB 17 (by omega) (by omega) (by omega) (by omega)))) hx)
                have hG2 : Fr H_1 H_53 (fun z => z = f 6 y ∨ z = f 7 y) 0 := hGl.f hp_55.1 (fun _ _ z => Or.inr z)
                have hbk2 := lbk.f hp_55.1 (fun z => absurd (hRW.2.2.2 16 y 17 y (dB 16 (by omega) (by omega) (by omega) (by omega)) (dB 17 (by omega) (by omega) (by omega) (by omega)) z).1 (by omega))
                have hrow2 := hp_55.2
                refine lv_iinc (v := J (i + 1)) (lv' := [(5, .int (J (i + 1))), (4, .int (J (mLp V y nd))), (3, .ref (f 6 y)), (0, .ref (a 0)), (1, .int (J y)), (2, .int (J nd))]) hx hb dX8_struck_103 hl (k := 0) rfl (J_add _ _) (by decide) rfl (fun ls hl => ?_)
                refine lv_goto (tgt := 63) hx hb dX8_struck_106 (by decide) ?_
                exact ih63 (i + 1) H_53 lo_54 hL_56 (by omega) hF_57 hG2 hbk2 (eI_congr (fun j h1 h2 => bI_st rfl j) hrow2) (by omega) _ (lv_sub hl [0, 1, 2, 3, 4, 5] rfl)
        exact lp63 41 0 H_38 lo_39 hL_42 (by omega) hF_52 hG_50 (by rw [← hlpe]; exact hc_40) (eI_congr (fun j h1 h2 => (if_neg (by omega)).symm) hl7) (by omega) _ (lv_sub hl [0, 1, 2, 3, 4, 5] (by rw [show (mLp V y nd : Int) = lpO (yS V (f 9) N y) nd from (by exact hlpe.symm)]; try rfl))
      · refine j_bi hx hb dX8_struck_41 (by decide +kernel) ?_
        exact r_iE hx hb hr hlk (Nat.le_of_ble_eq_true rfl) (Nat.le_of_ble_eq_true rfl) (congrArg (fun z => some (Value.int (J z))) (show ((-2) : Int) = if (0 ≤ y ∧ y < 10) ∧ 0 ≤ nd ∧ nd ≤ 100000000 then (if mLp V y nd = -4 then -2 else mLp V y nd) else -1 from by rw [if_pos (by omega), if_pos ((lp_eq hV nd (hq (by omega) (by omega))).symm.trans c38)])) hL_4 (WX.eq (WX.of hF_5 hRWy hA) (if_neg (fun z => z.2 ((lp_eq hV nd (hq (by omega) (by omega))).symm.trans c38)))) dX8_struck_43
    · refine j_const hx hb dX8_struck_20 ?_
      exact r_iE hx hb hr hlk (Nat.le_of_ble_eq_true rfl) (Nat.le_of_ble_eq_true rfl) (congrArg (fun z => some (Value.int (J z))) (show ((-1) : Int) = if (0 ≤ y ∧ y < 10) ∧ 0 ≤ nd ∧ nd ≤ 100000000 then (if mLp V y nd = -4 then -2 else mLp V y nd) else -1 from by rw [if_neg (by omega)])) hL0 (WX.eq (WX.of hF0 hRW hA) (if_neg (by omega))) dX8_struck_21
  · refine j_qn (qN_n sp2) ?_
    refine lv_astore_nN (lv' := [(3, .null), (0, .ref (a 0)), (1, .int (J y)), (2, .int (J nd))]) hx hb dX8_struck_5 rfl hl (by decide) rfl (fun ls hl => ?_)
    refine lv_aload_nN hx hb dX8_struck_6 rfl (lv_at hl 0 rfl) ?_
    refine lv_ifnullN (tgt := 20) hx hb dX8_struck_7 (by decide) ?_
    refine j_const hx hb dX8_struck_20 ?_
    exact r_iE hx hb hr hlk (Nat.le_of_ble_eq_true rfl) (Nat.le_of_ble_eq_true rfl) (congrArg (fun z => some (Value.int (J z))) (show ((-1) : Int) = if (0 ≤ y ∧ y < 10) ∧ 0 ≤ nd ∧ nd ≤ 100000000 then (if mLp V y nd = -4 then -2 else mLp V y nd) else -1 from by rw [if_neg (by omega)])) hL0 (WX.eq (WX.of hF0 hRW hA) (if_neg (by omega))) dX8_struck_21
