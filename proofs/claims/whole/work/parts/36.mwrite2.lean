abbrev rmX9_house : Room := { frames := 1, cells := 0, slots := 0, locals := 22 }
set_option maxHeartbeats 4000000 in
set_option maxRecDepth 100000 in
theorem c_X9_house (l : Launch) (G : GG) (ad : Nat → Nat) (V : St) (fo am : Int) (ys : Int → Int) (w_ k t z r : Int) (sz : Nat) (hV : Iv V) (hD : Dj ad) (g_w_ : -2147483648 ≤ w_ ∧ w_ < 2147483648) (g_k : -2147483648 ≤ k ∧ k < 2147483648) (g_t : -2147483648 ≤ t ∧ t < 2147483648) (g_z : -2147483648 ≤ z ∧ z < 2147483648) (g_r : -2147483648 ≤ r ∧ r < 2147483648) : ME l G yX9_house wsX9_house rmX9_house [.ref (ad 0), .int (J w_), .int (J k), .int (J t), .int (J z), .int (J r)] (fun H => H.size = sz ∧ (MW G H ad V fo am ys)) (some (.int (J (if (0 ≤ w_ ∧ w_ ≤ 3) ∧ (0 ≤ k ∧ k ≤ 2) ∧ (0 ≤ t ∧ t ≤ 5) ∧ (1 ≤ z ∧ z ≤ 500) ∧ 0 ≤ r ∧ r ≤ 100000 then (if V 0 0 = 40 then -3 else V 0 0) else -1))) : Option Value) (fun x => (mS ad) x ∨ sz ≤ x) (fun H H1 => Fr H H1 (mS ad) 0 ∧ MX G H1 ad (if ((0 ≤ w_ ∧ w_ ≤ 3) ∧ (0 ≤ k ∧ k ≤ 2) ∧ (0 ≤ t ∧ t ≤ 5) ∧ (1 ≤ z ∧ z ≤ 500) ∧ 0 ≤ r ∧ r ≤ 100000) ∧ V 0 0 ≠ 40 then sHo V w_ k t z r else V)) 0 0 := by
  refine ME.of (cc := cX9_house) (maxL := 7) (ret := (some .int)) (by decide) rfl (Nat.le_of_ble_eq_true rfl) ?_
  intro p e s m below meth c hx hb hr hml hown hts hlk hin hK hP ls hl
  have hL0 : ∀ z9 ∈ ([] : List Loc), (fun x => (mS ad) x ∨ sz ≤ x) z9.base := fun z9 h => absurd h List.not_mem_nil
  have hown : s.vm.findClass RX9 = some m.cls := hown
  have hl : lv_has ls 7 [(0, .ref (ad 0)), (1, .int (J w_)), (2, .int (J k)), (3, .int (J t)), (4, .int (J z)), (5, .int (J r))] := hl
  have inX9_ : ∀ w ∈ u_ws RX9 TX9 22, w ∈ wsX9_house := by decide +kernel
  have lk0 := hts (.constant RX9 74 100000) (by decide +kernel)
  have lk1 := hts (.fieldLink RX9 66 "RateBookModel" "houses" "I") (by decide +kernel)
  have lk2 := hts (.fieldLink RX9 7 "RateBookModel" "ward" "[I") (by decide +kernel)
  have lk3 := hts (.fieldLink RX9 13 "RateBookModel" "kind" "[I") (by decide +kernel)
  have lk4 := hts (.fieldLink RX9 16 "RateBookModel" "street" "[I") (by decide +kernel)
  have lk5 := hts (.fieldLink RX9 19 "RateBookModel" "size" "[I") (by decide +kernel)
  have lk6 := hts (.fieldLink RX9 22 "RateBookModel" "rent" "[I") (by decide +kernel)
  have lk7 := hts (.fieldLink RX9 56 "RateBookModel" "billed" "[I") (by decide +kernel)
  obtain ⟨hsz, hP⟩ := hP
  have hF0 : Fr s.heap s.heap (mS ad) 0 := Fr.rf
  have hM : MW G s.heap ad V fo am ys := hP
  have hn := hV.n
  have hnl := hV.l
  refine lv_iload_n hx hb dX9_house_0 rfl (lv_at hl 1 rfl) ?_
  refine j_const hx hb dX9_house_1 ?_
  refine j_const hx hb dX9_house_2 ?_
  refine k_S (As := [.int (J w_), .int (J 0), .int (J 3)]) (rest := []) (v := .int (J (pI (0 ≤ w_ ∧ w_ ≤ 3)))) hx hb hml hown hts hK hl.1 (c_X9_in l G w_ 0 3 (by omega) (by omega) (by omega)) (va_cwS 3 hts gX9_house_X9_in rfl rfl rfl (by decide +kernel) ⟨Nat.le_of_ble_eq_true rfl, Nat.le_of_ble_eq_true rfl⟩) trivial rfl rfl (Nat.le_of_ble_eq_true rfl) dX9_house_3 ⟨Nat.zero_le _, Nat.zero_le _⟩ ?_
  refine j_eqP (tgt := 50) hx hb dX9_house_6 (by decide) (fun c6 => ?_) (fun c6 => ?_)
  · refine j_const hx hb dX9_house_50 ?_
    exact r_iE hx hb hr hlk (Nat.le_of_ble_eq_true rfl) (Nat.le_of_ble_eq_true rfl) (congrArg (fun z => some (Value.int (J z))) (show ((-1) : Int) = if (0 ≤ w_ ∧ w_ ≤ 3) ∧ (0 ≤ k ∧ k ≤ 2) ∧ (0 ≤ t ∧ t ≤ 5) ∧ (1 ≤ z ∧ z ≤ 500) ∧ 0 ≤ r ∧ r ≤ 100000 then (if V 0 0 = 40 then -3 else V 0 0) else -1 from by rw [if_neg (by omega)])) hL0 (⟨hF0, by rw [if_neg (by omega)]; exact ⟨_, _, _, hM⟩⟩) dX9_house_51
  · refine lv_iload_n hx hb dX9_house_9 rfl (lv_at hl 2 rfl) ?_
    refine j_const hx hb dX9_house_10 ?_
    refine j_const hx hb dX9_house_11 ?_
    refine k_S (As := [.int (J k), .int (J 0), .int (J 2)]) (rest := []) (v := .int (J (pI (0 ≤ k ∧ k ≤ 2)))) hx hb hml hown hts hK hl.1 (c_X9_in l G k 0 2 (by omega) (by omega) (by omega)) (va_cwS 3 hts gX9_house_X9_in rfl rfl rfl (by decide +kernel) ⟨Nat.le_of_ble_eq_true rfl, Nat.le_of_ble_eq_true rfl⟩) trivial rfl rfl (Nat.le_of_ble_eq_true rfl) dX9_house_12 ⟨Nat.zero_le _, Nat.zero_le _⟩ ?_
    refine j_eqP (tgt := 50) hx hb dX9_house_15 (by decide) (fun c15 => ?_) (fun c15 => ?_)
    · refine j_const hx hb dX9_house_50 ?_
      exact r_iE hx hb hr hlk (Nat.le_of_ble_eq_true rfl) (Nat.le_of_ble_eq_true rfl) (congrArg (fun z => some (Value.int (J z))) (show ((-1) : Int) = if (0 ≤ w_ ∧ w_ ≤ 3) ∧ (0 ≤ k ∧ k ≤ 2) ∧ (0 ≤ t ∧ t ≤ 5) ∧ (1 ≤ z ∧ z ≤ 500) ∧ 0 ≤ r ∧ r ≤ 100000 then (if V 0 0 = 40 then -3 else V 0 0) else -1 from by rw [if_neg (by omega)])) hL0 (⟨hF0, by rw [if_neg (by omega)]; exact ⟨_, _, _, hM⟩⟩) dX9_house_51
    · refine lv_iload_n hx hb dX9_house_18 rfl (lv_at hl 3 rfl) ?_
      refine j_const hx hb dX9_house_19 ?_
      refine j_const hx hb dX9_house_20 ?_
      refine k_S (As := [.int (J t), .int (J 0), .int (J 5)]) (rest := []) (v := .int (J (pI (0 ≤ t ∧ t ≤ 5)))) hx hb hml hown hts hK hl.1 (c_X9_in l G t 0 5 (by omega) (by omega) (by omega)) (va_cwS 3 hts gX9_house_X9_in rfl rfl rfl (by decide +kernel) ⟨Nat.le_of_ble_eq_true rfl, Nat.le_of_ble_eq_true rfl⟩) trivial rfl rfl (Nat.le_of_ble_eq_true rfl) dX9_house_21 ⟨Nat.zero_le _, Nat.zero_le _⟩ ?_
      refine j_eqP (tgt := 50) hx hb dX9_house_24 (by decide) (fun c24 => ?_) (fun c24 => ?_)
      · refine j_const hx hb dX9_house_50 ?_
        exact r_iE hx hb hr hlk (Nat.le_of_ble_eq_true rfl) (Nat.le_of_ble_eq_true rfl) (congrArg (fun z => some (Value.int (J z))) (show ((-1) : Int) = if (0 ≤ w_ ∧ w_ ≤ 3) ∧ (0 ≤ k ∧ k ≤ 2) ∧ (0 ≤ t ∧ t ≤ 5) ∧ (1 ≤ z ∧ z ≤ 500) ∧ 0 ≤ r ∧ r ≤ 100000 then (if V 0 0 = 40 then -3 else V 0 0) else -1 from by rw [if_neg (by omega)])) hL0 (⟨hF0, by rw [if_neg (by omega)]; exact ⟨_, _, _, hM⟩⟩) dX9_house_51
      · refine lv_iload hx hb dX9_house_27 (lv_at hl 4 rfl) ?_
        refine j_const hx hb dX9_house_29 ?_
        refine j_si hx hb dX9_house_30 (by decide +kernel) ?_
        refine k_S (As := [.int (J z), .int (J 1), .int (J 500)]) (rest := []) (v := .int (J (pI (1 ≤ z ∧ z ≤ 500)))) hx hb hml hown hts hK hl.1 (c_X9_in l G z 1 500 (by omega) (by omega) (by omega)) (va_cwS 3 hts gX9_house_X9_in rfl rfl rfl (by decide +kernel) ⟨Nat.le_of_ble_eq_true rfl, Nat.le_of_ble_eq_true rfl⟩) trivial rfl rfl (Nat.le_of_ble_eq_true rfl) dX9_house_33 ⟨Nat.zero_le _, Nat.zero_le _⟩ ?_
        refine j_eqP (tgt := 50) hx hb dX9_house_36 (by decide) (fun c36 => ?_) (fun c36 => ?_)
        · refine j_const hx hb dX9_house_50 ?_
          exact r_iE hx hb hr hlk (Nat.le_of_ble_eq_true rfl) (Nat.le_of_ble_eq_true rfl) (congrArg (fun z => some (Value.int (J z))) (show ((-1) : Int) = if (0 ≤ w_ ∧ w_ ≤ 3) ∧ (0 ≤ k ∧ k ≤ 2) ∧ (0 ≤ t ∧ t ≤ 5) ∧ (1 ≤ z ∧ z ≤ 500) ∧ 0 ≤ r ∧ r ≤ 100000 then (if V 0 0 = 40 then -3 else V 0 0) else -1 from by rw [if_neg (by omega)])) hL0 (⟨hF0, by rw [if_neg (by omega)]; exact ⟨_, _, _, hM⟩⟩) dX9_house_51
        · refine lv_iload hx hb dX9_house_39 (lv_at hl 5 rfl) ?_
          refine j_const hx hb dX9_house_41 ?_
          refine j_ldc hx hb hown lk0 (z := 100000) rfl dX9_house_42 ?_
          refine k_S (As := [.int (J r), .int (J 0), .int (J 100000)]) (rest := []) (v := .int (J (pI (0 ≤ r ∧ r ≤ 100000)))) hx hb hml hown hts hK hl.1 (c_X9_in l G r 0 100000 (by omega) (by omega) (by omega)) (va_cwS 3 hts gX9_house_X9_in rfl rfl rfl (by decide +kernel) ⟨Nat.le_of_ble_eq_true rfl, Nat.le_of_ble_eq_true rfl⟩) trivial rfl rfl (Nat.le_of_ble_eq_true rfl) dX9_house_44 ⟨Nat.zero_le _, Nat.zero_le _⟩ ?_
          refine j_neP (tgt := 52) hx hb dX9_house_47 (by decide) (fun c47 => ?_) (fun c47 => ?_)
          · refine lv_aload_n hx hb dX9_house_52 rfl (lv_at hl 0 rfl) ?_
            have ce_1 : At G s.heap (ad 0) (eO 9 [.int (J (V 0 0)), .ref (ad 1), .ref (ad 2), .ref (ad 3), .ref (ad 4), .ref (ad 5), .ref (ad 6), .ref (ad 7), .ref (ad 8), .ref (ad 9), .int (J (V 0 1)), .ref (ad 10), .ref (ad 11), .ref (ad 12), .ref (ad 13), .ref (ad 14), .ref (ad 15), .ref (ad 16), .ref (ad 17), .int (J fo), .int (J am), .ref (ad 18)]) := hM.1
            refine j_get (ci := 9) (v := .int (J (V 0 0))) hx hb hts inX9_ hown hK ce_1 rfl 0 (by decide) lk1 (fun _ h9 => h9) rfl dX9_house_53 ?_
            refine j_bi hx hb dX9_house_56 (by decide +kernel) ?_
            refine j_cne (tgt := 64) hx hb (by omega) (by omega) (by decide) (by decide) dX9_house_58 (by decide) (fun c58 => ?_) (fun c58 => ?_)
            · refine lv_aload_n hx hb dX9_house_64 rfl (lv_at hl 0 rfl) ?_
              refine j_get (ci := 9) (v := .ref (ad 1)) hx hb hts inX9_ hown hK ce_1 rfl 1 (by decide) lk2 (fun _ h9 => h9) rfl dX9_house_65 ?_
              refine lv_aload_n hx hb dX9_house_68 rfl (lv_at hl 0 rfl) ?_
              refine j_get (ci := 9) (v := .int (J (V 0 0))) hx hb hts inX9_ hown hK ce_1 rfl 0 (by decide) lk1 (fun _ h9 => h9) rfl dX9_house_69 ?_
              refine lv_iload_n hx hb dX9_house_72 rfl (lv_at hl 1 rfl) ?_
              have ce_2 : At G s.heap (ad 1) (eI G 40 (V 1)) := (hM.2.1 1 (by decide) (by decide))
              refine j_iast (A := (fun x => (mS ad) x ∨ sz ≤ x)) hx hb hK ce_2 (by omega) (by omega) (by decide) hL0 (Or.inl ⟨1, by decide, rfl⟩) dX9_house_73 (fun H_3 lo_4 hc_5 hx_6 hL_7 => ?_)
              have hc_5 : At G H_3 (ad 1) (eI G 40 (uf (V 1) (V 0 0) w_)) := hc_5
              have hM_9 : MW G H_3 ad (vu V 1 (V 0 0) w_) fo am ys := MW.upd (k := 1) hD hM hx_6 (by decide) (by decide) hc_5 (fun c hc => vu_n _ _ _ hc)
              have hF_10 : Fr s.heap H_3 (mS ad) 0 := hF0.x hx_6 (fun _ => ⟨1, by decide, rfl⟩)
              refine lv_aload_n hx hb dX9_house_74 rfl (lv_at hl 0 rfl) ?_
              have ce_11 : At G H_3 (ad 0) (eO 9 [.int (J (V 0 0)), .ref (ad 1), .ref (ad 2), .ref (ad 3), .ref (ad 4), .ref (ad 5), .ref (ad 6), .ref (ad 7), .ref (ad 8), .ref (ad 9), .int (J (V 0 1)), .ref (ad 10), .ref (ad 11), .ref (ad 12), .ref (ad 13), .ref (ad 14), .ref (ad 15), .ref (ad 16), .ref (ad 17), .int (J fo), .int (J am), .ref (ad 18)]) := hM_9.1
              refine j_get (ci := 9) (v := .ref (ad 2)) hx hb hts inX9_ hown hK ce_11 rfl 2 (by decide) lk3 (fun _ h9 => h9) rfl dX9_house_75 ?_
              refine lv_aload_n hx hb dX9_house_78 rfl (lv_at hl 0 rfl) ?_
              refine j_get (ci := 9) (v := .int (J (V 0 0))) hx hb hts inX9_ hown hK ce_11 rfl 0 (by decide) lk1 (fun _ h9 => h9) rfl dX9_house_79 ?_
              refine lv_iload_n hx hb dX9_house_82 rfl (lv_at hl 2 rfl) ?_
              have ce_12 : At G H_3 (ad 2) (eI G 40 (V 2)) := (hM_9.2.1 2 (by decide) (by decide))
              refine j_iast (A := (fun x => (mS ad) x ∨ sz ≤ x)) hx hb hK ce_12 (by omega) (by omega) (by decide) hL_7 (Or.inl ⟨2, by decide, rfl⟩) dX9_house_83 (fun H_13 lo_14 hc_15 hx_16 hL_17 => ?_)
              have hc_15 : At G H_13 (ad 2) (eI G 40 (uf (V 2) (V 0 0) k)) := hc_15
              have hM_19 : MW G H_13 ad (vu (vu V 1 (V 0 0) w_) 2 (V 0 0) k) fo am ys := MW.upd (k := 2) hD hM_9 hx_16 (by decide) (by decide) hc_15 (fun c hc => vu_n _ _ _ hc)
              have hF_20 : Fr s.heap H_13 (mS ad) 0 := hF_10.x hx_16 (fun _ => ⟨2, by decide, rfl⟩)
              refine lv_aload_n hx hb dX9_house_84 rfl (lv_at hl 0 rfl) ?_
              have ce_21 : At G H_13 (ad 0) (eO 9 [.int (J (V 0 0)), .ref (ad 1), .ref (ad 2), .ref (ad 3), .ref (ad 4), .ref (ad 5), .ref (ad 6), .ref (ad 7), .ref (ad 8), .ref (ad 9), .int (J (V 0 1)), .ref (ad 10), .ref (ad 11), .ref (ad 12), .ref (ad 13), .ref (ad 14), .ref (ad 15), .ref (ad 16), .ref (ad 17), .int (J fo), .int (J am), .ref (ad 18)]) := hM_19.1
              refine j_get (ci := 9) (v := .ref (ad 3)) hx hb hts inX9_ hown hK ce_21 rfl 3 (by decide) lk4 (fun _ h9 => h9) rfl dX9_house_85 ?_
              refine lv_aload_n hx hb dX9_house_88 rfl (lv_at hl 0 rfl) ?_
              refine j_get (ci := 9) (v := .int (J (V 0 0))) hx hb hts inX9_ hown hK ce_21 rfl 0 (by decide) lk1 (fun _ h9 => h9) rfl dX9_house_89 ?_
              refine lv_iload_n hx hb dX9_house_92 rfl (lv_at hl 3 rfl) ?_
              have ce_22 : At G H_13 (ad 3) (eI G 40 (V 3)) := (hM_19.2.1 3 (by decide) (by decide))
              refine j_iast (A := (fun x => (mS ad) x ∨ sz ≤ x)) hx hb hK ce_22 (by omega) (by omega) (by decide) hL_17 (Or.inl ⟨3, by decide, rfl⟩) dX9_house_93 (fun H_23 lo_24 hc_25 hx_26 hL_27 => ?_)
              have hc_25 : At G H_23 (ad 3) (eI G 40 (uf (V 3) (V 0 0) t)) := hc_25
              have hM_29 : MW G H_23 ad (vu (vu (vu V 1 (V 0 0) w_) 2 (V 0 0) k) 3 (V 0 0) t) fo am ys := MW.upd (k := 3) hD hM_19 hx_26 (by decide) (by decide) hc_25 (fun c hc => vu_n _ _ _ hc)
              have hF_30 : Fr s.heap H_23 (mS ad) 0 := hF_20.x hx_26 (fun _ => ⟨3, by decide, rfl⟩)
              refine lv_aload_n hx hb dX9_house_94 rfl (lv_at hl 0 rfl) ?_
              have ce_31 : At G H_23 (ad 0) (eO 9 [.int (J (V 0 0)), .ref (ad 1), .ref (ad 2), .ref (ad 3), .ref (ad 4), .ref (ad 5), .ref (ad 6), .ref (ad 7), .ref (ad 8), .ref (ad 9), .int (J (V 0 1)), .ref (ad 10), .ref (ad 11), .ref (ad 12), .ref (ad 13), .ref (ad 14), .ref (ad 15), .ref (ad 16), .ref (ad 17), .int (J fo), .int (J am), .ref (ad 18)]) := hM_29.1
              refine j_get (ci := 9) (v := .ref (ad 4)) hx hb hts inX9_ hown hK ce_31 rfl 4 (by decide) lk5 (fun _ h9 => h9) rfl dX9_house_95 ?_
              refine lv_aload_n hx hb dX9_house_98 rfl (lv_at hl 0 rfl) ?_
              refine j_get (ci := 9) (v := .int (J (V 0 0))) hx hb hts inX9_ hown hK ce_31 rfl 0 (by decide) lk1 (fun _ h9 => h9) rfl dX9_house_99 ?_
              refine lv_iload hx hb dX9_house_102 (lv_at hl 4 rfl) ?_
              have ce_32 : At G H_23 (ad 4) (eI G 40 (V 4)) := (hM_29.2.1 4 (by decide) (by decide))
              refine j_iast (A := (fun x => (mS ad) x ∨ sz ≤ x)) hx hb hK ce_32 (by omega) (by omega) (by decide) hL_27 (Or.inl ⟨4, by decide, rfl⟩) dX9_house_104 (fun H_33 lo_34 hc_35 hx_36 hL_37 => ?_)
              have hc_35 : At G H_33 (ad 4) (eI G 40 (uf (V 4) (V 0 0) z)) := hc_35
              have hM_39 : MW G H_33 ad (vu (vu (vu (vu V 1 (V 0 0) w_) 2 (V 0 0) k) 3 (V 0 0) t) 4 (V 0 0) z) fo am ys := MW.upd (k := 4) hD hM_29 hx_36 (by decide) (by decide) hc_35 (fun c hc => vu_n _ _ _ hc)
              have hF_40 : Fr s.heap H_33 (mS ad) 0 := hF_30.x hx_36 (fun _ => ⟨4, by decide, rfl⟩)
              refine lv_aload_n hx hb dX9_house_105 rfl (lv_at hl 0 rfl) ?_
              have ce_41 : At G H_33 (ad 0) (eO 9 [.int (J (V 0 0)), .ref (ad 1), .ref (ad 2), .ref (ad 3), .ref (ad 4), .ref (ad 5), .ref (ad 6), .ref (ad 7), .ref (ad 8), .ref (ad 9), .int (J (V 0 1)), .ref (ad 10), .ref (ad 11), .ref (ad 12), .ref (ad 13), .ref (ad 14), .ref (ad 15), .ref (ad 16), .ref (ad 17), .int (J fo), .int (J am), .ref (ad 18)]) := hM_39.1
              refine j_get (ci := 9) (v := .ref (ad 5)) hx hb hts inX9_ hown hK ce_41 rfl 5 (by decide) lk6 (fun _ h9 => h9) rfl dX9_house_106 ?_
              refine lv_aload_n hx hb dX9_house_109 rfl (lv_at hl 0 rfl) ?_
              refine j_get (ci := 9) (v := .int (J (V 0 0))) hx hb hts inX9_ hown hK ce_41 rfl 0 (by decide) lk1 (fun _ h9 => h9) rfl dX9_house_110 ?_
              refine lv_iload hx hb dX9_house_113 (lv_at hl 5 rfl) ?_
              have ce_42 : At G H_33 (ad 5) (eI G 40 (V 5)) := (hM_39.2.1 5 (by decide) (by decide))
              refine j_iast (A := (fun x => (mS ad) x ∨ sz ≤ x)) hx hb hK ce_42 (by omega) (by omega) (by decide) hL_37 (Or.inl ⟨5, by decide, rfl⟩) dX9_house_115 (fun H_43 lo_44 hc_45 hx_46 hL_47 => ?_)
              have hc_45 : At G H_43 (ad 5) (eI G 40 (uf (V 5) (V 0 0) r)) := hc_45
              have hM_49 : MW G H_43 ad (vu (vu (vu (vu (vu V 1 (V 0 0) w_) 2 (V 0 0) k) 3 (V 0 0) t) 4 (V 0 0) z) 5 (V 0 0) r) fo am ys := MW.upd (k := 5) hD hM_39 hx_46 (by decide) (by decide) hc_45 (fun c hc => vu_n _ _ _ hc)
              have hF_50 : Fr s.heap H_43 (mS ad) 0 := hF_40.x hx_46 (fun _ => ⟨5, by decide, rfl⟩)
              refine j_const hx hb dX9_house_116 ?_
              refine lv_istore (lv' := [(6, .int (J 0)), (0, .ref (ad 0)), (1, .int (J w_)), (2, .int (J k)), (3, .int (J t)), (4, .int (J z)), (5, .int (J r))]) hx hb dX9_house_117 hl (by decide) rfl (fun ls hl => ?_)
              have lp119 : ∀ (n : Nat) (i : Int) (H119 : Heap) (lo119 : List Loc) (hL119 : ∀ z9 ∈ lo119, (fun x => (mS ad) x ∨ sz ≤ x) z9.base) (i0 : 0 ≤ i ∧ i ≤ 10) (hFl : Fr s.heap H119 (mS ad) 0) (hMl : MW G H119 ad (hoB V w_ k t z r i) fo am ys) (hm : 10 - i < (n : Int)) (ls : Array Slot) (hl : lv_has ls 7 [(6, .int (J i)), (0, .ref (ad 0)), (1, .int (J w_)), (2, .int (J k)), (3, .int (J t)), (4, .int (J z)), (5, .int (J r))]), W p l e (headSpec wsX9_house rmX9_house).room s m ([.ref (ad 0), .int (J w_), .int (J k), .int (J t), .int (J z), .int (J r)] : List Value).toArray below meth c H119 lo119 0 0 (MQ below (QE (some (.int (J (if (0 ≤ w_ ∧ w_ ≤ 3) ∧ (0 ≤ k ∧ k ≤ 2) ∧ (0 ≤ t ∧ t ≤ 5) ∧ (1 ≤ z ∧ z ≤ 500) ∧ 0 ≤ r ∧ r ≤ 100000 then (if V 0 0 = 40 then -3 else V 0 0) else -1))) : Option Value) (fun H H1 => Fr H H1 (mS ad) 0 ∧ MX G H1 ad (if ((0 ≤ w_ ∧ w_ ≤ 3) ∧ (0 ≤ k ∧ k ≤ 2) ∧ (0 ≤ t ∧ t ≤ 5) ∧ (1 ≤ z ∧ z ≤ 500) ∧ 0 ≤ r ∧ r ≤ 100000) ∧ V 0 0 ≠ 40 then sHo V w_ k t z r else V))) ([.ref (ad 0), .int (J w_), .int (J k), .int (J t), .int (J z), .int (J r)] : List Value).toArray s 0 0 (fun x => (mS ad) x ∨ sz ≤ x)) (F0 m 119 ls []) := by
                intro n
                induction n with
                | zero =>
                  intro i H119 lo119 hL119 i0 hFl hMl hm ls hl
                  exact absurd hm (by omega)
                | succ n ih119 =>
                  intro i H119 lo119 hL119 i0 hFl hMl hm ls hl
                  have hb0 : (hoB V w_ k t z r i) 0 0 = V 0 0 := hoB_0 i0.1
                  refine lv_iload hx hb dX9_house_119 (lv_at hl 0 rfl) ?_
                  refine j_bi hx hb dX9_house_121 (by decide +kernel) ?_
                  refine j_cge (tgt := 149) hx hb (by omega) (by omega) (by decide) (by decide) dX9_house_123 (by decide) (fun c123 => ?_) (fun c123 => ?_)
                  · refine lv_aload_n hx hb dX9_house_149 rfl (lv_at hl 1 rfl) ?_
                    refine lv_dup hx hb dX9_house_150 rfl ?_
                    have ce_51 : At G H119 (ad 0) (eO 9 [.int (J (V 0 0)), .ref (ad 1), .ref (ad 2), .ref (ad 3), .ref (ad 4), .ref (ad 5), .ref (ad 6), .ref (ad 7), .ref (ad 8), .ref (ad 9), .int (J ((hoB V w_ k t z r i) 0 1)), .ref (ad 10), .ref (ad 11), .ref (ad 12), .ref (ad 13), .ref (ad 14), .ref (ad 15), .ref (ad 16), .ref (ad 17), .int (J fo), .int (J am), .ref (ad 18)]) := (by have q := hMl.1; unfold eM at q; (try rw [hb0] at q); exact q)
                    refine j_get (ci := 9) (v := .int (J (V 0 0))) hx hb hts inX9_ hown hK ce_51 rfl 0 (by decide) lk1 (fun _ h9 => h9) rfl dX9_house_151 ?_
                    refine j_const hx hb dX9_house_154 ?_
                    refine j_add hx hb dX9_house_155 ?_
                    refine j_put (ci := 9) (A := (fun x => (mS ad) x ∨ sz ≤ x)) (ty := .int) hx hb hts inX9_ tyX9 tyX9_ok nmX9 hown hK ce_51 rfl 0 (by decide) lk1 (fun _ h9 => h9) rfl (by decide +kernel) rfl rfl (Nat.le_of_ble_eq_true rfl) hL119 (Or.inl ⟨0, by decide, rfl⟩) dX9_house_156 (fun H_52 lo_53 hc_54 hx_55 hL_56 => ?_)
                    have hc_54 : At G H_52 (ad 0) (eO 9 [.int (J ((V 0 0) + 1)), .ref (ad 1), .ref (ad 2), .ref (ad 3), .ref (ad 4), .ref (ad 5), .ref (ad 6), .ref (ad 7), .ref (ad 8), .ref (ad 9), .int (J ((hoB V w_ k t z r i) 0 1)), .ref (ad 10), .ref (ad 11), .ref (ad 12), .ref (ad 13), .ref (ad 14), .ref (ad 15), .ref (ad 16), .ref (ad 17), .int (J fo), .int (J am), .ref (ad 18)]) := hc_54
                    have hM_57 : MW G H_52 ad (vu (hoB V w_ k t z r i) 0 0 ((V 0 0) + 1)) fo am ys := MW.upd0 hD hMl hx_55 hc_54 (fun c hc => vu_n _ _ _ hc)
                    have hF_58 : Fr s.heap H_52 (mS ad) 0 := hFl.x hx_55 (fun _ => ⟨0, by decide, rfl⟩)
                    refine lv_aload_n hx hb dX9_house_159 rfl (lv_at hl 1 rfl) ?_
                    have ce_59 : At G H_52 (ad 0) (eO 9 [.int (J ((V 0 0) + 1)), .ref (ad 1), .ref (ad 2), .ref (ad 3), .ref (ad 4), .ref (ad 5), .ref (ad 6), .ref (ad 7), .ref (ad 8), .ref (ad 9), .int (J ((hoB V w_ k t z r i) 0 1)), .ref (ad 10), .ref (ad 11), .ref (ad 12), .ref (ad 13), .ref (ad 14), .ref (ad 15), .ref (ad 16), .ref (ad 17), .int (J fo), .int (J am), .ref (ad 18)]) := (by have q := hM_57.1; unfold eM at q; (try rw [hb0] at q); exact q)
                    refine j_get (ci := 9) (v := .int (J ((V 0 0) + 1))) hx hb hts inX9_ hown hK ce_59 rfl 0 (by decide) lk1 (fun _ h9 => h9) rfl dX9_house_160 ?_
                    refine j_const hx hb dX9_house_163 ?_
                    refine j_sub hx hb dX9_house_164 ?_
                    exact r_iE hx hb hr hlk (Nat.le_of_ble_eq_true rfl) (Nat.le_of_ble_eq_true rfl) (congrArg (fun z => some (Value.int (J z))) (show (((V 0 0) + 1) - 1 : Int) = if (0 ≤ w_ ∧ w_ ≤ 3) ∧ (0 ≤ k ∧ k ≤ 2) ∧ (0 ≤ t ∧ t ≤ 5) ∧ (1 ≤ z ∧ z ≤ 500) ∧ 0 ≤ r ∧ r ≤ 100000 then (if V 0 0 = 40 then -3 else V 0 0) else -1 from by rw [if_pos (by omega), if_neg (by omega)]; omega)) hL_56 (⟨hF_58, by rw [if_pos (by omega)]; exact ⟨_, _, _, by rw [show i = 10 by omega] at hM_57; exact hM_57⟩⟩) dX9_house_165
                  · refine lv_aload_n hx hb dX9_house_126 rfl (lv_at hl 1 rfl) ?_
                    have ce_60 : At G H119 (ad 0) (eO 9 [.int (J (V 0 0)), .ref (ad 1), .ref (ad 2), .ref (ad 3), .ref (ad 4), .ref (ad 5), .ref (ad 6), .ref (ad 7), .ref (ad 8), .ref (ad 9), .int (J ((hoB V w_ k t z r i) 0 1)), .ref (ad 10), .ref (ad 11), .ref (ad 12), .ref (ad 13), .ref (ad 14), .ref (ad 15), .ref (ad 16), .ref (ad 17), .int (J fo), .int (J am), .ref (ad 18)]) := (by have q := hMl.1; unfold eM at q; (try rw [hb0] at q); exact q)
                    refine j_get (ci := 9) (v := .ref (ad 16)) hx hb hts inX9_ hown hK ce_60 rfl 17 (by decide) lk7 (fun _ h9 => h9) rfl dX9_house_127 ?_
                    refine j_bi hx hb dX9_house_130 (by decide +kernel) ?_
                    refine lv_aload_n hx hb dX9_house_132 rfl (lv_at hl 1 rfl) ?_
                    refine j_get (ci := 9) (v := .int (J (V 0 0))) hx hb hts inX9_ hown hK ce_60 rfl 0 (by decide) lk1 (fun _ h9 => h9) rfl dX9_house_133 ?_
                    refine j_mul hx hb dX9_house_136 ?_
                    refine lv_iload hx hb dX9_house_137 (lv_at hl 0 rfl) ?_
                    refine j_add hx hb dX9_house_139 ?_
                    refine j_bi hx hb dX9_house_140 (by decide +kernel) ?_
                    have ce_61 : At G H119 (ad 16) (eI G 400 ((hoB V w_ k t z r i) 16)) := (hMl.2.1 16 (by decide) (by decide))
                    refine j_iast (A := (fun x => (mS ad) x ∨ sz ≤ x)) hx hb hK ce_61 (by omega) (by omega) (by decide) hL119 (Or.inl ⟨16, by decide, rfl⟩) dX9_house_142 (fun H_62 lo_63 hc_64 hx_65 hL_66 => ?_)
                    have hc_64 : At G H_62 (ad 16) (eI G 400 (uf ((hoB V w_ k t z r i) 16) ((10 * (V 0 0)) + i) (-4))) := hc_64
                    have hM_68 : MW G H_62 ad (vu (hoB V w_ k t z r i) 16 ((10 * (V 0 0)) + i) (-4)) fo am ys := MW.upd (k := 16) hD hMl hx_65 (by decide) (by decide) hc_64 (fun c hc => vu_n _ _ _ hc)
                    have hF_69 : Fr s.heap H_62 (mS ad) 0 := hFl.x hx_65 (fun _ => ⟨16, by decide, rfl⟩)
                    refine lv_iinc (v := J (i + 1)) (lv' := [(6, .int (J (i + 1))), (0, .ref (ad 0)), (1, .int (J w_)), (2, .int (J k)), (3, .int (J t)), (4, .int (J z)), (5, .int (J r))]) hx hb dX9_house_143 hl (k := 0) rfl (J_add _ _) (by decide) rfl (fun ls hl => ?_)
                    refine lv_goto (tgt := 119) hx hb dX9_house_146 (by decide) ?_
                    exact ih119 (i + 1) H_62 lo_63 hL_66 (by omega) hF_69 (by rw [show (hoB V w_ k t z r (i + 1) : St) = vu (hoB V w_ k t z r i) 16 ((10 * (V 0 0)) + i) (-4) from lo_s _ _ i0.1]; exact hM_68) (by omega) _ (lv_sub hl [0, 1, 2, 3, 4, 5, 6] rfl)
              exact lp119 11 0 H_43 lo_44 hL_47 (by omega) hF_50 hM_49 (by omega) _ (lv_sub hl [0, 1, 2, 3, 4, 5, 6] rfl)
            · refine j_bi hx hb dX9_house_61 (by decide +kernel) ?_
              exact r_iE hx hb hr hlk (Nat.le_of_ble_eq_true rfl) (Nat.le_of_ble_eq_true rfl) (congrArg (fun z => some (Value.int (J z))) (show ((-3) : Int) = if (0 ≤ w_ ∧ w_ ≤ 3) ∧ (0 ≤ k ∧ k ≤ 2) ∧ (0 ≤ t ∧ t ≤ 5) ∧ (1 ≤ z ∧ z ≤ 500) ∧ 0 ≤ r ∧ r ≤ 100000 then (if V 0 0 = 40 then -3 else V 0 0) else -1 from by rw [if_pos (by omega), if_pos (by omega)])) hL0 (⟨hF0, by rw [if_neg (by omega)]; exact ⟨_, _, _, hM⟩⟩) dX9_house_63
          · refine j_const hx hb dX9_house_50 ?_
            exact r_iE hx hb hr hlk (Nat.le_of_ble_eq_true rfl) (Nat.le_of_ble_eq_true rfl) (congrArg (fun z => some (Value.int (J z))) (show ((-1) : Int) = if (0 ≤ w_ ∧ w_ ≤ 3) ∧ (0 ≤ k ∧ k ≤ 2) ∧ (0 ≤ t ∧ t ≤ 5) ∧ (1 ≤ z ∧ z ≤ 500) ∧ 0 ≤ r ∧ r ≤ 100000 then (if V 0 0 = 40 then -3 else V 0 0) else -1 from by rw [if_neg (by omega)])) hL0 (⟨hF0, by rw [if_neg (by omega)]; exact ⟨_, _, _, hM⟩⟩) dX9_house_51

abbrev rmX9_least : Room := { frames := 5, cells := 0, slots := 0, locals := 125 }
set_option maxHeartbeats 4000000 in
set_option maxRecDepth 100000 in
theorem c_X9_least (l : Launch) (G : GG) (ad : Nat → Nat) (V : St) (fo am : Int) (ys : Int → Int) (y nd : Int) (sz : Nat) (hV : Iv V) (hD : Dj ad) (h_y : 0 ≤ y ∧ y < 10) (h_n : 0 ≤ nd ∧ nd ≤ 100000000) : ME l G yX9_least wsX9_least rmX9_least [.ref (ad 0), .int (J y), .int (J nd)] (fun H => H.size = sz ∧ (MW G H ad V fo am ys)) (some (.int (J (mLp V y nd))) : Option Value) (fun x => (mS ad) x ∨ sz ≤ x) (fun H H1 => Fr H H1 (mS ad) 0 ∧ ∃ ys2 : Int → Int, MW G H1 ad V fo am ys2 ∧ ∀ j, 0 ≤ j → j < V 0 0 → ys2 j = mYr V j y) 0 0 := by
  refine ME.of (cc := cX9_least) (maxL := 7) (ret := (some .int)) (by decide) rfl (Nat.le_of_ble_eq_true rfl) ?_
  intro p e s m below meth c hx hb hr hml hown hts hlk hin hK hP ls hl
  have hL0 : ∀ z9 ∈ ([] : List Loc), (fun x => (mS ad) x ∨ sz ≤ x) z9.base := fun z9 h => absurd h List.not_mem_nil
  have hown : s.vm.findClass RX9 = some m.cls := hown
  have hl : lv_has ls 7 [(0, .ref (ad 0)), (1, .int (J y)), (2, .int (J nd))] := hl
  have inX9_ : ∀ w ∈ u_ws RX9 TX9 22, w ∈ wsX9_least := by decide +kernel
  have lk0 := hts (.fieldLink RX9 66 "RateBookModel" "houses" "I") (by decide +kernel)
  have lk1 := hts (.fieldLink RX9 62 "RateBookModel" "years" "[J") (by decide +kernel)
  have lk2 := hts (.constantLong RX9 157 365000) (by decide +kernel)
  obtain ⟨hsz, hP⟩ := hP
  have hF0 : Fr s.heap s.heap (mS ad) 0 := Fr.rf
  have hM : MW G s.heap ad V fo am ys := hP
  have hn := hV.n
  have hnl := hV.l
  refine j_const hx hb dX9_least_0 ?_
  refine lv_istore_n (lv' := [(3, .int (J 0)), (0, .ref (ad 0)), (1, .int (J y)), (2, .int (J nd))]) hx hb dX9_least_1 rfl hl (by decide) rfl (fun ls hl => ?_)
  have lp2 : ∀ (n : Nat) (i : Int) (yx : Int → Int) (H2 : Heap) (lo2 : List Loc) (hL2 : ∀ z9 ∈ lo2, (fun x => (mS ad) x ∨ sz ≤ x) z9.base) (i0 : 0 ≤ i ∧ i ≤ V 0 0) (hFl : Fr s.heap H2 (mS ad) 0) (hMl : MW G H2 ad V fo am yx) (hyx : ∀ j, 0 ≤ j → j < i → yx j = mYr V j y) (hm : V 0 0 - i < (n : Int)) (ls : Array Slot) (hl : lv_has ls 7 [(3, .int (J i)), (0, .ref (ad 0)), (1, .int (J y)), (2, .int (J nd))]), W p l e (headSpec wsX9_least rmX9_least).room s m ([.ref (ad 0), .int (J y), .int (J nd)] : List Value).toArray below meth c H2 lo2 0 0 (MQ below (QE (some (.int (J (mLp V y nd))) : Option Value) (fun H H1 => Fr H H1 (mS ad) 0 ∧ ∃ ys2 : Int → Int, MW G H1 ad V fo am ys2 ∧ ∀ j, 0 ≤ j → j < V 0 0 → ys2 j = mYr V j y)) ([.ref (ad 0), .int (J y), .int (J nd)] : List Value).toArray s 0 0 (fun x => (mS ad) x ∨ sz ≤ x)) (F0 m 2 ls []) := by
    intro n
    induction n with
    | zero =>
      intro i yx H2 lo2 hL2 i0 hFl hMl hyx hm ls hl
      exact absurd hm (by omega)
    | succ n ih2 =>
      intro i yx H2 lo2 hL2 i0 hFl hMl hyx hm ls hl
      refine lv_iload_n hx hb dX9_least_2 rfl (lv_at hl 0 rfl) ?_
      refine lv_aload_n hx hb dX9_least_3 rfl (lv_at hl 1 rfl) ?_
      have ce_1 : At G H2 (ad 0) (eO 9 [.int (J (V 0 0)), .ref (ad 1), .ref (ad 2), .ref (ad 3), .ref (ad 4), .ref (ad 5), .ref (ad 6), .ref (ad 7), .ref (ad 8), .ref (ad 9), .int (J (V 0 1)), .ref (ad 10), .ref (ad 11), .ref (ad 12), .ref (ad 13), .ref (ad 14), .ref (ad 15), .ref (ad 16), .ref (ad 17), .int (J fo), .int (J am), .ref (ad 18)]) := hMl.1
      refine j_get (ci := 9) (v := .int (J (V 0 0))) hx hb hts inX9_ hown hK ce_1 rfl 0 (by decide) lk0 (fun _ h9 => h9) rfl dX9_least_4 ?_
      refine j_cge (tgt := 28) hx hb (by omega) (by omega) (by omega) (by omega) dX9_least_7 (by decide) (fun c7 => ?_) (fun c7 => ?_)
      · refine j_const hx hb dX9_least_28 ?_
        refine lv_istore_n (lv' := [(3, .int (J 0)), (0, .ref (ad 0)), (1, .int (J y)), (2, .int (J nd))]) hx hb dX9_least_29 rfl hl (by decide) rfl (fun ls hl => ?_)
        have lp30 : ∀ (n : Nat) (p_ : Int) (p0 : 0 ≤ p_ ∧ p_ ≤ 3001) (hpl : ∀ q, 0 ≤ q → q < p_ → mBt V y q < nd) (hm : 3002 - p_ < (n : Int)) (ls : Array Slot) (hl : lv_has ls 7 [(3, .int (J p_)), (0, .ref (ad 0)), (1, .int (J y)), (2, .int (J nd))]), W p l e (headSpec wsX9_least rmX9_least).room s m ([.ref (ad 0), .int (J y), .int (J nd)] : List Value).toArray below meth c H2 lo2 0 0 (MQ below (QE (some (.int (J (mLp V y nd))) : Option Value) (fun H H1 => Fr H H1 (mS ad) 0 ∧ ∃ ys2 : Int → Int, MW G H1 ad V fo am ys2 ∧ ∀ j, 0 ≤ j → j < V 0 0 → ys2 j = mYr V j y)) ([.ref (ad 0), .int (J y), .int (J nd)] : List Value).toArray s 0 0 (fun x => (mS ad) x ∨ sz ≤ x)) (F0 m 30 ls []) := by
          intro n
          induction n with
          | zero =>
            intro p_ p0 hpl hm ls hl
            exact absurd hm (by omega)
          | succ n ih30 =>
            intro p_ p0 hpl hm ls hl
            refine lv_iload_n hx hb dX9_least_30 rfl (lv_at hl 0 rfl) ?_
            refine j_si hx hb dX9_least_31 (by decide +kernel) ?_
            refine j_cgt (tgt := 93) hx hb (by omega) (by omega) (by decide) (by decide) dX9_least_34 (by decide) (fun c34 => ?_) (fun c34 => ?_)
            · refine j_bi hx hb dX9_least_93 (by decide +kernel) ?_
              exact r_iE hx hb hr hlk (Nat.le_of_ble_eq_true rfl) (Nat.le_of_ble_eq_true rfl) (congrArg (fun z => some (Value.int (J z))) (show ((-4) : Int) = mLp V y nd from ((mLp_spec V y nd p0.1 p0.2 hpl).1 (by omega)).symm)) hL2 (⟨hFl, _, hMl, fun j a b => hyx j a (by omega)⟩) dX9_least_95
            · refine j_lconst hx hb (z := 0) dX9_least_37 rfl ?_
              refine lv_lstore (lv' := [(4, .long (JL 0)), (3, .int (J p_)), (0, .ref (ad 0)), (1, .int (J y)), (2, .int (J nd))]) hx hb dX9_least_38 hl (by decide) rfl (fun ls hl => ?_)
              refine j_const hx hb dX9_least_40 ?_
              refine lv_istore (lv' := [(6, .int (J 0)), (4, .long (JL 0)), (3, .int (J p_)), (0, .ref (ad 0)), (1, .int (J y)), (2, .int (J nd))]) hx hb dX9_least_41 hl (by decide) rfl (fun ls hl => ?_)
              have lp43 : ∀ (n : Nat) (j : Int) (j0 : 0 ≤ j ∧ j ≤ V 0 0) (hm : V 0 0 - j < (n : Int)) (ls : Array Slot) (hl : lv_has ls 7 [(6, .int (J j)), (4, .long (JL (lo (fun x o => x + mYr V o y * p_ / 365000) 0 j))), (3, .int (J p_)), (0, .ref (ad 0)), (1, .int (J y)), (2, .int (J nd))]), W p l e (headSpec wsX9_least rmX9_least).room s m ([.ref (ad 0), .int (J y), .int (J nd)] : List Value).toArray below meth c H2 lo2 0 0 (MQ below (QE (some (.int (J (mLp V y nd))) : Option Value) (fun H H1 => Fr H H1 (mS ad) 0 ∧ ∃ ys2 : Int → Int, MW G H1 ad V fo am ys2 ∧ ∀ j, 0 ≤ j → j < V 0 0 → ys2 j = mYr V j y)) ([.ref (ad 0), .int (J y), .int (J nd)] : List Value).toArray s 0 0 (fun x => (mS ad) x ∨ sz ≤ x)) (F0 m 43 ls []) := by
                intro n
                induction n with
                | zero =>
                  intro j j0 hm ls hl
                  exact absurd hm (by omega)
                | succ n ih43 =>
                  intro j j0 hm ls hl
                  have hbr := mBt_rng hV (y := y) (p := p_) (by omega) j0.1 j0.2
                  refine lv_iload hx hb dX9_least_43 (lv_at hl 0 rfl) ?_
                  refine lv_aload_n hx hb dX9_least_45 rfl (lv_at hl 3 rfl) ?_
                  refine j_get (ci := 9) (v := .int (J (V 0 0))) hx hb hts inX9_ hown hK ce_1 rfl 0 (by decide) lk0 (fun _ h9 => h9) rfl dX9_least_46 ?_
                  refine j_cge (tgt := 77) hx hb (by omega) (by omega) (by omega) (by omega) dX9_least_49 (by decide) (fun c49 => ?_) (fun c49 => ?_)
                  · refine lv_lload hx hb dX9_least_77 (lv_at hl 1 rfl) ?_
                    refine lv_iload_n hx hb dX9_least_79 rfl (lv_at hl 5 rfl) ?_
                    refine j_i2l hx hb (by omega) (by omega) dX9_least_80 ?_
                    refine j_lcmp hx hb (by omega) (by omega) (by omega) (by omega) dX9_least_81 ?_
                    refine j_lt0 (tgt := 87) hx hb (by have := cmp3_rng (lo (fun x o => x + mYr V o y * p_ / 365000) 0 j) nd; omega) (by have := cmp3_rng (lo (fun x o => x + mYr V o y * p_ / 365000) 0 j) nd; omega) dX9_least_82 (by decide) (fun c82 => ?_) (fun c82 => ?_)
                    · refine lv_iinc (v := J (p_ + 1)) (lv' := [(3, .int (J (p_ + 1))), (6, .int (J j)), (4, .long (JL (lo (fun x o => x + mYr V o y * p_ / 365000) 0 j))), (0, .ref (ad 0)), (1, .int (J y)), (2, .int (J nd))]) hx hb dX9_least_87 hl (k := 2) rfl (J_add _ _) (by decide) rfl (fun ls hl => ?_)
                      refine lv_goto (tgt := 30) hx hb dX9_least_90 (by decide) ?_
                      have hlt : mBt V y p_ < nd := by have z := cmp3_lt.mp c82; rw [show j = V 0 0 by omega] at z; exact z
                      exact ih30 (p_ + 1) (by omega) (fun q a b => if z : q < p_ then hpl q a z else (show q = p_ by omega) ▸ hlt) (by omega) _ (lv_sub hl [0, 3, 4, 5] rfl)
                    · refine lv_iload_n hx hb dX9_least_85 rfl (lv_at hl 2 rfl) ?_
                      exact r_iE hx hb hr hlk (Nat.le_of_ble_eq_true rfl) (Nat.le_of_ble_eq_true rfl) (congrArg (fun z => some (Value.int (J z))) (show (p_ : Int) = mLp V y nd from ((mLp_spec V y nd p0.1 p0.2 hpl).2 (by omega) (by have z : nd ≤ lo (fun x o => x + mYr V o y * p_ / 365000) 0 j := Int.not_lt.mp (fun z => absurd (cmp3_lt.mpr z) (by omega)); rw [show j = V 0 0 by omega] at z; exact z)).symm)) hL2 (⟨hFl, _, hMl, fun j a b => hyx j a (by omega)⟩) dX9_least_86
                  · refine lv_lload hx hb dX9_least_52 (lv_at hl 1 rfl) ?_
                    refine lv_aload_n hx hb dX9_least_54 rfl (lv_at hl 3 rfl) ?_
                    refine j_get (ci := 9) (v := .ref (ad 18)) hx hb hts inX9_ hown hK ce_1 rfl 21 (by decide) lk1 (fun _ h9 => h9) rfl dX9_least_55 ?_
                    refine lv_iload hx hb dX9_least_58 (lv_at hl 0 rfl) ?_
                    have ce_2 : At G H2 (ad 18) (eL G 40 yx) := hMl.2.2
                    refine j_lald hx hb hK ce_2 (by omega) (by omega) (by decide) dX9_least_60 ?_
                    refine lv_iload_n hx hb dX9_least_61 rfl (lv_at hl 2 rfl) ?_
                    refine j_i2l hx hb (by omega) (by omega) dX9_least_62 ?_
                    have hyr := mYr_rng hV (h := j) (y := y) j0.1 (by omega)
                    have hyj := hyx j j0.1 (by omega)
                    have hmm := mulb (a := mYr V j y) (b := p_) (A := 20000000000) (B := 3000) hyr.1 hyr.2 (by omega) (by omega)
                    have hmy : yx j * p_ = mYr V j y * p_ := by rw [hyj]
                    refine j_lmul hx hb dX9_least_63 ?_
                    refine j_ldc2 hx hb hown lk2 (z := 365000) rfl dX9_least_64 ?_
                    refine j_ldiv hx hb (by omega) (by omega) (by decide) (by decide) dX9_least_67 ?_
                    refine j_ladd hx hb dX9_least_68 ?_
                    refine lv_lstore (lv' := [(4, .long (JL ((lo (fun x o => x + mYr V o y * p_ / 365000) 0 j) + (((yx j) * p_) / 365000)))), (6, .int (J j)), (3, .int (J p_)), (0, .ref (ad 0)), (1, .int (J y)), (2, .int (J nd))]) hx hb dX9_least_69 hl (by decide) rfl (fun ls hl => ?_)
                    refine lv_iinc (v := J (j + 1)) (lv' := [(6, .int (J (j + 1))), (4, .long (JL ((lo (fun x o => x + mYr V o y * p_ / 365000) 0 j) + (((yx j) * p_) / 365000)))), (3, .int (J p_)), (0, .ref (ad 0)), (1, .int (J y)), (2, .int (J nd))]) hx hb dX9_least_71 hl (k := 1) rfl (J_add _ _) (by decide) rfl (fun ls hl => ?_)
                    refine lv_goto (tgt := 43) hx hb dX9_least_74 (by decide) ?_
                    exact ih43 (j + 1) (by omega) (by omega) _ (lv_sub hl [0, 1, 2, 3, 4, 5] (by rw [show (lo (fun x o => x + mYr V o y * p_ / 365000) 0 (j + 1) : Int) = (lo (fun x o => x + mYr V o y * p_ / 365000) 0 j) + (((yx j) * p_) / 365000) from (by rw [lo_s _ _ (by omega), hyx j j0.1 (by omega)])]; try rfl))
              exact lp43 41 0 (by omega) (by omega) _ (lv_sub hl [0, 1, 2, 3, 4, 5] (by rw [show (lo (fun x o => x + mYr V o y * p_ / 365000) 0 0 : Int) = 0 from (by rfl)]; try rfl))
        exact lp30 3003 0 (by omega) (fun q a b => absurd b (by omega)) (by omega) _ (lv_sub hl [0, 1, 2, 3] rfl)
      · refine lv_aload_n hx hb dX9_least_10 rfl (lv_at hl 1 rfl) ?_
        refine j_get (ci := 9) (v := .ref (ad 18)) hx hb hts inX9_ hown hK ce_1 rfl 21 (by decide) lk1 (fun _ h9 => h9) rfl dX9_least_11 ?_
        refine lv_iload_n hx hb dX9_least_14 rfl (lv_at hl 0 rfl) ?_
        refine lv_aload_n hx hb dX9_least_15 rfl (lv_at hl 1 rfl) ?_
        refine lv_iload_n hx hb dX9_least_16 rfl (lv_at hl 0 rfl) ?_
        refine lv_iload_n hx hb dX9_least_17 rfl (lv_at hl 2 rfl) ?_
        refine k_V (ci := 9) (b := ad 0) (As := [.int (J i), .int (J y)]) (rest := [.int (J i), .ref (ad 18)]) (v := .long (JL (mYr V i y))) hx hb hml hown hts hK hl.1 (c_X9_yearOf l G ad V fo am yx i y hV (by omega) (by omega)) (cwV 2 hts gX9_least_X9_yearOf rfl rfl rfl (by decide +kernel) ⟨Nat.le_of_ble_eq_true rfl, Nat.le_of_ble_eq_true rfl⟩) ce_1 rfl hMl rfl rfl (Nat.le_of_ble_eq_true rfl) dX9_least_18 ⟨Nat.zero_le _, Nat.zero_le _⟩ ?_
        have ce_3 : At G H2 (ad 18) (eL G 40 yx) := hMl.2.2
        refine j_last (A := (fun x => (mS ad) x ∨ sz ≤ x)) hx hb hK ce_3 (by omega) (by omega) (by decide) hL2 (Or.inl ⟨18, by decide, rfl⟩) dX9_least_21 (fun H_4 lo_5 hc_6 hx_7 hL_8 => ?_)
        have hc_6 : At G H_4 (ad 18) (eL G 40 (uf yx i (mYr V i y))) := hc_6
        have hM_10 : MW G H_4 ad V fo am (uf yx i (mYr V i y)) := MW.updL hD hMl hx_7 hc_6
        have hF_11 : Fr s.heap H_4 (mS ad) 0 := hFl.x hx_7 (fun _ => ⟨18, by decide, rfl⟩)
        refine lv_iinc (v := J (i + 1)) (lv' := [(3, .int (J (i + 1))), (0, .ref (ad 0)), (1, .int (J y)), (2, .int (J nd))]) hx hb dX9_least_22 hl (k := 0) rfl (J_add _ _) (by decide) rfl (fun ls hl => ?_)
        refine lv_goto (tgt := 2) hx hb dX9_least_25 (by decide) ?_
        exact ih2 (i + 1) (uf yx i (mYr V i y)) H_4 lo_5 hL_8 (by omega) hF_11 hM_10 (fun j a b => if z : j = i then z ▸ uf_s yx j _ else (uf_n yx _ z).trans (hyx j a (by omega))) (by omega) _ (lv_sub hl [0, 1, 2, 3] rfl)
  exact lp2 41 0 ys s.heap ([]) hL0 (by omega) hF0 hM (fun j a b => absurd b (by omega)) (by omega) _ (lv_sub hl [0, 1, 2, 3] rfl)

abbrev rmX9_poundage : Room := { frames := 6, cells := 0, slots := 0, locals := 151 }
set_option maxHeartbeats 4000000 in
set_option maxRecDepth 100000 in
theorem c_X9_poundage (l : Launch) (G : GG) (ad : Nat → Nat) (V : St) (fo am : Int) (ys : Int → Int) (y nd : Int) (sz : Nat) (hV : Iv V) (hD : Dj ad) (g_y : -2147483648 ≤ y ∧ y < 2147483648) (g_nd : -2147483648 ≤ nd ∧ nd < 2147483648) : ME l G yX9_poundage wsX9_poundage rmX9_poundage [.ref (ad 0), .int (J y), .int (J nd)] (fun H => H.size = sz ∧ (MW G H ad V fo am ys)) (some (.int (J (if (0 ≤ y ∧ y < 10) ∧ 0 ≤ nd ∧ nd ≤ 100000000 then mLp V y nd else -1))) : Option Value) (fun x => (mS ad) x ∨ sz ≤ x) (fun H H1 => Fr H H1 (mS ad) 0 ∧ MX G H1 ad V) 0 0 := by
  refine ME.of (cc := cX9_poundage) (maxL := 3) (ret := (some .int)) (by decide) rfl (Nat.le_of_ble_eq_true rfl) ?_
  intro p e s m below meth c hx hb hr hml hown hts hlk hin hK hP ls hl
  have hL0 : ∀ z9 ∈ ([] : List Loc), (fun x => (mS ad) x ∨ sz ≤ x) z9.base := fun z9 h => absurd h List.not_mem_nil
  have hown : s.vm.findClass RX9 = some m.cls := hown
  have hl : lv_has ls 3 [(0, .ref (ad 0)), (1, .int (J y)), (2, .int (J nd))] := hl
  have lk0 := hts (.constant RX9 159 100000000) (by decide +kernel)
  obtain ⟨hsz, hP⟩ := hP
  have hF0 : Fr s.heap s.heap (mS ad) 0 := Fr.rf
  have hM : MW G s.heap ad V fo am ys := hP
  have hn := hV.n
  have hnl := hV.l
  refine lv_iload_n hx hb dX9_poundage_0 rfl (lv_at hl 1 rfl) ?_
  refine k_S (As := [.int (J y)]) (rest := []) (v := .int (J (pI (0 ≤ y ∧ y ≤ 9)))) hx hb hml hown hts hK hl.1 (c_X9_isYear l G y (by omega)) (va_cwS 1 hts gX9_poundage_X9_isYear rfl rfl rfl (by decide +kernel) ⟨Nat.le_of_ble_eq_true rfl, Nat.le_of_ble_eq_true rfl⟩) trivial rfl rfl (Nat.le_of_ble_eq_true rfl) dX9_poundage_1 ⟨Nat.zero_le _, Nat.zero_le _⟩ ?_
  refine j_eqP (tgt := 26) hx hb dX9_poundage_4 (by decide) (fun c4 => ?_) (fun c4 => ?_)
  · refine j_const hx hb dX9_poundage_26 ?_
    exact r_iE hx hb hr hlk (Nat.le_of_ble_eq_true rfl) (Nat.le_of_ble_eq_true rfl) (congrArg (fun z => some (Value.int (J z))) (show ((-1) : Int) = if (0 ≤ y ∧ y < 10) ∧ 0 ≤ nd ∧ nd ≤ 100000000 then mLp V y nd else -1 from by rw [if_neg (by omega)])) hL0 (⟨hF0, ⟨_, _, _, hM⟩⟩) dX9_poundage_27
  · refine lv_iload_n hx hb dX9_poundage_7 rfl (lv_at hl 2 rfl) ?_
    refine j_const hx hb dX9_poundage_8 ?_
    refine j_ldc hx hb hown lk0 (z := 100000000) rfl dX9_poundage_9 ?_
    refine k_S (As := [.int (J nd), .int (J 0), .int (J 100000000)]) (rest := []) (v := .int (J (pI (0 ≤ nd ∧ nd ≤ 100000000)))) hx hb hml hown hts hK hl.1 (c_X9_in l G nd 0 100000000 (by omega) (by omega) (by omega)) (va_cwS 3 hts gX9_poundage_X9_in rfl rfl rfl (by decide +kernel) ⟨Nat.le_of_ble_eq_true rfl, Nat.le_of_ble_eq_true rfl⟩) trivial rfl rfl (Nat.le_of_ble_eq_true rfl) dX9_poundage_11 ⟨Nat.zero_le _, Nat.zero_le _⟩ ?_
    refine j_eqP (tgt := 26) hx hb dX9_poundage_14 (by decide) (fun c14 => ?_) (fun c14 => ?_)
    · refine j_const hx hb dX9_poundage_26 ?_
      exact r_iE hx hb hr hlk (Nat.le_of_ble_eq_true rfl) (Nat.le_of_ble_eq_true rfl) (congrArg (fun z => some (Value.int (J z))) (show ((-1) : Int) = if (0 ≤ y ∧ y < 10) ∧ 0 ≤ nd ∧ nd ≤ 100000000 then mLp V y nd else -1 from by rw [if_neg (by omega)])) hL0 (⟨hF0, ⟨_, _, _, hM⟩⟩) dX9_poundage_27
    · refine lv_aload_n hx hb dX9_poundage_17 rfl (lv_at hl 0 rfl) ?_
      refine lv_iload_n hx hb dX9_poundage_18 rfl (lv_at hl 1 rfl) ?_
      refine lv_iload_n hx hb dX9_poundage_19 rfl (lv_at hl 2 rfl) ?_
      have ce_5 : At G s.heap (ad 0) (eO 9 [.int (J (V 0 0)), .ref (ad 1), .ref (ad 2), .ref (ad 3), .ref (ad 4), .ref (ad 5), .ref (ad 6), .ref (ad 7), .ref (ad 8), .ref (ad 9), .int (J (V 0 1)), .ref (ad 10), .ref (ad 11), .ref (ad 12), .ref (ad 13), .ref (ad 14), .ref (ad 15), .ref (ad 16), .ref (ad 17), .int (J fo), .int (J am), .ref (ad 18)]) := hM.1
      refine e_V (A := (fun x => (mS ad) x ∨ sz ≤ x)) (ci := 9) (b := ad 0) (As := [.int (J y), .int (J nd)]) (rest := []) hx hb hml hown hts hK hl.1 (c_X9_least l G ad V fo am ys y nd sz hV (by omega) (by omega) (by omega)) (cwV 2 hts gX9_poundage_X9_least rfl rfl rfl (by decide +kernel) ⟨Nat.le_of_ble_eq_true rfl, Nat.le_of_ble_eq_true rfl⟩) ce_5 rfl (⟨by have z1 := hF0.1; omega, hM⟩) rfl rfl (Nat.le_of_ble_eq_true rfl) dX9_poundage_20 ⟨Nat.le_of_ble_eq_true rfl, Nat.le_of_ble_eq_true rfl⟩ hL0 (fun x hx => hx) (fun H_1 lo_2 hp_3 hL_4 => ?_)
      show W p l e (headSpec wsX9_poundage rmX9_poundage).room s m ([.ref (ad 0), .int (J y), .int (J nd)] : List Value).toArray below meth c H_1 lo_2 (0 + 0) (0 + 0) (MQ below (QE (some (.int (J (if (0 ≤ y ∧ y < 10) ∧ 0 ≤ nd ∧ nd ≤ 100000000 then mLp V y nd else -1))) : Option Value) (fun H H1 => Fr H H1 (mS ad) 0 ∧ MX G H1 ad V)) ([.ref (ad 0), .int (J y), .int (J nd)] : List Value).toArray s 0 0 (fun x => (mS ad) x ∨ sz ≤ x)) (F0 m 23 ls [.int (J (mLp V y nd))])
      have hf_7 : Fr s.heap H_1 (mS ad) 0 := hp_3.1
      have hF_6 : Fr s.heap H_1 (mS ad) 0 := hF0.f hf_7 (fun x hx z => z)
      obtain ⟨yz, hM_8, hyz⟩ := hp_3.2
      have hlr := mLp_rng V y nd
      refine lv_goto (tgt := 27) hx hb dX9_poundage_23 (by decide) ?_
      exact r_iE hx hb hr hlk (Nat.le_of_ble_eq_true rfl) (Nat.le_of_ble_eq_true rfl) (congrArg (fun z => some (Value.int (J z))) (show (mLp V y nd : Int) = if (0 ≤ y ∧ y < 10) ∧ 0 ≤ nd ∧ nd ≤ 100000000 then mLp V y nd else -1 from by rw [if_pos (by omega)])) hL_4 (⟨hF_6, ⟨_, _, _, hM_8⟩⟩) dX9_poundage_27

abbrev rmX9_struck : Room := { frames := 6, cells := 0, slots := 0, locals := 151 }
set_option maxHeartbeats 4000000 in
set_option maxRecDepth 100000 in
theorem c_X9_struck (l : Launch) (G : GG) (ad : Nat → Nat) (V : St) (fo am : Int) (ys : Int → Int) (y nd : Int) (sz : Nat) (hV : Iv V) (hD : Dj ad) (g_y : -2147483648 ≤ y ∧ y < 2147483648) (g_nd : -2147483648 ≤ nd ∧ nd < 2147483648) : ME l G yX9_struck wsX9_struck rmX9_struck [.ref (ad 0), .int (J y), .int (J nd)] (fun H => H.size = sz ∧ (MW G H ad V fo am ys)) (some (.int (J (if (0 ≤ y ∧ y < 10) ∧ 0 ≤ nd ∧ nd ≤ 100000000 then (if mLp V y nd = -4 then -2 else mLp V y nd) else -1))) : Option Value) (fun x => (mS ad) x ∨ sz ≤ x) (fun H H1 => Fr H H1 (mS ad) 0 ∧ MX G H1 ad (if ((0 ≤ y ∧ y < 10) ∧ 0 ≤ nd ∧ nd ≤ 100000000) ∧ mLp V y nd ≠ -4 then sSt V y nd else V)) 0 0 := by
  refine ME.of (cc := cX9_struck) (maxL := 5) (ret := (some .int)) (by decide) rfl (Nat.le_of_ble_eq_true rfl) ?_
  intro p e s m below meth c hx hb hr hml hown hts hlk hin hK hP ls hl
  have hL0 : ∀ z9 ∈ ([] : List Loc), (fun x => (mS ad) x ∨ sz ≤ x) z9.base := fun z9 h => absurd h List.not_mem_nil
  have hown : s.vm.findClass RX9 = some m.cls := hown
  have hl : lv_has ls 5 [(0, .ref (ad 0)), (1, .int (J y)), (2, .int (J nd))] := hl
  have inX9_ : ∀ w ∈ u_ws RX9 TX9 22, w ∈ wsX9_struck := by decide +kernel
  have lk0 := hts (.constant RX9 159 100000000) (by decide +kernel)
  have lk1 := hts (.fieldLink RX9 46 "RateBookModel" "isStruck" "[Z") (by decide +kernel)
  have lk2 := hts (.fieldLink RX9 50 "RateBookModel" "poundages" "[I") (by decide +kernel)
  have lk3 := hts (.fieldLink RX9 53 "RateBookModel" "needed" "[I") (by decide +kernel)
  have lk4 := hts (.fieldLink RX9 66 "RateBookModel" "houses" "I") (by decide +kernel)
  have lk5 := hts (.fieldLink RX9 56 "RateBookModel" "billed" "[I") (by decide +kernel)
  have lk6 := hts (.fieldLink RX9 62 "RateBookModel" "years" "[J") (by decide +kernel)
  have lk7 := hts (.constantLong RX9 157 365000) (by decide +kernel)
  obtain ⟨hsz, hP⟩ := hP
  have hF0 : Fr s.heap s.heap (mS ad) 0 := Fr.rf
  have hM : MW G s.heap ad V fo am ys := hP
  have hn := hV.n
  have hnl := hV.l
  refine lv_iload_n hx hb dX9_struck_0 rfl (lv_at hl 1 rfl) ?_
  refine k_S (As := [.int (J y)]) (rest := []) (v := .int (J (pI (0 ≤ y ∧ y ≤ 9)))) hx hb hml hown hts hK hl.1 (c_X9_isYear l G y (by omega)) (va_cwS 1 hts gX9_struck_X9_isYear rfl rfl rfl (by decide +kernel) ⟨Nat.le_of_ble_eq_true rfl, Nat.le_of_ble_eq_true rfl⟩) trivial rfl rfl (Nat.le_of_ble_eq_true rfl) dX9_struck_1 ⟨Nat.zero_le _, Nat.zero_le _⟩ ?_
  refine j_eqP (tgt := 17) hx hb dX9_struck_4 (by decide) (fun c4 => ?_) (fun c4 => ?_)
  · refine j_const hx hb dX9_struck_17 ?_
    exact r_iE hx hb hr hlk (Nat.le_of_ble_eq_true rfl) (Nat.le_of_ble_eq_true rfl) (congrArg (fun z => some (Value.int (J z))) (show ((-1) : Int) = if (0 ≤ y ∧ y < 10) ∧ 0 ≤ nd ∧ nd ≤ 100000000 then (if mLp V y nd = -4 then -2 else mLp V y nd) else -1 from by rw [if_neg (by omega)])) hL0 (⟨hF0, by rw [if_neg (by omega)]; exact ⟨_, _, _, hM⟩⟩) dX9_struck_18
  · refine lv_iload_n hx hb dX9_struck_7 rfl (lv_at hl 2 rfl) ?_
    refine j_const hx hb dX9_struck_8 ?_
    refine j_ldc hx hb hown lk0 (z := 100000000) rfl dX9_struck_9 ?_
    refine k_S (As := [.int (J nd), .int (J 0), .int (J 100000000)]) (rest := []) (v := .int (J (pI (0 ≤ nd ∧ nd ≤ 100000000)))) hx hb hml hown hts hK hl.1 (c_X9_in l G nd 0 100000000 (by omega) (by omega) (by omega)) (va_cwS 3 hts gX9_struck_X9_in rfl rfl rfl (by decide +kernel) ⟨Nat.le_of_ble_eq_true rfl, Nat.le_of_ble_eq_true rfl⟩) trivial rfl rfl (Nat.le_of_ble_eq_true rfl) dX9_struck_11 ⟨Nat.zero_le _, Nat.zero_le _⟩ ?_
    refine j_neP (tgt := 19) hx hb dX9_struck_14 (by decide) (fun c14 => ?_) (fun c14 => ?_)
    · refine lv_aload_n hx hb dX9_struck_19 rfl (lv_at hl 0 rfl) ?_
      refine lv_iload_n hx hb dX9_struck_20 rfl (lv_at hl 1 rfl) ?_
      refine lv_iload_n hx hb dX9_struck_21 rfl (lv_at hl 2 rfl) ?_
      have ce_5 : At G s.heap (ad 0) (eO 9 [.int (J (V 0 0)), .ref (ad 1), .ref (ad 2), .ref (ad 3), .ref (ad 4), .ref (ad 5), .ref (ad 6), .ref (ad 7), .ref (ad 8), .ref (ad 9), .int (J (V 0 1)), .ref (ad 10), .ref (ad 11), .ref (ad 12), .ref (ad 13), .ref (ad 14), .ref (ad 15), .ref (ad 16), .ref (ad 17), .int (J fo), .int (J am), .ref (ad 18)]) := hM.1
      refine e_V (A := (fun x => (mS ad) x ∨ sz ≤ x)) (ci := 9) (b := ad 0) (As := [.int (J y), .int (J nd)]) (rest := []) hx hb hml hown hts hK hl.1 (c_X9_least l G ad V fo am ys y nd sz hV (by omega) (by omega) (by omega)) (cwV 2 hts gX9_struck_X9_least rfl rfl rfl (by decide +kernel) ⟨Nat.le_of_ble_eq_true rfl, Nat.le_of_ble_eq_true rfl⟩) ce_5 rfl (⟨by have z1 := hF0.1; omega, hM⟩) rfl rfl (Nat.le_of_ble_eq_true rfl) dX9_struck_22 ⟨Nat.le_of_ble_eq_true rfl, Nat.le_of_ble_eq_true rfl⟩ hL0 (fun x hx => hx) (fun H_1 lo_2 hp_3 hL_4 => ?_)
      show W p l e (headSpec wsX9_struck rmX9_struck).room s m ([.ref (ad 0), .int (J y), .int (J nd)] : List Value).toArray below meth c H_1 lo_2 (0 + 0) (0 + 0) (MQ below (QE (some (.int (J (if (0 ≤ y ∧ y < 10) ∧ 0 ≤ nd ∧ nd ≤ 100000000 then (if mLp V y nd = -4 then -2 else mLp V y nd) else -1))) : Option Value) (fun H H1 => Fr H H1 (mS ad) 0 ∧ MX G H1 ad (if ((0 ≤ y ∧ y < 10) ∧ 0 ≤ nd ∧ nd ≤ 100000000) ∧ mLp V y nd ≠ -4 then sSt V y nd else V))) ([.ref (ad 0), .int (J y), .int (J nd)] : List Value).toArray s 0 0 (fun x => (mS ad) x ∨ sz ≤ x)) (F0 m 25 ls [.int (J (mLp V y nd))])
      have hf_7 : Fr s.heap H_1 (mS ad) 0 := hp_3.1
      have hF_6 : Fr s.heap H_1 (mS ad) 0 := hF0.f hf_7 (fun x hx z => z)
      obtain ⟨yz, hM_8, hyz⟩ := hp_3.2
      have hlr := mLp_rng V y nd
      refine lv_istore_n (lv' := [(3, .int (J (mLp V y nd))), (0, .ref (ad 0)), (1, .int (J y)), (2, .int (J nd))]) hx hb dX9_struck_25 rfl hl (by decide) rfl (fun ls hl => ?_)
      refine lv_iload_n hx hb dX9_struck_26 rfl (lv_at hl 0 rfl) ?_
      refine j_ge0 (tgt := 33) hx hb (by omega) (by omega) dX9_struck_27 (by decide) (fun c27 => ?_) (fun c27 => ?_)
      · refine lv_aload_n hx hb dX9_struck_33 rfl (lv_at hl 1 rfl) ?_
        have ce_9 : At G H_1 (ad 0) (eO 9 [.int (J (V 0 0)), .ref (ad 1), .ref (ad 2), .ref (ad 3), .ref (ad 4), .ref (ad 5), .ref (ad 6), .ref (ad 7), .ref (ad 8), .ref (ad 9), .int (J (V 0 1)), .ref (ad 10), .ref (ad 11), .ref (ad 12), .ref (ad 13), .ref (ad 14), .ref (ad 15), .ref (ad 16), .ref (ad 17), .int (J fo), .int (J am), .ref (ad 18)]) := hM_8.1
        refine j_get (ci := 9) (v := .ref (ad 13)) hx hb hts inX9_ hown hK ce_9 rfl 14 (by decide) lk1 (fun _ h9 => h9) rfl dX9_struck_34 ?_
        refine lv_iload_n hx hb dX9_struck_37 rfl (lv_at hl 2 rfl) ?_
        refine j_const hx hb dX9_struck_38 ?_
        have ce_10 : At G H_1 (ad 13) (eZ G 10 (V 13)) := (hM_8.2.1 13 (by decide) (by decide))
        refine j_zast (A := (fun x => (mS ad) x ∨ sz ≤ x)) hx hb hK ce_10 (by omega) (by omega) (by decide) rfl hL_4 (Or.inl ⟨13, by decide, rfl⟩) dX9_struck_39 (fun H_11 lo_12 hc_13 hx_14 hL_15 => ?_)
        have hc_13 : At G H_11 (ad 13) (eZ G 10 (uf (V 13) y 1)) := hc_13
        have hM_17 : MW G H_11 ad (vu V 13 y 1) fo am yz := MW.upd (k := 13) hD hM_8 hx_14 (by decide) (by decide) hc_13 (fun c hc => vu_n _ _ _ hc)
        have hF_18 : Fr s.heap H_11 (mS ad) 0 := hF_6.x hx_14 (fun _ => ⟨13, by decide, rfl⟩)
        refine lv_aload_n hx hb dX9_struck_40 rfl (lv_at hl 1 rfl) ?_
        have ce_19 : At G H_11 (ad 0) (eO 9 [.int (J (V 0 0)), .ref (ad 1), .ref (ad 2), .ref (ad 3), .ref (ad 4), .ref (ad 5), .ref (ad 6), .ref (ad 7), .ref (ad 8), .ref (ad 9), .int (J (V 0 1)), .ref (ad 10), .ref (ad 11), .ref (ad 12), .ref (ad 13), .ref (ad 14), .ref (ad 15), .ref (ad 16), .ref (ad 17), .int (J fo), .int (J am), .ref (ad 18)]) := hM_17.1
        refine j_get (ci := 9) (v := .ref (ad 14)) hx hb hts inX9_ hown hK ce_19 rfl 15 (by decide) lk2 (fun _ h9 => h9) rfl dX9_struck_41 ?_
        refine lv_iload_n hx hb dX9_struck_44 rfl (lv_at hl 2 rfl) ?_
        refine lv_iload_n hx hb dX9_struck_45 rfl (lv_at hl 0 rfl) ?_
        have ce_20 : At G H_11 (ad 14) (eI G 10 (V 14)) := (hM_17.2.1 14 (by decide) (by decide))
        refine j_iast (A := (fun x => (mS ad) x ∨ sz ≤ x)) hx hb hK ce_20 (by omega) (by omega) (by decide) hL_15 (Or.inl ⟨14, by decide, rfl⟩) dX9_struck_46 (fun H_21 lo_22 hc_23 hx_24 hL_25 => ?_)
        have hc_23 : At G H_21 (ad 14) (eI G 10 (uf (V 14) y (mLp V y nd))) := hc_23
        have hM_27 : MW G H_21 ad (vu (vu V 13 y 1) 14 y (mLp V y nd)) fo am yz := MW.upd (k := 14) hD hM_17 hx_24 (by decide) (by decide) hc_23 (fun c hc => vu_n _ _ _ hc)
        have hF_28 : Fr s.heap H_21 (mS ad) 0 := hF_18.x hx_24 (fun _ => ⟨14, by decide, rfl⟩)
        refine lv_aload_n hx hb dX9_struck_47 rfl (lv_at hl 1 rfl) ?_
        have ce_29 : At G H_21 (ad 0) (eO 9 [.int (J (V 0 0)), .ref (ad 1), .ref (ad 2), .ref (ad 3), .ref (ad 4), .ref (ad 5), .ref (ad 6), .ref (ad 7), .ref (ad 8), .ref (ad 9), .int (J (V 0 1)), .ref (ad 10), .ref (ad 11), .ref (ad 12), .ref (ad 13), .ref (ad 14), .ref (ad 15), .ref (ad 16), .ref (ad 17), .int (J fo), .int (J am), .ref (ad 18)]) := hM_27.1
        refine j_get (ci := 9) (v := .ref (ad 15)) hx hb hts inX9_ hown hK ce_29 rfl 16 (by decide) lk3 (fun _ h9 => h9) rfl dX9_struck_48 ?_
        refine lv_iload_n hx hb dX9_struck_51 rfl (lv_at hl 2 rfl) ?_
        refine lv_iload_n hx hb dX9_struck_52 rfl (lv_at hl 3 rfl) ?_
        have ce_30 : At G H_21 (ad 15) (eI G 10 (V 15)) := (hM_27.2.1 15 (by decide) (by decide))
        refine j_iast (A := (fun x => (mS ad) x ∨ sz ≤ x)) hx hb hK ce_30 (by omega) (by omega) (by decide) hL_25 (Or.inl ⟨15, by decide, rfl⟩) dX9_struck_53 (fun H_31 lo_32 hc_33 hx_34 hL_35 => ?_)
        have hc_33 : At G H_31 (ad 15) (eI G 10 (uf (V 15) y nd)) := hc_33
        have hM_37 : MW G H_31 ad (vu (vu (vu V 13 y 1) 14 y (mLp V y nd)) 15 y nd) fo am yz := MW.upd (k := 15) hD hM_27 hx_34 (by decide) (by decide) hc_33 (fun c hc => vu_n _ _ _ hc)
        have hF_38 : Fr s.heap H_31 (mS ad) 0 := hF_28.x hx_34 (fun _ => ⟨15, by decide, rfl⟩)
        refine j_const hx hb dX9_struck_54 ?_
        refine lv_istore (lv' := [(4, .int (J 0)), (3, .int (J (mLp V y nd))), (0, .ref (ad 0)), (1, .int (J y)), (2, .int (J nd))]) hx hb dX9_struck_55 hl (by decide) rfl (fun ls hl => ?_)
        have lp57 : ∀ (n : Nat) (i : Int) (H57 : Heap) (lo57 : List Loc) (hL57 : ∀ z9 ∈ lo57, (fun x => (mS ad) x ∨ sz ≤ x) z9.base) (i0 : 0 ≤ i ∧ i ≤ V 0 0) (hFl : Fr s.heap H57 (mS ad) 0) (hMl : MW G H57 ad (stB V y nd (mLp V y nd) i) fo am yz) (hm : V 0 0 - i < (n : Int)) (ls : Array Slot) (hl : lv_has ls 5 [(4, .int (J i)), (3, .int (J (mLp V y nd))), (0, .ref (ad 0)), (1, .int (J y)), (2, .int (J nd))]), W p l e (headSpec wsX9_struck rmX9_struck).room s m ([.ref (ad 0), .int (J y), .int (J nd)] : List Value).toArray below meth c H57 lo57 0 0 (MQ below (QE (some (.int (J (if (0 ≤ y ∧ y < 10) ∧ 0 ≤ nd ∧ nd ≤ 100000000 then (if mLp V y nd = -4 then -2 else mLp V y nd) else -1))) : Option Value) (fun H H1 => Fr H H1 (mS ad) 0 ∧ MX G H1 ad (if ((0 ≤ y ∧ y < 10) ∧ 0 ≤ nd ∧ nd ≤ 100000000) ∧ mLp V y nd ≠ -4 then sSt V y nd else V))) ([.ref (ad 0), .int (J y), .int (J nd)] : List Value).toArray s 0 0 (fun x => (mS ad) x ∨ sz ≤ x)) (F0 m 57 ls []) := by
          intro n
          induction n with
          | zero =>
            intro i H57 lo57 hL57 i0 hFl hMl hm ls hl
            exact absurd hm (by omega)
          | succ n ih57 =>
            intro i H57 lo57 hL57 i0 hFl hMl hm ls hl
            have hb0 : (stB V y nd (mLp V y nd) i) 0 0 = V 0 0 := stB_0 i0.1
            refine lv_iload hx hb dX9_struck_57 (lv_at hl 0 rfl) ?_
            refine lv_aload_n hx hb dX9_struck_59 rfl (lv_at hl 2 rfl) ?_
            have ce_39 : At G H57 (ad 0) (eO 9 [.int (J (V 0 0)), .ref (ad 1), .ref (ad 2), .ref (ad 3), .ref (ad 4), .ref (ad 5), .ref (ad 6), .ref (ad 7), .ref (ad 8), .ref (ad 9), .int (J ((stB V y nd (mLp V y nd) i) 0 1)), .ref (ad 10), .ref (ad 11), .ref (ad 12), .ref (ad 13), .ref (ad 14), .ref (ad 15), .ref (ad 16), .ref (ad 17), .int (J fo), .int (J am), .ref (ad 18)]) := (by have q := hMl.1; unfold eM at q; (try rw [hb0] at q); exact q)
            refine j_get (ci := 9) (v := .int (J (V 0 0))) hx hb hts inX9_ hown hK ce_39 rfl 0 (by decide) lk4 (fun _ h9 => h9) rfl dX9_struck_60 ?_
            refine j_cge (tgt := 99) hx hb (by omega) (by omega) (by omega) (by omega) dX9_struck_63 (by decide) (fun c63 => ?_) (fun c63 => ?_)
            · refine lv_iload_n hx hb dX9_struck_99 rfl (lv_at hl 1 rfl) ?_
              exact r_iE hx hb hr hlk (Nat.le_of_ble_eq_true rfl) (Nat.le_of_ble_eq_true rfl) (congrArg (fun z => some (Value.int (J z))) (show (mLp V y nd : Int) = if (0 ≤ y ∧ y < 10) ∧ 0 ≤ nd ∧ nd ≤ 100000000 then (if mLp V y nd = -4 then -2 else mLp V y nd) else -1 from by rw [if_pos (by omega), if_neg (by omega)])) hL57 (⟨hFl, by rw [if_pos (by omega)]; exact ⟨_, _, _, by rw [show i = V 0 0 by omega] at hMl; exact hMl⟩⟩) dX9_struck_100
            · refine lv_aload_n hx hb dX9_struck_66 rfl (lv_at hl 2 rfl) ?_
              refine j_get (ci := 9) (v := .ref (ad 16)) hx hb hts inX9_ hown hK ce_39 rfl 17 (by decide) lk5 (fun _ h9 => h9) rfl dX9_struck_67 ?_
              refine j_bi hx hb dX9_struck_70 (by decide +kernel) ?_
              refine lv_iload hx hb dX9_struck_72 (lv_at hl 0 rfl) ?_
              refine j_mul hx hb dX9_struck_74 ?_
              refine lv_iload_n hx hb dX9_struck_75 rfl (lv_at hl 3 rfl) ?_
              refine j_add hx hb dX9_struck_76 ?_
              refine lv_aload_n hx hb dX9_struck_77 rfl (lv_at hl 2 rfl) ?_
              refine j_get (ci := 9) (v := .ref (ad 18)) hx hb hts inX9_ hown hK ce_39 rfl 21 (by decide) lk6 (fun _ h9 => h9) rfl dX9_struck_78 ?_
              refine lv_iload hx hb dX9_struck_81 (lv_at hl 0 rfl) ?_
              have ce_40 : At G H57 (ad 18) (eL G 40 yz) := hMl.2.2
              refine j_lald hx hb hK ce_40 (by omega) (by omega) (by decide) dX9_struck_83 ?_
              refine lv_iload_n hx hb dX9_struck_84 rfl (lv_at hl 1 rfl) ?_
              refine j_i2l hx hb (by omega) (by omega) dX9_struck_85 ?_
              have hyi := hyz i i0.1 (by omega)
              have hyr := mYr_rng hV (h := i) (y := y) i0.1 (by omega)
              have hmm := mulb (a := mYr V i y) (b := mLp V y nd) (A := 20000000000) (B := 3000) hyr.1 hyr.2 (by omega) (by omega)
              have hmy : yz i * mLp V y nd = mYr V i y * mLp V y nd := by rw [hyi]
              refine j_lmul hx hb dX9_struck_86 ?_
              refine j_ldc2 hx hb hown lk7 (z := 365000) rfl dX9_struck_87 ?_
              refine j_ldiv hx hb (by omega) (by omega) (by decide) (by decide) dX9_struck_90 ?_
              refine j_l2i hx hb dX9_struck_91 ?_
              have ce_41 : At G H57 (ad 16) (eI G 400 ((stB V y nd (mLp V y nd) i) 16)) := (hMl.2.1 16 (by decide) (by decide))
              refine j_iast (A := (fun x => (mS ad) x ∨ sz ≤ x)) hx hb hK ce_41 (by omega) (by omega) (by decide) hL57 (Or.inl ⟨16, by decide, rfl⟩) dX9_struck_92 (fun H_42 lo_43 hc_44 hx_45 hL_46 => ?_)
              have hc_44 : At G H_42 (ad 16) (eI G 400 (uf ((stB V y nd (mLp V y nd) i) 16) ((10 * i) + y) (((yz i) * (mLp V y nd)) / 365000))) := hc_44
              have hM_49 : MW G H_42 ad (vu (stB V y nd (mLp V y nd) i) 16 ((10 * i) + y) (((yz i) * (mLp V y nd)) / 365000)) fo am yz := MW.upd (k := 16) hD hMl hx_45 (by decide) (by decide) hc_44 (fun c hc => vu_n _ _ _ hc)
              have hF_50 : Fr s.heap H_42 (mS ad) 0 := hFl.x hx_45 (fun _ => ⟨16, by decide, rfl⟩)
              refine lv_iinc (v := J (i + 1)) (lv' := [(4, .int (J (i + 1))), (3, .int (J (mLp V y nd))), (0, .ref (ad 0)), (1, .int (J y)), (2, .int (J nd))]) hx hb dX9_struck_93 hl (k := 0) rfl (J_add _ _) (by decide) rfl (fun ls hl => ?_)
              refine lv_goto (tgt := 57) hx hb dX9_struck_96 (by decide) ?_
              exact ih57 (i + 1) H_42 lo_43 hL_46 (by omega) hF_50 (by rw [show (stB V y nd (mLp V y nd) (i + 1) : St) = vu (stB V y nd (mLp V y nd) i) 16 (10 * i + y) (mYr V i y * mLp V y nd / 365000) from lo_s _ _ i0.1, ← hyi]; exact hM_49) (by omega) _ (lv_sub hl [0, 1, 2, 3, 4] rfl)
        exact lp57 41 0 H_31 lo_32 hL_35 (by omega) hF_38 hM_37 (by omega) _ (lv_sub hl [0, 1, 2, 3, 4] rfl)
      · refine j_bi hx hb dX9_struck_30 (by decide +kernel) ?_
        exact r_iE hx hb hr hlk (Nat.le_of_ble_eq_true rfl) (Nat.le_of_ble_eq_true rfl) (congrArg (fun z => some (Value.int (J z))) (show ((-2) : Int) = if (0 ≤ y ∧ y < 10) ∧ 0 ≤ nd ∧ nd ≤ 100000000 then (if mLp V y nd = -4 then -2 else mLp V y nd) else -1 from by rw [if_pos (by omega), if_pos (by omega)])) hL_4 (⟨hF_6, by rw [if_neg (by omega)]; exact ⟨_, _, _, hM_8⟩⟩) dX9_struck_32
    · refine j_const hx hb dX9_struck_17 ?_
      exact r_iE hx hb hr hlk (Nat.le_of_ble_eq_true rfl) (Nat.le_of_ble_eq_true rfl) (congrArg (fun z => some (Value.int (J z))) (show ((-1) : Int) = if (0 ≤ y ∧ y < 10) ∧ 0 ≤ nd ∧ nd ≤ 100000000 then (if mLp V y nd = -4 then -2 else mLp V y nd) else -1 from by rw [if_neg (by omega)])) hL0 (⟨hF0, by rw [if_neg (by omega)]; exact ⟨_, _, _, hM⟩⟩) dX9_struck_18

abbrev rmX9_list : Room := { frames := 4, cells := 0, slots := 0, locals := 96 }
set_option maxHeartbeats 4000000 in
set_option maxRecDepth 100000 in
theorem c_X9_list (l : Launch) (G : GG) (ad : Nat → Nat) (V : St) (fo am : Int) (ys : Int → Int) (d : Int) (sz : Nat) (hV : Iv V) (hD : Dj ad) (g_d : -2147483648 ≤ d ∧ d < 2147483648) : ME l G yX9_list wsX9_list rmX9_list [.ref (ad 0), .int (J d)] (fun H => H.size = sz ∧ (MW G H ad V fo am ys)) (some (.int (J (if 0 ≤ d ∧ d < 3650 then (if 0 < V 0 1 ∧ d ≤ V 10 (V 0 1 - 1) then -2 else if V 0 1 = 10 then -3 else V 0 1) else -1))) : Option Value) (fun x => (mS ad) x ∨ sz ≤ x) (fun H H1 => Fr H H1 (mS ad) 0 ∧ MX G H1 ad (if (0 ≤ d ∧ d < 3650) ∧ ¬ (0 < V 0 1 ∧ d ≤ V 10 (V 0 1 - 1)) ∧ V 0 1 ≠ 10 then sLi V d else V)) 0 0 := by
  refine ME.of (cc := cX9_list) (maxL := 4) (ret := (some .int)) (by decide) rfl (Nat.le_of_ble_eq_true rfl) ?_
  intro p e s m below meth c hx hb hr hml hown hts hlk hin hK hP ls hl
  have hL0 : ∀ z9 ∈ ([] : List Loc), (fun x => (mS ad) x ∨ sz ≤ x) z9.base := fun z9 h => absurd h List.not_mem_nil
  have hown : s.vm.findClass RX9 = some m.cls := hown
  have hl : lv_has ls 4 [(0, .ref (ad 0)), (1, .int (J d))] := hl
  have inX9_ : ∀ w ∈ u_ws RX9 TX9 22, w ∈ wsX9_list := by decide +kernel
  have lk0 := hts (.fieldLink RX9 103 "RateBookModel" "lists" "I") (by decide +kernel)
  have lk1 := hts (.fieldLink RX9 37 "RateBookModel" "listDay" "[I") (by decide +kernel)
  have lk2 := hts (.fieldLink RX9 40 "RateBookModel" "above" "[I") (by decide +kernel)
  have lk3 := hts (.fieldLink RX9 43 "RateBookModel" "below" "[I") (by decide +kernel)
  obtain ⟨hsz, hP⟩ := hP
  have hF0 : Fr s.heap s.heap (mS ad) 0 := Fr.rf
  have hM : MW G s.heap ad V fo am ys := hP
  have hn := hV.n
  have hnl := hV.l
  refine lv_iload_n hx hb dX9_list_0 rfl (lv_at hl 1 rfl) ?_
  refine k_S (As := [.int (J d)]) (rest := []) (v := .int (J (pI (0 ≤ d ∧ d ≤ 3649)))) hx hb hml hown hts hK hl.1 (c_X9_isDay l G d (by omega)) (va_cwS 1 hts gX9_list_X9_isDay rfl rfl rfl (by decide +kernel) ⟨Nat.le_of_ble_eq_true rfl, Nat.le_of_ble_eq_true rfl⟩) trivial rfl rfl (Nat.le_of_ble_eq_true rfl) dX9_list_1 ⟨Nat.zero_le _, Nat.zero_le _⟩ ?_
  refine j_neP (tgt := 9) hx hb dX9_list_4 (by decide) (fun c4 => ?_) (fun c4 => ?_)
  · refine lv_aload_n hx hb dX9_list_9 rfl (lv_at hl 0 rfl) ?_
    have ce_1 : At G s.heap (ad 0) (eO 9 [.int (J (V 0 0)), .ref (ad 1), .ref (ad 2), .ref (ad 3), .ref (ad 4), .ref (ad 5), .ref (ad 6), .ref (ad 7), .ref (ad 8), .ref (ad 9), .int (J (V 0 1)), .ref (ad 10), .ref (ad 11), .ref (ad 12), .ref (ad 13), .ref (ad 14), .ref (ad 15), .ref (ad 16), .ref (ad 17), .int (J fo), .int (J am), .ref (ad 18)]) := hM.1
    refine j_get (ci := 9) (v := .int (J (V 0 1))) hx hb hts inX9_ hown hK ce_1 rfl 10 (by decide) lk0 (fun _ h9 => h9) rfl dX9_list_10 ?_
    refine j_le0 (tgt := 34) hx hb (by omega) (by omega) dX9_list_13 (by decide) (fun c13 => ?_) (fun c13 => ?_)
    · refine lv_aload_n hx hb dX9_list_34 rfl (lv_at hl 0 rfl) ?_
      refine j_get (ci := 9) (v := .int (J (V 0 1))) hx hb hts inX9_ hown hK ce_1 rfl 10 (by decide) lk0 (fun _ h9 => h9) rfl dX9_list_35 ?_
      refine j_bi hx hb dX9_list_38 (by decide +kernel) ?_
      refine j_cne (tgt := 46) hx hb (by omega) (by omega) (by decide) (by decide) dX9_list_40 (by decide) (fun c40 => ?_) (fun c40 => ?_)
      · refine j_const hx hb dX9_list_46 ?_
        refine lv_istore_n (lv' := [(2, .int (J 0)), (0, .ref (ad 0)), (1, .int (J d))]) hx hb dX9_list_47 rfl hl (by decide) rfl (fun ls hl => ?_)
        have lp48 : ∀ (n : Nat) (k : Int) (f1 : Int) (a1 : Int) (y1 : Int → Int) (H48 : Heap) (lo48 : List Loc) (hL48 : ∀ z9 ∈ lo48, (fun x => (mS ad) x ∨ sz ≤ x) z9.base) (k0 : 0 ≤ k ∧ k ≤ 3) (hFl : Fr s.heap H48 (mS ad) 0) (hMl : MW G H48 ad (liW V (6 * k)) f1 a1 y1) (hm : 3 - k < (n : Int)) (ls : Array Slot) (hl : lv_has ls 4 [(2, .int (J k)), (0, .ref (ad 0)), (1, .int (J d))]), W p l e (headSpec wsX9_list rmX9_list).room s m ([.ref (ad 0), .int (J d)] : List Value).toArray below meth c H48 lo48 0 0 (MQ below (QE (some (.int (J (if 0 ≤ d ∧ d < 3650 then (if 0 < V 0 1 ∧ d ≤ V 10 (V 0 1 - 1) then -2 else if V 0 1 = 10 then -3 else V 0 1) else -1))) : Option Value) (fun H H1 => Fr H H1 (mS ad) 0 ∧ MX G H1 ad (if (0 ≤ d ∧ d < 3650) ∧ ¬ (0 < V 0 1 ∧ d ≤ V 10 (V 0 1 - 1)) ∧ V 0 1 ≠ 10 then sLi V d else V))) ([.ref (ad 0), .int (J d)] : List Value).toArray s 0 0 (fun x => (mS ad) x ∨ sz ≤ x)) (F0 m 48 ls []) := by
          intro n
          induction n with
          | zero =>
            intro k f1 a1 y1 H48 lo48 hL48 k0 hFl hMl hm ls hl
            exact absurd hm (by omega)
          | succ n ih48 =>
            intro k f1 a1 y1 H48 lo48 hL48 k0 hFl hMl hm ls hl
            refine lv_iload_n hx hb dX9_list_48 rfl (lv_at hl 0 rfl) ?_
            refine j_const hx hb dX9_list_49 ?_
            refine j_cge (tgt := 125) hx hb (by omega) (by omega) (by decide) (by decide) dX9_list_50 (by decide) (fun c50 => ?_) (fun c50 => ?_)
            · refine lv_aload_n hx hb dX9_list_125 rfl (lv_at hl 1 rfl) ?_
              have ce_2 : At G H48 (ad 0) (eO 9 [.int (J (V 0 0)), .ref (ad 1), .ref (ad 2), .ref (ad 3), .ref (ad 4), .ref (ad 5), .ref (ad 6), .ref (ad 7), .ref (ad 8), .ref (ad 9), .int (J (V 0 1)), .ref (ad 10), .ref (ad 11), .ref (ad 12), .ref (ad 13), .ref (ad 14), .ref (ad 15), .ref (ad 16), .ref (ad 17), .int (J f1), .int (J a1), .ref (ad 18)]) := hMl.1
              refine j_get (ci := 9) (v := .ref (ad 10)) hx hb hts inX9_ hown hK ce_2 rfl 11 (by decide) lk1 (fun _ h9 => h9) rfl dX9_list_126 ?_
              refine lv_aload_n hx hb dX9_list_129 rfl (lv_at hl 1 rfl) ?_
              refine j_get (ci := 9) (v := .int (J (V 0 1))) hx hb hts inX9_ hown hK ce_2 rfl 10 (by decide) lk0 (fun _ h9 => h9) rfl dX9_list_130 ?_
              refine lv_iload_n hx hb dX9_list_133 rfl (lv_at hl 2 rfl) ?_
              have ce_3 : At G H48 (ad 10) (eI G 10 (V 10)) := (hMl.2.1 10 (by decide) (by decide))
              refine j_iast (A := (fun x => (mS ad) x ∨ sz ≤ x)) hx hb hK ce_3 (by omega) (by omega) (by decide) hL48 (Or.inl ⟨10, by decide, rfl⟩) dX9_list_134 (fun H_4 lo_5 hc_6 hx_7 hL_8 => ?_)
              have hc_6 : At G H_4 (ad 10) (eI G 10 (uf (V 10) (V 0 1) d)) := hc_6
              have hM_10 : MW G H_4 ad (vu (liW V (6 * k)) 10 (V 0 1) d) f1 a1 y1 := MW.upd (k := 10) hD hMl hx_7 (by decide) (by decide) hc_6 (fun c hc => vu_n _ _ _ hc)
              have hF_11 : Fr s.heap H_4 (mS ad) 0 := hFl.x hx_7 (fun _ => ⟨10, by decide, rfl⟩)
              refine lv_aload_n hx hb dX9_list_135 rfl (lv_at hl 1 rfl) ?_
              refine lv_dup hx hb dX9_list_136 rfl ?_
              have ce_12 : At G H_4 (ad 0) (eO 9 [.int (J (V 0 0)), .ref (ad 1), .ref (ad 2), .ref (ad 3), .ref (ad 4), .ref (ad 5), .ref (ad 6), .ref (ad 7), .ref (ad 8), .ref (ad 9), .int (J (V 0 1)), .ref (ad 10), .ref (ad 11), .ref (ad 12), .ref (ad 13), .ref (ad 14), .ref (ad 15), .ref (ad 16), .ref (ad 17), .int (J f1), .int (J a1), .ref (ad 18)]) := hM_10.1
              refine j_get (ci := 9) (v := .int (J (V 0 1))) hx hb hts inX9_ hown hK ce_12 rfl 10 (by decide) lk0 (fun _ h9 => h9) rfl dX9_list_137 ?_
              refine j_const hx hb dX9_list_140 ?_
              refine j_add hx hb dX9_list_141 ?_
              refine j_put (ci := 9) (A := (fun x => (mS ad) x ∨ sz ≤ x)) (ty := .int) hx hb hts inX9_ tyX9 tyX9_ok nmX9 hown hK ce_12 rfl 10 (by decide) lk0 (fun _ h9 => h9) rfl (by decide +kernel) rfl rfl (Nat.le_of_ble_eq_true rfl) hL_8 (Or.inl ⟨0, by decide, rfl⟩) dX9_list_142 (fun H_13 lo_14 hc_15 hx_16 hL_17 => ?_)
              have hc_15 : At G H_13 (ad 0) (eO 9 [.int (J (V 0 0)), .ref (ad 1), .ref (ad 2), .ref (ad 3), .ref (ad 4), .ref (ad 5), .ref (ad 6), .ref (ad 7), .ref (ad 8), .ref (ad 9), .int (J ((V 0 1) + 1)), .ref (ad 10), .ref (ad 11), .ref (ad 12), .ref (ad 13), .ref (ad 14), .ref (ad 15), .ref (ad 16), .ref (ad 17), .int (J f1), .int (J a1), .ref (ad 18)]) := hc_15
              have hM_18 : MW G H_13 ad (vu (vu (liW V (6 * k)) 10 (V 0 1) d) 0 1 ((V 0 1) + 1)) f1 a1 y1 := MW.upd0 hD hM_10 hx_16 hc_15 (fun c hc => vu_n _ _ _ hc)
              have hF_19 : Fr s.heap H_13 (mS ad) 0 := hF_11.x hx_16 (fun _ => ⟨0, by decide, rfl⟩)
              refine lv_aload_n hx hb dX9_list_145 rfl (lv_at hl 1 rfl) ?_
              have ce_20 : At G H_13 (ad 0) (eO 9 [.int (J (V 0 0)), .ref (ad 1), .ref (ad 2), .ref (ad 3), .ref (ad 4), .ref (ad 5), .ref (ad 6), .ref (ad 7), .ref (ad 8), .ref (ad 9), .int (J ((V 0 1) + 1)), .ref (ad 10), .ref (ad 11), .ref (ad 12), .ref (ad 13), .ref (ad 14), .ref (ad 15), .ref (ad 16), .ref (ad 17), .int (J f1), .int (J a1), .ref (ad 18)]) := hM_18.1
              refine j_get (ci := 9) (v := .int (J ((V 0 1) + 1))) hx hb hts inX9_ hown hK ce_20 rfl 10 (by decide) lk0 (fun _ h9 => h9) rfl dX9_list_146 ?_
              refine j_const hx hb dX9_list_149 ?_
              refine j_sub hx hb dX9_list_150 ?_
              exact r_iE hx hb hr hlk (Nat.le_of_ble_eq_true rfl) (Nat.le_of_ble_eq_true rfl) (congrArg (fun z => some (Value.int (J z))) (show (((V 0 1) + 1) - 1 : Int) = if 0 ≤ d ∧ d < 3650 then (if 0 < V 0 1 ∧ d ≤ V 10 (V 0 1 - 1) then -2 else if V 0 1 = 10 then -3 else V 0 1) else -1 from by rw [if_pos (by omega), if_neg (by omega), if_neg (by omega)]; omega)) hL_17 (⟨hF_19, by rw [if_pos (by omega)]; exact ⟨_, _, _, by rw [show 6 * k = 18 by omega] at hM_18; exact hM_18⟩⟩) dX9_list_151
            · refine j_const hx hb dX9_list_53 ?_
              refine lv_istore_n (lv' := [(3, .int (J 0)), (2, .int (J k)), (0, .ref (ad 0)), (1, .int (J d))]) hx hb dX9_list_54 rfl hl (by decide) rfl (fun ls hl => ?_)
              have lp55 : ∀ (n : Nat) (t : Int) (f2 : Int) (a2 : Int) (y2 : Int → Int) (H55 : Heap) (lo55 : List Loc) (hL55 : ∀ z9 ∈ lo55, (fun x => (mS ad) x ∨ sz ≤ x) z9.base) (t0 : 0 ≤ t ∧ t ≤ 6) (hFm : Fr s.heap H55 (mS ad) 0) (hMm : MW G H55 ad (liW V (6 * k + t)) f2 a2 y2) (hm : 6 - t < (n : Int)) (ls : Array Slot) (hl : lv_has ls 4 [(3, .int (J t)), (2, .int (J k)), (0, .ref (ad 0)), (1, .int (J d))]), W p l e (headSpec wsX9_list rmX9_list).room s m ([.ref (ad 0), .int (J d)] : List Value).toArray below meth c H55 lo55 0 0 (MQ below (QE (some (.int (J (if 0 ≤ d ∧ d < 3650 then (if 0 < V 0 1 ∧ d ≤ V 10 (V 0 1 - 1) then -2 else if V 0 1 = 10 then -3 else V 0 1) else -1))) : Option Value) (fun H H1 => Fr H H1 (mS ad) 0 ∧ MX G H1 ad (if (0 ≤ d ∧ d < 3650) ∧ ¬ (0 < V 0 1 ∧ d ≤ V 10 (V 0 1 - 1)) ∧ V 0 1 ≠ 10 then sLi V d else V))) ([.ref (ad 0), .int (J d)] : List Value).toArray s 0 0 (fun x => (mS ad) x ∨ sz ≤ x)) (F0 m 55 ls []) := by
                intro n
                induction n with
                | zero =>
                  intro t f2 a2 y2 H55 lo55 hL55 t0 hFm hMm hm ls hl
                  exact absurd hm (by omega)
                | succ n ih55 =>
                  intro t f2 a2 y2 H55 lo55 hL55 t0 hFm hMm hm ls hl
                  refine lv_iload_n hx hb dX9_list_55 rfl (lv_at hl 0 rfl) ?_
                  refine j_bi hx hb dX9_list_56 (by decide +kernel) ?_
                  refine j_cge (tgt := 119) hx hb (by omega) (by omega) (by decide) (by decide) dX9_list_58 (by decide) (fun c58 => ?_) (fun c58 => ?_)
                  · refine lv_iinc (v := J (k + 1)) (lv' := [(2, .int (J (k + 1))), (3, .int (J t)), (0, .ref (ad 0)), (1, .int (J d))]) hx hb dX9_list_119 hl (k := 1) rfl (J_add _ _) (by decide) rfl (fun ls hl => ?_)
                    refine lv_goto (tgt := 48) hx hb dX9_list_122 (by decide) ?_
                    exact ih48 (k + 1) f2 a2 y2 H55 lo55 hL55 (by omega) hFm (by rw [show 6 * (k + 1) = 6 * k + t by omega]; exact hMm) (by omega) _ (lv_sub hl [0, 2, 3] rfl)
                  · refine lv_aload_n hx hb dX9_list_61 rfl (lv_at hl 2 rfl) ?_
                    have ce_21 : At G H55 (ad 0) (eO 9 [.int (J (V 0 0)), .ref (ad 1), .ref (ad 2), .ref (ad 3), .ref (ad 4), .ref (ad 5), .ref (ad 6), .ref (ad 7), .ref (ad 8), .ref (ad 9), .int (J (V 0 1)), .ref (ad 10), .ref (ad 11), .ref (ad 12), .ref (ad 13), .ref (ad 14), .ref (ad 15), .ref (ad 16), .ref (ad 17), .int (J f2), .int (J a2), .ref (ad 18)]) := hMm.1
                    refine j_get (ci := 9) (v := .ref (ad 11)) hx hb hts inX9_ hown hK ce_21 rfl 12 (by decide) lk2 (fun _ h9 => h9) rfl dX9_list_62 ?_
                    refine j_bi hx hb dX9_list_65 (by decide +kernel) ?_
                    refine lv_aload_n hx hb dX9_list_67 rfl (lv_at hl 2 rfl) ?_
                    refine j_get (ci := 9) (v := .int (J (V 0 1))) hx hb hts inX9_ hown hK ce_21 rfl 10 (by decide) lk0 (fun _ h9 => h9) rfl dX9_list_68 ?_
                    refine j_mul hx hb dX9_list_71 ?_
                    refine j_bi hx hb dX9_list_72 (by decide +kernel) ?_
                    refine lv_iload_n hx hb dX9_list_74 rfl (lv_at hl 1 rfl) ?_
                    refine j_mul hx hb dX9_list_75 ?_
                    refine j_add hx hb dX9_list_76 ?_
                    refine lv_iload_n hx hb dX9_list_77 rfl (lv_at hl 0 rfl) ?_
                    refine j_add hx hb dX9_list_78 ?_
                    refine lv_aload_n hx hb dX9_list_79 rfl (lv_at hl 2 rfl) ?_
                    refine lv_iload_n hx hb dX9_list_80 rfl (lv_at hl 1 rfl) ?_
                    refine lv_iload_n hx hb dX9_list_81 rfl (lv_at hl 0 rfl) ?_
                    refine j_const hx hb dX9_list_82 ?_
                    refine e_V (A := (fun x => (mS ad) x ∨ sz ≤ x)) (ci := 9) (b := ad 0) (As := [.int (J k), .int (J t), .int (J 0)]) (rest := [.int (J (((18 * (V 0 1)) + (6 * k)) + t)), .ref (ad 11)]) hx hb hml hown hts hK hl.1 (c_X9_unit l G ad (liW V (6 * k + t)) f2 a2 y2 k t 0 sz (hV.li (6 * k + t)) hD (by omega) (by omega) (by omega)) (cwV 3 hts gX9_list_X9_unit rfl rfl rfl (by decide +kernel) ⟨Nat.le_of_ble_eq_true rfl, Nat.le_of_ble_eq_true rfl⟩) ce_21 rfl (⟨by have z1 := hFm.1; omega, hMm⟩) rfl rfl (Nat.le_of_ble_eq_true rfl) dX9_list_83 ⟨Nat.le_of_ble_eq_true rfl, Nat.le_of_ble_eq_true rfl⟩ hL55 (fun x hx => hx) (fun H_22 lo_23 hp_24 hL_25 => ?_)
                    show W p l e (headSpec wsX9_list rmX9_list).room s m ([.ref (ad 0), .int (J d)] : List Value).toArray below meth c H_22 lo_23 (0 + 0) (0 + 0) (MQ below (QE (some (.int (J (if 0 ≤ d ∧ d < 3650 then (if 0 < V 0 1 ∧ d ≤ V 10 (V 0 1 - 1) then -2 else if V 0 1 = 10 then -3 else V 0 1) else -1))) : Option Value) (fun H H1 => Fr H H1 (mS ad) 0 ∧ MX G H1 ad (if (0 ≤ d ∧ d < 3650) ∧ ¬ (0 < V 0 1 ∧ d ≤ V 10 (V 0 1 - 1)) ∧ V 0 1 ≠ 10 then sLi V d else V))) ([.ref (ad 0), .int (J d)] : List Value).toArray s 0 0 (fun x => (mS ad) x ∨ sz ≤ x)) (F0 m 86 ls [.int (J (if (0 ≤ k ∧ k ≤ 2) ∧ (0 ≤ t ∧ t ≤ 5) ∧ 0 ≤ 0 ∧ 0 ≤ 3 then (if 0 = 0 then mUa (liW V (6 * k + t)) k t (-1) else if 0 = 1 then mUb (liW V (6 * k + t)) k t (-1) else if 0 = 2 then fAm (liW V (6 * k + t)) k t (-1) else if fFo (liW V (6 * k + t)) k t (-1) < 0 then -4 else fFo (liW V (6 * k + t)) k t (-1)) else -1)), .int (J (((18 * (V 0 1)) + (6 * k)) + t)), .ref (ad 11)])
                    have hf_27 : Fr H55 H_22 (mS ad) 0 := hp_24.1
                    have hF_26 : Fr s.heap H_22 (mS ad) 0 := hFm.f hf_27 (fun x hx z => z)
                    obtain ⟨f_29, a_30, y_31, hM_28⟩ := hp_24.2
                    refine j_re (y := mUa V k t (-1)) (by rw [if_pos (by omega)]; exact if_pos rfl) ?_
                    have ce_32 : At G H_22 (ad 11) (eI G 180 ((liW V (6 * k + t)) 11)) := (hM_28.2.1 11 (by decide) (by decide))
                    refine j_iast (A := (fun x => (mS ad) x ∨ sz ≤ x)) hx hb hK ce_32 (by omega) (by omega) (by decide) hL_25 (Or.inl ⟨11, by decide, rfl⟩) dX9_list_86 (fun H_33 lo_34 hc_35 hx_36 hL_37 => ?_)
                    have hc_35 : At G H_33 (ad 11) (eI G 180 (uf ((liW V (6 * k + t)) 11) (((18 * (V 0 1)) + (6 * k)) + t) (mUa V k t (-1)))) := hc_35
                    have hM_38 : MW G H_33 ad (vu (liW V (6 * k + t)) 11 (((18 * (V 0 1)) + (6 * k)) + t) (mUa V k t (-1))) f_29 a_30 y_31 := MW.upd (k := 11) hD hM_28 hx_36 (by decide) (by decide) hc_35 (fun c hc => vu_n _ _ _ hc)
                    have hF_39 : Fr s.heap H_33 (mS ad) 0 := hF_26.x hx_36 (fun _ => ⟨11, by decide, rfl⟩)
                    refine lv_aload_n hx hb dX9_list_87 rfl (lv_at hl 2 rfl) ?_
                    have ce_40 : At G H_33 (ad 0) (eO 9 [.int (J (V 0 0)), .ref (ad 1), .ref (ad 2), .ref (ad 3), .ref (ad 4), .ref (ad 5), .ref (ad 6), .ref (ad 7), .ref (ad 8), .ref (ad 9), .int (J (V 0 1)), .ref (ad 10), .ref (ad 11), .ref (ad 12), .ref (ad 13), .ref (ad 14), .ref (ad 15), .ref (ad 16), .ref (ad 17), .int (J f_29), .int (J a_30), .ref (ad 18)]) := hM_38.1
                    refine j_get (ci := 9) (v := .ref (ad 12)) hx hb hts inX9_ hown hK ce_40 rfl 13 (by decide) lk3 (fun _ h9 => h9) rfl dX9_list_88 ?_
                    refine j_bi hx hb dX9_list_91 (by decide +kernel) ?_
                    refine lv_aload_n hx hb dX9_list_93 rfl (lv_at hl 2 rfl) ?_
                    refine j_get (ci := 9) (v := .int (J (V 0 1))) hx hb hts inX9_ hown hK ce_40 rfl 10 (by decide) lk0 (fun _ h9 => h9) rfl dX9_list_94 ?_
                    refine j_mul hx hb dX9_list_97 ?_
                    refine j_bi hx hb dX9_list_98 (by decide +kernel) ?_
                    refine lv_iload_n hx hb dX9_list_100 rfl (lv_at hl 1 rfl) ?_
                    refine j_mul hx hb dX9_list_101 ?_
                    refine j_add hx hb dX9_list_102 ?_
                    refine lv_iload_n hx hb dX9_list_103 rfl (lv_at hl 0 rfl) ?_
                    refine j_add hx hb dX9_list_104 ?_
                    refine lv_aload_n hx hb dX9_list_105 rfl (lv_at hl 2 rfl) ?_
                    refine lv_iload_n hx hb dX9_list_106 rfl (lv_at hl 1 rfl) ?_
                    refine lv_iload_n hx hb dX9_list_107 rfl (lv_at hl 0 rfl) ?_
                    refine j_const hx hb dX9_list_108 ?_
                    refine e_V (A := (fun x => (mS ad) x ∨ sz ≤ x)) (ci := 9) (b := ad 0) (As := [.int (J k), .int (J t), .int (J 1)]) (rest := [.int (J (((18 * (V 0 1)) + (6 * k)) + t)), .ref (ad 12)]) hx hb hml hown hts hK hl.1 (c_X9_unit l G ad (vu (liW V (6 * k + t)) 11 (((18 * (V 0 1)) + (6 * k)) + t) (mUa V k t (-1))) f_29 a_30 y_31 k t 1 sz ((hV.li (6 * k + t)).v11 _ _ (show 18 * V 0 1 ≤ 18 * V 0 1 + 6 * k + t by omega)) hD (by omega) (by omega) (by omega)) (cwV 3 hts gX9_list_X9_unit rfl rfl rfl (by decide +kernel) ⟨Nat.le_of_ble_eq_true rfl, Nat.le_of_ble_eq_true rfl⟩) ce_40 rfl (⟨by have z1 := hF_39.1; omega, hM_38⟩) rfl rfl (Nat.le_of_ble_eq_true rfl) dX9_list_109 ⟨Nat.le_of_ble_eq_true rfl, Nat.le_of_ble_eq_true rfl⟩ hL_37 (fun x hx => hx) (fun H_41 lo_42 hp_43 hL_44 => ?_)
                    show W p l e (headSpec wsX9_list rmX9_list).room s m ([.ref (ad 0), .int (J d)] : List Value).toArray below meth c H_41 lo_42 (0 + 0) (0 + 0) (MQ below (QE (some (.int (J (if 0 ≤ d ∧ d < 3650 then (if 0 < V 0 1 ∧ d ≤ V 10 (V 0 1 - 1) then -2 else if V 0 1 = 10 then -3 else V 0 1) else -1))) : Option Value) (fun H H1 => Fr H H1 (mS ad) 0 ∧ MX G H1 ad (if (0 ≤ d ∧ d < 3650) ∧ ¬ (0 < V 0 1 ∧ d ≤ V 10 (V 0 1 - 1)) ∧ V 0 1 ≠ 10 then sLi V d else V))) ([.ref (ad 0), .int (J d)] : List Value).toArray s 0 0 (fun x => (mS ad) x ∨ sz ≤ x)) (F0 m 112 ls [.int (J (if (0 ≤ k ∧ k ≤ 2) ∧ (0 ≤ t ∧ t ≤ 5) ∧ 0 ≤ 1 ∧ 1 ≤ 3 then (if 1 = 0 then mUa (vu (liW V (6 * k + t)) 11 (((18 * (V 0 1)) + (6 * k)) + t) (mUa V k t (-1))) k t (-1) else if 1 = 1 then mUb (vu (liW V (6 * k + t)) 11 (((18 * (V 0 1)) + (6 * k)) + t) (mUa V k t (-1))) k t (-1) else if 1 = 2 then fAm (vu (liW V (6 * k + t)) 11 (((18 * (V 0 1)) + (6 * k)) + t) (mUa V k t (-1))) k t (-1) else if fFo (vu (liW V (6 * k + t)) 11 (((18 * (V 0 1)) + (6 * k)) + t) (mUa V k t (-1))) k t (-1) < 0 then -4 else fFo (vu (liW V (6 * k + t)) 11 (((18 * (V 0 1)) + (6 * k)) + t) (mUa V k t (-1))) k t (-1)) else -1)), .int (J (((18 * (V 0 1)) + (6 * k)) + t)), .ref (ad 12)])
                    have hf_46 : Fr H_33 H_41 (mS ad) 0 := hp_43.1
                    have hF_45 : Fr s.heap H_41 (mS ad) 0 := hF_39.f hf_46 (fun x hx z => z)
                    obtain ⟨f_48, a_49, y_50, hM_47⟩ := hp_43.2
                    refine j_re (y := mUb V k t (-1)) (by rw [if_pos (by omega)]; exact (if_neg (by omega)).trans (if_pos rfl)) ?_
                    have ce_51 : At G H_41 (ad 12) (eI G 180 ((liW V (6 * k + t)) 12)) := (hM_47.2.1 12 (by decide) (by decide))
                    refine j_iast (A := (fun x => (mS ad) x ∨ sz ≤ x)) hx hb hK ce_51 (by omega) (by omega) (by decide) hL_44 (Or.inl ⟨12, by decide, rfl⟩) dX9_list_112 (fun H_52 lo_53 hc_54 hx_55 hL_56 => ?_)
                    have hc_54 : At G H_52 (ad 12) (eI G 180 (uf ((liW V (6 * k + t)) 12) (((18 * (V 0 1)) + (6 * k)) + t) (mUb V k t (-1)))) := hc_54
                    have hM_57 : MW G H_52 ad (vu (vu (liW V (6 * k + t)) 11 (((18 * (V 0 1)) + (6 * k)) + t) (mUa V k t (-1))) 12 (((18 * (V 0 1)) + (6 * k)) + t) (mUb V k t (-1))) f_48 a_49 y_50 := MW.upd (k := 12) hD hM_47 hx_55 (by decide) (by decide) hc_54 (fun c hc => vu_n _ _ _ hc)
                    have hF_58 : Fr s.heap H_52 (mS ad) 0 := hF_45.x hx_55 (fun _ => ⟨12, by decide, rfl⟩)
                    refine lv_iinc (v := J (t + 1)) (lv' := [(3, .int (J (t + 1))), (2, .int (J k)), (0, .ref (ad 0)), (1, .int (J d))]) hx hb dX9_list_113 hl (k := 0) rfl (J_add _ _) (by decide) rfl (fun ls hl => ?_)
                    refine lv_goto (tgt := 55) hx hb dX9_list_116 (by decide) ?_
                    exact ih55 (t + 1) f_48 a_49 y_50 H_52 lo_53 hL_56 (by omega) hF_58 (by rw [show 6 * k + (t + 1) = 6 * k + t + 1 by omega, ← liW_s hV (by omega) (by omega)]; exact hM_57) (by omega) _ (lv_sub hl [0, 1, 2, 3] rfl)
              exact lp55 7 0 f1 a1 y1 H48 lo48 hL48 (by omega) hFl (by rw [show 6 * k + 0 = 6 * k by omega]; exact hMl) (by omega) _ (lv_sub hl [0, 1, 2, 3] rfl)
        exact lp48 4 0 fo am ys s.heap ([]) hL0 (by omega) hF0 (by rw [show (6 * 0 : Int) = 0 from rfl, liW_0]; exact hM) (by omega) _ (lv_sub hl [0, 1, 2] rfl)
      · refine j_bi hx hb dX9_list_43 (by decide +kernel) ?_
        exact r_iE hx hb hr hlk (Nat.le_of_ble_eq_true rfl) (Nat.le_of_ble_eq_true rfl) (congrArg (fun z => some (Value.int (J z))) (show ((-3) : Int) = if 0 ≤ d ∧ d < 3650 then (if 0 < V 0 1 ∧ d ≤ V 10 (V 0 1 - 1) then -2 else if V 0 1 = 10 then -3 else V 0 1) else -1 from by rw [if_pos (by omega), if_neg (by omega), if_pos (by omega)])) hL0 (⟨hF0, by rw [if_neg (by omega)]; exact ⟨_, _, _, hM⟩⟩) dX9_list_45
    · refine lv_aload_n hx hb dX9_list_16 rfl (lv_at hl 0 rfl) ?_
      refine j_get (ci := 9) (v := .ref (ad 10)) hx hb hts inX9_ hown hK ce_1 rfl 11 (by decide) lk1 (fun _ h9 => h9) rfl dX9_list_17 ?_
      refine lv_aload_n hx hb dX9_list_20 rfl (lv_at hl 0 rfl) ?_
      refine j_get (ci := 9) (v := .int (J (V 0 1))) hx hb hts inX9_ hown hK ce_1 rfl 10 (by decide) lk0 (fun _ h9 => h9) rfl dX9_list_21 ?_
      refine j_const hx hb dX9_list_24 ?_
      refine j_sub hx hb dX9_list_25 ?_
      have ce_59 : At G s.heap (ad 10) (eI G 10 (V 10)) := (hM.2.1 10 (by decide) (by decide))
      refine j_iald hx hb hK ce_59 (by omega) (by omega) (by decide) dX9_list_26 ?_
      have hr_60 := hV.d (i := (V 0 1) - 1) (by omega) (by omega)
      refine lv_iload_n hx hb dX9_list_27 rfl (lv_at hl 1 rfl) ?_
      refine j_clt (tgt := 34) hx hb (by omega) (by omega) (by omega) (by omega) dX9_list_28 (by decide) (fun c28 => ?_) (fun c28 => ?_)
      · refine lv_aload_n hx hb dX9_list_34 rfl (lv_at hl 0 rfl) ?_
        refine j_get (ci := 9) (v := .int (J (V 0 1))) hx hb hts inX9_ hown hK ce_1 rfl 10 (by decide) lk0 (fun _ h9 => h9) rfl dX9_list_35 ?_
        refine j_bi hx hb dX9_list_38 (by decide +kernel) ?_
        refine j_cne (tgt := 46) hx hb (by omega) (by omega) (by decide) (by decide) dX9_list_40 (by decide) (fun c40 => ?_) (fun c40 => ?_)
        · refine j_const hx hb dX9_list_46 ?_
          refine lv_istore_n (lv' := [(2, .int (J 0)), (0, .ref (ad 0)), (1, .int (J d))]) hx hb dX9_list_47 rfl hl (by decide) rfl (fun ls hl => ?_)
          have lp48 : ∀ (n : Nat) (k : Int) (f1 : Int) (a1 : Int) (y1 : Int → Int) (H48 : Heap) (lo48 : List Loc) (hL48 : ∀ z9 ∈ lo48, (fun x => (mS ad) x ∨ sz ≤ x) z9.base) (k0 : 0 ≤ k ∧ k ≤ 3) (hFl : Fr s.heap H48 (mS ad) 0) (hMl : MW G H48 ad (liW V (6 * k)) f1 a1 y1) (hm : 3 - k < (n : Int)) (ls : Array Slot) (hl : lv_has ls 4 [(2, .int (J k)), (0, .ref (ad 0)), (1, .int (J d))]), W p l e (headSpec wsX9_list rmX9_list).room s m ([.ref (ad 0), .int (J d)] : List Value).toArray below meth c H48 lo48 0 0 (MQ below (QE (some (.int (J (if 0 ≤ d ∧ d < 3650 then (if 0 < V 0 1 ∧ d ≤ V 10 (V 0 1 - 1) then -2 else if V 0 1 = 10 then -3 else V 0 1) else -1))) : Option Value) (fun H H1 => Fr H H1 (mS ad) 0 ∧ MX G H1 ad (if (0 ≤ d ∧ d < 3650) ∧ ¬ (0 < V 0 1 ∧ d ≤ V 10 (V 0 1 - 1)) ∧ V 0 1 ≠ 10 then sLi V d else V))) ([.ref (ad 0), .int (J d)] : List Value).toArray s 0 0 (fun x => (mS ad) x ∨ sz ≤ x)) (F0 m 48 ls []) := by
            intro n
            induction n with
            | zero =>
              intro k f1 a1 y1 H48 lo48 hL48 k0 hFl hMl hm ls hl
              exact absurd hm (by omega)
            | succ n ih48 =>
              intro k f1 a1 y1 H48 lo48 hL48 k0 hFl hMl hm ls hl
              refine lv_iload_n hx hb dX9_list_48 rfl (lv_at hl 0 rfl) ?_
              refine j_const hx hb dX9_list_49 ?_
              refine j_cge (tgt := 125) hx hb (by omega) (by omega) (by decide) (by decide) dX9_list_50 (by decide) (fun c50 => ?_) (fun c50 => ?_)
              · refine lv_aload_n hx hb dX9_list_125 rfl (lv_at hl 1 rfl) ?_
                have ce_61 : At G H48 (ad 0) (eO 9 [.int (J (V 0 0)), .ref (ad 1), .ref (ad 2), .ref (ad 3), .ref (ad 4), .ref (ad 5), .ref (ad 6), .ref (ad 7), .ref (ad 8), .ref (ad 9), .int (J (V 0 1)), .ref (ad 10), .ref (ad 11), .ref (ad 12), .ref (ad 13), .ref (ad 14), .ref (ad 15), .ref (ad 16), .ref (ad 17), .int (J f1), .int (J a1), .ref (ad 18)]) := hMl.1
                refine j_get (ci := 9) (v := .ref (ad 10)) hx hb hts inX9_ hown hK ce_61 rfl 11 (by decide) lk1 (fun _ h9 => h9) rfl dX9_list_126 ?_
                refine lv_aload_n hx hb dX9_list_129 rfl (lv_at hl 1 rfl) ?_
                refine j_get (ci := 9) (v := .int (J (V 0 1))) hx hb hts inX9_ hown hK ce_61 rfl 10 (by decide) lk0 (fun _ h9 => h9) rfl dX9_list_130 ?_
                refine lv_iload_n hx hb dX9_list_133 rfl (lv_at hl 2 rfl) ?_
                have ce_62 : At G H48 (ad 10) (eI G 10 (V 10)) := (hMl.2.1 10 (by decide) (by decide))
                refine j_iast (A := (fun x => (mS ad) x ∨ sz ≤ x)) hx hb hK ce_62 (by omega) (by omega) (by decide) hL48 (Or.inl ⟨10, by decide, rfl⟩) dX9_list_134 (fun H_63 lo_64 hc_65 hx_66 hL_67 => ?_)
                have hc_65 : At G H_63 (ad 10) (eI G 10 (uf (V 10) (V 0 1) d)) := hc_65
                have hM_69 : MW G H_63 ad (vu (liW V (6 * k)) 10 (V 0 1) d) f1 a1 y1 := MW.upd (k := 10) hD hMl hx_66 (by decide) (by decide) hc_65 (fun c hc => vu_n _ _ _ hc)
                have hF_70 : Fr s.heap H_63 (mS ad) 0 := hFl.x hx_66 (fun _ => ⟨10, by decide, rfl⟩)
                refine lv_aload_n hx hb dX9_list_135 rfl (lv_at hl 1 rfl) ?_
                refine lv_dup hx hb dX9_list_136 rfl ?_
                have ce_71 : At G H_63 (ad 0) (eO 9 [.int (J (V 0 0)), .ref (ad 1), .ref (ad 2), .ref (ad 3), .ref (ad 4), .ref (ad 5), .ref (ad 6), .ref (ad 7), .ref (ad 8), .ref (ad 9), .int (J (V 0 1)), .ref (ad 10), .ref (ad 11), .ref (ad 12), .ref (ad 13), .ref (ad 14), .ref (ad 15), .ref (ad 16), .ref (ad 17), .int (J f1), .int (J a1), .ref (ad 18)]) := hM_69.1
                refine j_get (ci := 9) (v := .int (J (V 0 1))) hx hb hts inX9_ hown hK ce_71 rfl 10 (by decide) lk0 (fun _ h9 => h9) rfl dX9_list_137 ?_
                refine j_const hx hb dX9_list_140 ?_
                refine j_add hx hb dX9_list_141 ?_
                refine j_put (ci := 9) (A := (fun x => (mS ad) x ∨ sz ≤ x)) (ty := .int) hx hb hts inX9_ tyX9 tyX9_ok nmX9 hown hK ce_71 rfl 10 (by decide) lk0 (fun _ h9 => h9) rfl (by decide +kernel) rfl rfl (Nat.le_of_ble_eq_true rfl) hL_67 (Or.inl ⟨0, by decide, rfl⟩) dX9_list_142 (fun H_72 lo_73 hc_74 hx_75 hL_76 => ?_)
                have hc_74 : At G H_72 (ad 0) (eO 9 [.int (J (V 0 0)), .ref (ad 1), .ref (ad 2), .ref (ad 3), .ref (ad 4), .ref (ad 5), .ref (ad 6), .ref (ad 7), .ref (ad 8), .ref (ad 9), .int (J ((V 0 1) + 1)), .ref (ad 10), .ref (ad 11), .ref (ad 12), .ref (ad 13), .ref (ad 14), .ref (ad 15), .ref (ad 16), .ref (ad 17), .int (J f1), .int (J a1), .ref (ad 18)]) := hc_74
                have hM_77 : MW G H_72 ad (vu (vu (liW V (6 * k)) 10 (V 0 1) d) 0 1 ((V 0 1) + 1)) f1 a1 y1 := MW.upd0 hD hM_69 hx_75 hc_74 (fun c hc => vu_n _ _ _ hc)
                have hF_78 : Fr s.heap H_72 (mS ad) 0 := hF_70.x hx_75 (fun _ => ⟨0, by decide, rfl⟩)
                refine lv_aload_n hx hb dX9_list_145 rfl (lv_at hl 1 rfl) ?_
                have ce_79 : At G H_72 (ad 0) (eO 9 [.int (J (V 0 0)), .ref (ad 1), .ref (ad 2), .ref (ad 3), .ref (ad 4), .ref (ad 5), .ref (ad 6), .ref (ad 7), .ref (ad 8), .ref (ad 9), .int (J ((V 0 1) + 1)), .ref (ad 10), .ref (ad 11), .ref (ad 12), .ref (ad 13), .ref (ad 14), .ref (ad 15), .ref (ad 16), .ref (ad 17), .int (J f1), .int (J a1), .ref (ad 18)]) := hM_77.1
                refine j_get (ci := 9) (v := .int (J ((V 0 1) + 1))) hx hb hts inX9_ hown hK ce_79 rfl 10 (by decide) lk0 (fun _ h9 => h9) rfl dX9_list_146 ?_
                refine j_const hx hb dX9_list_149 ?_
                refine j_sub hx hb dX9_list_150 ?_
                exact r_iE hx hb hr hlk (Nat.le_of_ble_eq_true rfl) (Nat.le_of_ble_eq_true rfl) (congrArg (fun z => some (Value.int (J z))) (show (((V 0 1) + 1) - 1 : Int) = if 0 ≤ d ∧ d < 3650 then (if 0 < V 0 1 ∧ d ≤ V 10 (V 0 1 - 1) then -2 else if V 0 1 = 10 then -3 else V 0 1) else -1 from by rw [if_pos (by omega), if_neg (by omega), if_neg (by omega)]; omega)) hL_76 (⟨hF_78, by rw [if_pos (by omega)]; exact ⟨_, _, _, by rw [show 6 * k = 18 by omega] at hM_77; exact hM_77⟩⟩) dX9_list_151
              · refine j_const hx hb dX9_list_53 ?_
                refine lv_istore_n (lv' := [(3, .int (J 0)), (2, .int (J k)), (0, .ref (ad 0)), (1, .int (J d))]) hx hb dX9_list_54 rfl hl (by decide) rfl (fun ls hl => ?_)
                have lp55 : ∀ (n : Nat) (t : Int) (f2 : Int) (a2 : Int) (y2 : Int → Int) (H55 : Heap) (lo55 : List Loc) (hL55 : ∀ z9 ∈ lo55, (fun x => (mS ad) x ∨ sz ≤ x) z9.base) (t0 : 0 ≤ t ∧ t ≤ 6) (hFm : Fr s.heap H55 (mS ad) 0) (hMm : MW G H55 ad (liW V (6 * k + t)) f2 a2 y2) (hm : 6 - t < (n : Int)) (ls : Array Slot) (hl : lv_has ls 4 [(3, .int (J t)), (2, .int (J k)), (0, .ref (ad 0)), (1, .int (J d))]), W p l e (headSpec wsX9_list rmX9_list).room s m ([.ref (ad 0), .int (J d)] : List Value).toArray below meth c H55 lo55 0 0 (MQ below (QE (some (.int (J (if 0 ≤ d ∧ d < 3650 then (if 0 < V 0 1 ∧ d ≤ V 10 (V 0 1 - 1) then -2 else if V 0 1 = 10 then -3 else V 0 1) else -1))) : Option Value) (fun H H1 => Fr H H1 (mS ad) 0 ∧ MX G H1 ad (if (0 ≤ d ∧ d < 3650) ∧ ¬ (0 < V 0 1 ∧ d ≤ V 10 (V 0 1 - 1)) ∧ V 0 1 ≠ 10 then sLi V d else V))) ([.ref (ad 0), .int (J d)] : List Value).toArray s 0 0 (fun x => (mS ad) x ∨ sz ≤ x)) (F0 m 55 ls []) := by
                  intro n
                  induction n with
                  | zero =>
                    intro t f2 a2 y2 H55 lo55 hL55 t0 hFm hMm hm ls hl
                    exact absurd hm (by omega)
                  | succ n ih55 =>
                    intro t f2 a2 y2 H55 lo55 hL55 t0 hFm hMm hm ls hl
                    refine lv_iload_n hx hb dX9_list_55 rfl (lv_at hl 0 rfl) ?_
                    refine j_bi hx hb dX9_list_56 (by decide +kernel) ?_
                    refine j_cge (tgt := 119) hx hb (by omega) (by omega) (by decide) (by decide) dX9_list_58 (by decide) (fun c58 => ?_) (fun c58 => ?_)
                    · refine lv_iinc (v := J (k + 1)) (lv' := [(2, .int (J (k + 1))), (3, .int (J t)), (0, .ref (ad 0)), (1, .int (J d))]) hx hb dX9_list_119 hl (k := 1) rfl (J_add _ _) (by decide) rfl (fun ls hl => ?_)
                      refine lv_goto (tgt := 48) hx hb dX9_list_122 (by decide) ?_
                      exact ih48 (k + 1) f2 a2 y2 H55 lo55 hL55 (by omega) hFm (by rw [show 6 * (k + 1) = 6 * k + t by omega]; exact hMm) (by omega) _ (lv_sub hl [0, 2, 3] rfl)
                    · refine lv_aload_n hx hb dX9_list_61 rfl (lv_at hl 2 rfl) ?_
                      have ce_80 : At G H55 (ad 0) (eO 9 [.int (J (V 0 0)), .ref (ad 1), .ref (ad 2), .ref (ad 3), .ref (ad 4), .ref (ad 5), .ref (ad 6), .ref (ad 7), .ref (ad 8), .ref (ad 9), .int (J (V 0 1)), .ref (ad 10), .ref (ad 11), .ref (ad 12), .ref (ad 13), .ref (ad 14), .ref (ad 15), .ref (ad 16), .ref (ad 17), .int (J f2), .int (J a2), .ref (ad 18)]) := hMm.1
                      refine j_get (ci := 9) (v := .ref (ad 11)) hx hb hts inX9_ hown hK ce_80 rfl 12 (by decide) lk2 (fun _ h9 => h9) rfl dX9_list_62 ?_
                      refine j_bi hx hb dX9_list_65 (by decide +kernel) ?_
                      refine lv_aload_n hx hb dX9_list_67 rfl (lv_at hl 2 rfl) ?_
                      refine j_get (ci := 9) (v := .int (J (V 0 1))) hx hb hts inX9_ hown hK ce_80 rfl 10 (by decide) lk0 (fun _ h9 => h9) rfl dX9_list_68 ?_
                      refine j_mul hx hb dX9_list_71 ?_
                      refine j_bi hx hb dX9_list_72 (by decide +kernel) ?_
                      refine lv_iload_n hx hb dX9_list_74 rfl (lv_at hl 1 rfl) ?_
                      refine j_mul hx hb dX9_list_75 ?_
                      refine j_add hx hb dX9_list_76 ?_
                      refine lv_iload_n hx hb dX9_list_77 rfl (lv_at hl 0 rfl) ?_
                      refine j_add hx hb dX9_list_78 ?_
                      refine lv_aload_n hx hb dX9_list_79 rfl (lv_at hl 2 rfl) ?_
                      refine lv_iload_n hx hb dX9_list_80 rfl (lv_at hl 1 rfl) ?_
                      refine lv_iload_n hx hb dX9_list_81 rfl (lv_at hl 0 rfl) ?_
                      refine j_const hx hb dX9_list_82 ?_
                      refine e_V (A := (fun x => (mS ad) x ∨ sz ≤ x)) (ci := 9) (b := ad 0) (As := [.int (J k), .int (J t), .int (J 0)]) (rest := [.int (J (((18 * (V 0 1)) + (6 * k)) + t)), .ref (ad 11)]) hx hb hml hown hts hK hl.1 (c_X9_unit l G ad (liW V (6 * k + t)) f2 a2 y2 k t 0 sz (hV.li (6 * k + t)) hD (by omega) (by omega) (by omega)) (cwV 3 hts gX9_list_X9_unit rfl rfl rfl (by decide +kernel) ⟨Nat.le_of_ble_eq_true rfl, Nat.le_of_ble_eq_true rfl⟩) ce_80 rfl (⟨by have z1 := hFm.1; omega, hMm⟩) rfl rfl (Nat.le_of_ble_eq_true rfl) dX9_list_83 ⟨Nat.le_of_ble_eq_true rfl, Nat.le_of_ble_eq_true rfl⟩ hL55 (fun x hx => hx) (fun H_81 lo_82 hp_83 hL_84 => ?_)
                      show W p l e (headSpec wsX9_list rmX9_list).room s m ([.ref (ad 0), .int (J d)] : List Value).toArray below meth c H_81 lo_82 (0 + 0) (0 + 0) (MQ below (QE (some (.int (J (if 0 ≤ d ∧ d < 3650 then (if 0 < V 0 1 ∧ d ≤ V 10 (V 0 1 - 1) then -2 else if V 0 1 = 10 then -3 else V 0 1) else -1))) : Option Value) (fun H H1 => Fr H H1 (mS ad) 0 ∧ MX G H1 ad (if (0 ≤ d ∧ d < 3650) ∧ ¬ (0 < V 0 1 ∧ d ≤ V 10 (V 0 1 - 1)) ∧ V 0 1 ≠ 10 then sLi V d else V))) ([.ref (ad 0), .int (J d)] : List Value).toArray s 0 0 (fun x => (mS ad) x ∨ sz ≤ x)) (F0 m 86 ls [.int (J (if (0 ≤ k ∧ k ≤ 2) ∧ (0 ≤ t ∧ t ≤ 5) ∧ 0 ≤ 0 ∧ 0 ≤ 3 then (if 0 = 0 then mUa (liW V (6 * k + t)) k t (-1) else if 0 = 1 then mUb (liW V (6 * k + t)) k t (-1) else if 0 = 2 then fAm (liW V (6 * k + t)) k t (-1) else if fFo (liW V (6 * k + t)) k t (-1) < 0 then -4 else fFo (liW V (6 * k + t)) k t (-1)) else -1)), .int (J (((18 * (V 0 1)) + (6 * k)) + t)), .ref (ad 11)])
                      have hf_86 : Fr H55 H_81 (mS ad) 0 := hp_83.1
                      have hF_85 : Fr s.heap H_81 (mS ad) 0 := hFm.f hf_86 (fun x hx z => z)
                      obtain ⟨f_88, a_89, y_90, hM_87⟩ := hp_83.2
                      refine j_re (y := mUa V k t (-1)) (by rw [if_pos (by omega)]; exact if_pos rfl) ?_
                      have ce_91 : At G H_81 (ad 11) (eI G 180 ((liW V (6 * k + t)) 11)) := (hM_87.2.1 11 (by decide) (by decide))
                      refine j_iast (A := (fun x => (mS ad) x ∨ sz ≤ x)) hx hb hK ce_91 (by omega) (by omega) (by decide) hL_84 (Or.inl ⟨11, by decide, rfl⟩) dX9_list_86 (fun H_92 lo_93 hc_94 hx_95 hL_96 => ?_)
                      have hc_94 : At G H_92 (ad 11) (eI G 180 (uf ((liW V (6 * k + t)) 11) (((18 * (V 0 1)) + (6 * k)) + t) (mUa V k t (-1)))) := hc_94
                      have hM_97 : MW G H_92 ad (vu (liW V (6 * k + t)) 11 (((18 * (V 0 1)) + (6 * k)) + t) (mUa V k t (-1))) f_88 a_89 y_90 := MW.upd (k := 11) hD hM_87 hx_95 (by decide) (by decide) hc_94 (fun c hc => vu_n _ _ _ hc)
                      have hF_98 : Fr s.heap H_92 (mS ad) 0 := hF_85.x hx_95 (fun _ => ⟨11, by decide, rfl⟩)
                      refine lv_aload_n hx hb dX9_list_87 rfl (lv_at hl 2 rfl) ?_
                      have ce_99 : At G H_92 (ad 0) (eO 9 [.int (J (V 0 0)), .ref (ad 1), .ref (ad 2), .ref (ad 3), .ref (ad 4), .ref (ad 5), .ref (ad 6), .ref (ad 7), .ref (ad 8), .ref (ad 9), .int (J (V 0 1)), .ref (ad 10), .ref (ad 11), .ref (ad 12), .ref (ad 13), .ref (ad 14), .ref (ad 15), .ref (ad 16), .ref (ad 17), .int (J f_88), .int (J a_89), .ref (ad 18)]) := hM_97.1
                      refine j_get (ci := 9) (v := .ref (ad 12)) hx hb hts inX9_ hown hK ce_99 rfl 13 (by decide) lk3 (fun _ h9 => h9) rfl dX9_list_88 ?_
                      refine j_bi hx hb dX9_list_91 (by decide +kernel) ?_
                      refine lv_aload_n hx hb dX9_list_93 rfl (lv_at hl 2 rfl) ?_
                      refine j_get (ci := 9) (v := .int (J (V 0 1))) hx hb hts inX9_ hown hK ce_99 rfl 10 (by decide) lk0 (fun _ h9 => h9) rfl dX9_list_94 ?_
                      refine j_mul hx hb dX9_list_97 ?_
                      refine j_bi hx hb dX9_list_98 (by decide +kernel) ?_
                      refine lv_iload_n hx hb dX9_list_100 rfl (lv_at hl 1 rfl) ?_
                      refine j_mul hx hb dX9_list_101 ?_
                      refine j_add hx hb dX9_list_102 ?_
                      refine lv_iload_n hx hb dX9_list_103 rfl (lv_at hl 0 rfl) ?_
                      refine j_add hx hb dX9_list_104 ?_
                      refine lv_aload_n hx hb dX9_list_105 rfl (lv_at hl 2 rfl) ?_
                      refine lv_iload_n hx hb dX9_list_106 rfl (lv_at hl 1 rfl) ?_
                      refine lv_iload_n hx hb dX9_list_107 rfl (lv_at hl 0 rfl) ?_
                      refine j_const hx hb dX9_list_108 ?_
                      refine e_V (A := (fun x => (mS ad) x ∨ sz ≤ x)) (ci := 9) (b := ad 0) (As := [.int (J k), .int (J t), .int (J 1)]) (rest := [.int (J (((18 * (V 0 1)) + (6 * k)) + t)), .ref (ad 12)]) hx hb hml hown hts hK hl.1 (c_X9_unit l G ad (vu (liW V (6 * k + t)) 11 (((18 * (V 0 1)) + (6 * k)) + t) (mUa V k t (-1))) f_88 a_89 y_90 k t 1 sz ((hV.li (6 * k + t)).v11 _ _ (show 18 * V 0 1 ≤ 18 * V 0 1 + 6 * k + t by omega)) hD (by omega) (by omega) (by omega)) (cwV 3 hts gX9_list_X9_unit rfl rfl rfl (by decide +kernel) ⟨Nat.le_of_ble_eq_true rfl, Nat.le_of_ble_eq_true rfl⟩) ce_99 rfl (⟨by have z1 := hF_98.1; omega, hM_97⟩) rfl rfl (Nat.le_of_ble_eq_true rfl) dX9_list_109 ⟨Nat.le_of_ble_eq_true rfl, Nat.le_of_ble_eq_true rfl⟩ hL_96 (fun x hx => hx) (fun H_100 lo_101 hp_102 hL_103 => ?_)
                      show W p l e (headSpec wsX9_list rmX9_list).room s m ([.ref (ad 0), .int (J d)] : List Value).toArray below meth c H_100 lo_101 (0 + 0) (0 + 0) (MQ below (QE (some (.int (J (if 0 ≤ d ∧ d < 3650 then (if 0 < V 0 1 ∧ d ≤ V 10 (V 0 1 - 1) then -2 else if V 0 1 = 10 then -3 else V 0 1) else -1))) : Option Value) (fun H H1 => Fr H H1 (mS ad) 0 ∧ MX G H1 ad (if (0 ≤ d ∧ d < 3650) ∧ ¬ (0 < V 0 1 ∧ d ≤ V 10 (V 0 1 - 1)) ∧ V 0 1 ≠ 10 then sLi V d else V))) ([.ref (ad 0), .int (J d)] : List Value).toArray s 0 0 (fun x => (mS ad) x ∨ sz ≤ x)) (F0 m 112 ls [.int (J (if (0 ≤ k ∧ k ≤ 2) ∧ (0 ≤ t ∧ t ≤ 5) ∧ 0 ≤ 1 ∧ 1 ≤ 3 then (if 1 = 0 then mUa (vu (liW V (6 * k + t)) 11 (((18 * (V 0 1)) + (6 * k)) + t) (mUa V k t (-1))) k t (-1) else if 1 = 1 then mUb (vu (liW V (6 * k + t)) 11 (((18 * (V 0 1)) + (6 * k)) + t) (mUa V k t (-1))) k t (-1) else if 1 = 2 then fAm (vu (liW V (6 * k + t)) 11 (((18 * (V 0 1)) + (6 * k)) + t) (mUa V k t (-1))) k t (-1) else if fFo (vu (liW V (6 * k + t)) 11 (((18 * (V 0 1)) + (6 * k)) + t) (mUa V k t (-1))) k t (-1) < 0 then -4 else fFo (vu (liW V (6 * k + t)) 11 (((18 * (V 0 1)) + (6 * k)) + t) (mUa V k t (-1))) k t (-1)) else -1)), .int (J (((18 * (V 0 1)) + (6 * k)) + t)), .ref (ad 12)])
                      have hf_105 : Fr H_92 H_100 (mS ad) 0 := hp_102.1
                      have hF_104 : Fr s.heap H_100 (mS ad) 0 := hF_98.f hf_105 (fun x hx z => z)
                      obtain ⟨f_107, a_108, y_109, hM_106⟩ := hp_102.2
                      refine j_re (y := mUb V k t (-1)) (by rw [if_pos (by omega)]; exact (if_neg (by omega)).trans (if_pos rfl)) ?_
                      have ce_110 : At G H_100 (ad 12) (eI G 180 ((liW V (6 * k + t)) 12)) := (hM_106.2.1 12 (by decide) (by decide))
                      refine j_iast (A := (fun x => (mS ad) x ∨ sz ≤ x)) hx hb hK ce_110 (by omega) (by omega) (by decide) hL_103 (Or.inl ⟨12, by decide, rfl⟩) dX9_list_112 (fun H_111 lo_112 hc_113 hx_114 hL_115 => ?_)
                      have hc_113 : At G H_111 (ad 12) (eI G 180 (uf ((liW V (6 * k + t)) 12) (((18 * (V 0 1)) + (6 * k)) + t) (mUb V k t (-1)))) := hc_113
                      have hM_116 : MW G H_111 ad (vu (vu (liW V (6 * k + t)) 11 (((18 * (V 0 1)) + (6 * k)) + t) (mUa V k t (-1))) 12 (((18 * (V 0 1)) + (6 * k)) + t) (mUb V k t (-1))) f_107 a_108 y_109 := MW.upd (k := 12) hD hM_106 hx_114 (by decide) (by decide) hc_113 (fun c hc => vu_n _ _ _ hc)
                      have hF_117 : Fr s.heap H_111 (mS ad) 0 := hF_104.x hx_114 (fun _ => ⟨12, by decide, rfl⟩)
                      refine lv_iinc (v := J (t + 1)) (lv' := [(3, .int (J (t + 1))), (2, .int (J k)), (0, .ref (ad 0)), (1, .int (J d))]) hx hb dX9_list_113 hl (k := 0) rfl (J_add _ _) (by decide) rfl (fun ls hl => ?_)
                      refine lv_goto (tgt := 55) hx hb dX9_list_116 (by decide) ?_
                      exact ih55 (t + 1) f_107 a_108 y_109 H_111 lo_112 hL_115 (by omega) hF_117 (by rw [show 6 * k + (t + 1) = 6 * k + t + 1 by omega, ← liW_s hV (by omega) (by omega)]; exact hM_116) (by omega) _ (lv_sub hl [0, 1, 2, 3] rfl)
                exact lp55 7 0 f1 a1 y1 H48 lo48 hL48 (by omega) hFl (by rw [show 6 * k + 0 = 6 * k by omega]; exact hMl) (by omega) _ (lv_sub hl [0, 1, 2, 3] rfl)
          exact lp48 4 0 fo am ys s.heap ([]) hL0 (by omega) hF0 (by rw [show (6 * 0 : Int) = 0 from rfl, liW_0]; exact hM) (by omega) _ (lv_sub hl [0, 1, 2] rfl)
        · refine j_bi hx hb dX9_list_43 (by decide +kernel) ?_
          exact r_iE hx hb hr hlk (Nat.le_of_ble_eq_true rfl) (Nat.le_of_ble_eq_true rfl) (congrArg (fun z => some (Value.int (J z))) (show ((-3) : Int) = if 0 ≤ d ∧ d < 3650 then (if 0 < V 0 1 ∧ d ≤ V 10 (V 0 1 - 1) then -2 else if V 0 1 = 10 then -3 else V 0 1) else -1 from by rw [if_pos (by omega), if_neg (by omega), if_pos (by omega)])) hL0 (⟨hF0, by rw [if_neg (by omega)]; exact ⟨_, _, _, hM⟩⟩) dX9_list_45
      · refine j_bi hx hb dX9_list_31 (by decide +kernel) ?_
        exact r_iE hx hb hr hlk (Nat.le_of_ble_eq_true rfl) (Nat.le_of_ble_eq_true rfl) (congrArg (fun z => some (Value.int (J z))) (show ((-2) : Int) = if 0 ≤ d ∧ d < 3650 then (if 0 < V 0 1 ∧ d ≤ V 10 (V 0 1 - 1) then -2 else if V 0 1 = 10 then -3 else V 0 1) else -1 from by rw [if_pos (by omega), if_pos (by omega)])) hL0 (⟨hF0, by rw [if_neg (by omega)]; exact ⟨_, _, _, hM⟩⟩) dX9_list_33
  · refine j_const hx hb dX9_list_7 ?_
    exact r_iE hx hb hr hlk (Nat.le_of_ble_eq_true rfl) (Nat.le_of_ble_eq_true rfl) (congrArg (fun z => some (Value.int (J z))) (show ((-1) : Int) = if 0 ≤ d ∧ d < 3650 then (if 0 < V 0 1 ∧ d ≤ V 10 (V 0 1 - 1) then -2 else if V 0 1 = 10 then -3 else V 0 1) else -1 from by rw [if_neg (by omega)])) hL0 (⟨hF0, by rw [if_neg (by omega)]; exact ⟨_, _, _, hM⟩⟩) dX9_list_8

abbrev rmX9_appeal : Room := { frames := 2, cells := 0, slots := 0, locals := 43 }
set_option maxHeartbeats 4000000 in
set_option maxRecDepth 100000 in
theorem c_X9_appeal (l : Launch) (G : GG) (ad : Nat → Nat) (V : St) (fo am : Int) (ys : Int → Int) (h d v lk : Int) (sz : Nat) (hV : Iv V) (hD : Dj ad) (g_h : -2147483648 ≤ h ∧ h < 2147483648) (g_d : -2147483648 ≤ d ∧ d < 2147483648) (g_v : -2147483648 ≤ v ∧ v < 2147483648) (g_lk : -2147483648 ≤ lk ∧ lk < 2147483648) : ME l G yX9_appeal wsX9_appeal rmX9_appeal [.ref (ad 0), .int (J h), .int (J d), .int (J v), .int (J lk)] (fun H => H.size = sz ∧ (MW G H ad V fo am ys)) (some (.int (J (apR V h d v lk))) : Option Value) (fun x => (mS ad) x ∨ sz ≤ x) (fun H H1 => Fr H H1 (mS ad) 0 ∧ MX G H1 ad (@ite St (((0 ≤ h ∧ h < V 0 0) ∧ (0 ≤ d ∧ d < 3650) ∧ 1 ≤ v ∧ v ≤ 900) ∧ ¬ apF V h lk) (Classical.propDecidable _) (apW V h d v lk (V 0 0)) V)) 0 0 := by
  refine ME.of (cc := cX9_appeal) (maxL := 7) (ret := (some .int)) (by decide) rfl (Nat.le_of_ble_eq_true rfl) ?_
  intro p e s m below meth c hx hb hr hml hown hts hlk hin hK hP ls hl
  have hL0 : ∀ z9 ∈ ([] : List Loc), (fun x => (mS ad) x ∨ sz ≤ x) z9.base := fun z9 h => absurd h List.not_mem_nil
  have hown : s.vm.findClass RX9 = some m.cls := hown
  have hl : lv_has ls 7 [(0, .ref (ad 0)), (1, .int (J h)), (2, .int (J d)), (3, .int (J v)), (4, .int (J lk))] := hl
  have inX9_ : ∀ w ∈ u_ws RX9 TX9 22, w ∈ wsX9_appeal := by decide +kernel
  have lk0 := hts (.fieldLink RX9 66 "RateBookModel" "houses" "I") (by decide +kernel)
  have lk1 := hts (.fieldLink RX9 25 "RateBookModel" "events" "[I") (by decide +kernel)
  obtain ⟨hsz, hP⟩ := hP
  have hF0 : Fr s.heap s.heap (mS ad) 0 := Fr.rf
  have hM : MW G s.heap ad V fo am ys := hP
  have hn := hV.n
  have hnl := hV.l
  refine lv_aload_n hx hb dX9_appeal_0 rfl (lv_at hl 0 rfl) ?_
  refine lv_iload_n hx hb dX9_appeal_1 rfl (lv_at hl 1 rfl) ?_
  have ce_1 : At G s.heap (ad 0) (eO 9 [.int (J (V 0 0)), .ref (ad 1), .ref (ad 2), .ref (ad 3), .ref (ad 4), .ref (ad 5), .ref (ad 6), .ref (ad 7), .ref (ad 8), .ref (ad 9), .int (J (V 0 1)), .ref (ad 10), .ref (ad 11), .ref (ad 12), .ref (ad 13), .ref (ad 14), .ref (ad 15), .ref (ad 16), .ref (ad 17), .int (J fo), .int (J am), .ref (ad 18)]) := hM.1
  refine k_V (ci := 9) (b := ad 0) (As := [.int (J h)]) (rest := []) (v := .int (J (pI (0 ≤ h ∧ h ≤ V 0 0 - 1)))) hx hb hml hown hts hK hl.1 (c_X9_isHouse l G ad V fo am ys h hV (by omega)) (cwV 1 hts gX9_appeal_X9_isHouse rfl rfl rfl (by decide +kernel) ⟨Nat.le_of_ble_eq_true rfl, Nat.le_of_ble_eq_true rfl⟩) ce_1 rfl hM rfl rfl (Nat.le_of_ble_eq_true rfl) dX9_appeal_2 ⟨Nat.zero_le _, Nat.zero_le _⟩ ?_
  refine j_eqP (tgt := 26) hx hb dX9_appeal_5 (by decide) (fun c5 => ?_) (fun c5 => ?_)
  · refine j_const hx hb dX9_appeal_26 ?_
    exact r_iE hx hb hr hlk (Nat.le_of_ble_eq_true rfl) (Nat.le_of_ble_eq_true rfl) (congrArg (fun z => some (Value.int (J z))) (show ((-1) : Int) = apR V h d v lk from (ap_v1 (by omega)).symm)) hL0 (⟨hF0, by rw [if_neg (fun z => absurd z.1 (by omega))]; exact ⟨_, _, _, hM⟩⟩) dX9_appeal_27
  · refine lv_iload_n hx hb dX9_appeal_8 rfl (lv_at hl 2 rfl) ?_
    refine k_S (As := [.int (J d)]) (rest := []) (v := .int (J (pI (0 ≤ d ∧ d ≤ 3649)))) hx hb hml hown hts hK hl.1 (c_X9_isDay l G d (by omega)) (va_cwS 1 hts gX9_appeal_X9_isDay rfl rfl rfl (by decide +kernel) ⟨Nat.le_of_ble_eq_true rfl, Nat.le_of_ble_eq_true rfl⟩) trivial rfl rfl (Nat.le_of_ble_eq_true rfl) dX9_appeal_9 ⟨Nat.zero_le _, Nat.zero_le _⟩ ?_
    refine j_eqP (tgt := 26) hx hb dX9_appeal_12 (by decide) (fun c12 => ?_) (fun c12 => ?_)
    · refine j_const hx hb dX9_appeal_26 ?_
      exact r_iE hx hb hr hlk (Nat.le_of_ble_eq_true rfl) (Nat.le_of_ble_eq_true rfl) (congrArg (fun z => some (Value.int (J z))) (show ((-1) : Int) = apR V h d v lk from (ap_v1 (by omega)).symm)) hL0 (⟨hF0, by rw [if_neg (fun z => absurd z.1 (by omega))]; exact ⟨_, _, _, hM⟩⟩) dX9_appeal_27
    · refine lv_iload_n hx hb dX9_appeal_15 rfl (lv_at hl 3 rfl) ?_
      refine j_const hx hb dX9_appeal_16 ?_
      refine j_si hx hb dX9_appeal_17 (by decide +kernel) ?_
      refine k_S (As := [.int (J v), .int (J 1), .int (J 900)]) (rest := []) (v := .int (J (pI (1 ≤ v ∧ v ≤ 900)))) hx hb hml hown hts hK hl.1 (c_X9_in l G v 1 900 (by omega) (by omega) (by omega)) (va_cwS 3 hts gX9_appeal_X9_in rfl rfl rfl (by decide +kernel) ⟨Nat.le_of_ble_eq_true rfl, Nat.le_of_ble_eq_true rfl⟩) trivial rfl rfl (Nat.le_of_ble_eq_true rfl) dX9_appeal_20 ⟨Nat.zero_le _, Nat.zero_le _⟩ ?_
      refine j_neP (tgt := 28) hx hb dX9_appeal_23 (by decide) (fun c23 => ?_) (fun c23 => ?_)
      · refine j_const hx hb dX9_appeal_28 ?_
        refine lv_istore (lv' := [(5, .int (J 0)), (0, .ref (ad 0)), (1, .int (J h)), (2, .int (J d)), (3, .int (J v)), (4, .int (J lk))]) hx hb dX9_appeal_29 hl (by decide) rfl (fun ls hl => ?_)
        have lp31 : ∀ (n : Nat) (i : Int) (i0 : 0 ≤ i ∧ i ≤ V 0 0) (hno : ∀ o, 0 ≤ o → o < i → ¬ (apQ V h lk o ∧ V 6 o = 12)) (hm : V 0 0 - i < (n : Int)) (ls : Array Slot) (hl : lv_has ls 7 [(5, .int (J i)), (0, .ref (ad 0)), (1, .int (J h)), (2, .int (J d)), (3, .int (J v)), (4, .int (J lk))]), W p l e (headSpec wsX9_appeal rmX9_appeal).room s m ([.ref (ad 0), .int (J h), .int (J d), .int (J v), .int (J lk)] : List Value).toArray below meth c s.heap [] 0 0 (MQ below (QE (some (.int (J (apR V h d v lk))) : Option Value) (fun H H1 => Fr H H1 (mS ad) 0 ∧ MX G H1 ad (@ite St (((0 ≤ h ∧ h < V 0 0) ∧ (0 ≤ d ∧ d < 3650) ∧ 1 ≤ v ∧ v ≤ 900) ∧ ¬ apF V h lk) (Classical.propDecidable _) (apW V h d v lk (V 0 0)) V))) ([.ref (ad 0), .int (J h), .int (J d), .int (J v), .int (J lk)] : List Value).toArray s 0 0 (fun x => (mS ad) x ∨ sz ≤ x)) (F0 m 31 ls []) := by
          intro n
          induction n with
          | zero =>
            intro i i0 hno hm ls hl
            exact absurd hm (by omega)
          | succ n ih31 =>
            intro i i0 hno hm ls hl
            refine lv_iload hx hb dX9_appeal_31 (lv_at hl 0 rfl) ?_
            refine lv_aload_n hx hb dX9_appeal_33 rfl (lv_at hl 1 rfl) ?_
            refine j_get (ci := 9) (v := .int (J (V 0 0))) hx hb hts inX9_ hown hK ce_1 rfl 0 (by decide) lk0 (fun _ h9 => h9) rfl dX9_appeal_34 ?_
            refine j_cge (tgt := 82) hx hb (by omega) (by omega) (by omega) (by omega) dX9_appeal_37 (by decide) (fun c37 => ?_) (fun c37 => ?_)
            · refine j_const hx hb dX9_appeal_82 ?_
              refine lv_istore (lv' := [(5, .int (J 0)), (0, .ref (ad 0)), (1, .int (J h)), (2, .int (J d)), (3, .int (J v)), (4, .int (J lk))]) hx hb dX9_appeal_83 hl (by decide) rfl (fun ls hl => ?_)
              refine j_const hx hb dX9_appeal_85 ?_
              refine lv_istore (lv' := [(6, .int (J 0)), (5, .int (J 0)), (0, .ref (ad 0)), (1, .int (J h)), (2, .int (J d)), (3, .int (J v)), (4, .int (J lk))]) hx hb dX9_appeal_86 hl (by decide) rfl (fun ls hl => ?_)
              have hnF : ¬ apF V h lk := fun z => by obtain ⟨o, a, b, c1, c2⟩ := z; exact hno o a (by omega) ⟨c1, c2⟩
              have lp88 : ∀ (n : Nat) (o : Int) (H88 : Heap) (lo88 : List Loc) (hL88 : ∀ z9 ∈ lo88, (fun x => (mS ad) x ∨ sz ≤ x) z9.base) (o0 : 0 ≤ o ∧ o ≤ V 0 0) (hFl : Fr s.heap H88 (mS ad) 0) (hMl : MW G H88 ad (apW V h d v lk o) fo am ys) (hm : V 0 0 - o < (n : Int)) (ls : Array Slot) (hl : lv_has ls 7 [(6, .int (J o)), (5, .int (J (apN V h lk o))), (0, .ref (ad 0)), (1, .int (J h)), (2, .int (J d)), (3, .int (J v)), (4, .int (J lk))]), W p l e (headSpec wsX9_appeal rmX9_appeal).room s m ([.ref (ad 0), .int (J h), .int (J d), .int (J v), .int (J lk)] : List Value).toArray below meth c H88 lo88 0 0 (MQ below (QE (some (.int (J (apR V h d v lk))) : Option Value) (fun H H1 => Fr H H1 (mS ad) 0 ∧ MX G H1 ad (@ite St (((0 ≤ h ∧ h < V 0 0) ∧ (0 ≤ d ∧ d < 3650) ∧ 1 ≤ v ∧ v ≤ 900) ∧ ¬ apF V h lk) (Classical.propDecidable _) (apW V h d v lk (V 0 0)) V))) ([.ref (ad 0), .int (J h), .int (J d), .int (J v), .int (J lk)] : List Value).toArray s 0 0 (fun x => (mS ad) x ∨ sz ≤ x)) (F0 m 88 ls []) := by
                intro n
                induction n with
                | zero =>
                  intro o H88 lo88 hL88 o0 hFl hMl hm ls hl
                  exact absurd hm (by omega)
                | succ n ih88 =>
                  intro o H88 lo88 hL88 o0 hFl hMl hm ls hl
                  have hai := apW_inv hV (h := h) (d := d) (c := v) (lk := lk) (by omega) (by omega) hnF o0.1 o0.2
                  have hb0 : (apW V h d v lk o) 0 0 = V 0 0 := by rw [hai.2.1 0 (by omega)]
                  refine lv_iload hx hb dX9_appeal_88 (lv_at hl 0 rfl) ?_
                  refine lv_aload_n hx hb dX9_appeal_90 rfl (lv_at hl 2 rfl) ?_
                  have ce_2 : At G H88 (ad 0) (eO 9 [.int (J (V 0 0)), .ref (ad 1), .ref (ad 2), .ref (ad 3), .ref (ad 4), .ref (ad 5), .ref (ad 6), .ref (ad 7), .ref (ad 8), .ref (ad 9), .int (J ((apW V h d v lk o) 0 1)), .ref (ad 10), .ref (ad 11), .ref (ad 12), .ref (ad 13), .ref (ad 14), .ref (ad 15), .ref (ad 16), .ref (ad 17), .int (J fo), .int (J am), .ref (ad 18)]) := (by have q := hMl.1; unfold eM at q; (try rw [hb0] at q); exact q)
                  refine j_get (ci := 9) (v := .int (J (V 0 0))) hx hb hts inX9_ hown hK ce_2 rfl 0 (by decide) lk0 (fun _ h9 => h9) rfl dX9_appeal_91 ?_
                  refine j_cge (tgt := 136) hx hb (by omega) (by omega) (by omega) (by omega) dX9_appeal_94 (by decide) (fun c94 => ?_) (fun c94 => ?_)
                  · refine lv_iload hx hb dX9_appeal_136 (lv_at hl 1 rfl) ?_
                    exact r_iE hx hb hr hlk (Nat.le_of_ble_eq_true rfl) (Nat.le_of_ble_eq_true rfl) (congrArg (fun z => some (Value.int (J z))) (show (apN V h lk o : Int) = apR V h d v lk from by rw [show o = V 0 0 by omega]; exact (ap_v (by omega) hnF).symm)) hL88 (⟨hFl, by rw [if_pos ⟨by omega, hnF⟩]; exact ⟨_, _, _, by rw [show o = V 0 0 by omega] at hMl; exact hMl⟩⟩) dX9_appeal_138
                  · refine lv_iload hx hb dX9_appeal_97 (lv_at hl 0 rfl) ?_
                    refine lv_iload_n hx hb dX9_appeal_99 rfl (lv_at hl 3 rfl) ?_
                    refine j_ceq (tgt := 118) hx hb (by omega) (by omega) (by omega) (by omega) dX9_appeal_100 (by decide) (fun c100 => ?_) (fun c100 => ?_)
                    · refine lv_aload_n hx hb dX9_appeal_118 rfl (lv_at hl 2 rfl) ?_
                      refine lv_iload hx hb dX9_appeal_119 (lv_at hl 0 rfl) ?_
                      refine lv_iload_n hx hb dX9_appeal_121 rfl (lv_at hl 4 rfl) ?_
                      refine j_const hx hb dX9_appeal_122 ?_
                      refine lv_iload_n hx hb dX9_appeal_123 rfl (lv_at hl 5 rfl) ?_
                      refine e_V (A := (fun x => (mS ad) x ∨ sz ≤ x)) (ci := 9) (b := ad 0) (As := [.int (J o), .int (J d), .int (J 2), .int (J v)]) (rest := []) hx hb hml hown hts hK hl.1 (c_X9_adds l G ad (apW V h d v lk o) fo am ys o d 2 v sz hD (by omega) (by rw [hai.2.2 o (Int.le_refl _)]; have q := (hV.h o0.1 (show o < V 0 0 by omega)).2.2.2.2.2; have z : V 6 o ≠ 12 := fun z => hno o o0.1 (by omega) ⟨by unfold apQ; omega, z⟩; omega)) (cwV 4 hts gX9_appeal_X9_adds rfl rfl rfl (by decide +kernel) ⟨Nat.le_of_ble_eq_true rfl, Nat.le_of_ble_eq_true rfl⟩) ce_2 rfl (⟨by have z1 := hFl.1; omega, hMl⟩) rfl rfl (Nat.le_of_ble_eq_true rfl) dX9_appeal_124 ⟨Nat.le_of_ble_eq_true rfl, Nat.le_of_ble_eq_true rfl⟩ hL88 (fun x hx => hx) (fun H_3 lo_4 hp_5 hL_6 => ?_)
                      show W p l e (headSpec wsX9_appeal rmX9_appeal).room s m ([.ref (ad 0), .int (J h), .int (J d), .int (J v), .int (J lk)] : List Value).toArray below meth c H_3 lo_4 (0 + 0) (0 + 0) (MQ below (QE (some (.int (J (apR V h d v lk))) : Option Value) (fun H H1 => Fr H H1 (mS ad) 0 ∧ MX G H1 ad (@ite St (((0 ≤ h ∧ h < V 0 0) ∧ (0 ≤ d ∧ d < 3650) ∧ 1 ≤ v ∧ v ≤ 900) ∧ ¬ apF V h lk) (Classical.propDecidable _) (apW V h d v lk (V 0 0)) V))) ([.ref (ad 0), .int (J h), .int (J d), .int (J v), .int (J lk)] : List Value).toArray s 0 0 (fun x => (mS ad) x ∨ sz ≤ x)) (F0 m 127 ls [])
                      have hf_8 : Fr H88 H_3 (mS ad) 0 := hp_5.1
                      have hF_7 : Fr s.heap H_3 (mS ad) 0 := hFl.f hf_8 (fun x hx z => z)
                      have hM_9 : MW G H_3 ad (sAd (apW V h d v lk o) o d 2 v) fo am ys := hp_5.2
                      refine lv_iinc (v := J ((apN V h lk o) + 1)) (lv' := [(5, .int (J ((apN V h lk o) + 1))), (6, .int (J o)), (0, .ref (ad 0)), (1, .int (J h)), (2, .int (J d)), (3, .int (J v)), (4, .int (J lk))]) hx hb dX9_appeal_127 hl (k := 1) rfl (J_add _ _) (by decide) rfl (fun ls hl => ?_)
                      refine lv_iinc (v := J (o + 1)) (lv' := [(6, .int (J (o + 1))), (5, .int (J ((apN V h lk o) + 1))), (0, .ref (ad 0)), (1, .int (J h)), (2, .int (J d)), (3, .int (J v)), (4, .int (J lk))]) hx hb dX9_appeal_130 hl (k := 1) rfl (J_add _ _) (by decide) rfl (fun ls hl => ?_)
                      refine lv_goto (tgt := 88) hx hb dX9_appeal_133 (by decide) ?_
                      have hcu :  apQ V h lk o := by unfold apQ; omega
                      exact ih88 (o + 1) H_3 lo_4 hL_6 (by omega) hF_7 (by unfold apW; rw [lo_s _ _ o0.1, if_pos hcu]; exact hM_9) (by omega) _ (lv_sub hl [0, 1, 2, 3, 4, 5, 6] (by rw [show (apN V h lk (o + 1) : Int) = (apN V h lk o) + 1 from (by unfold apN; rw [lo_s _ _ o0.1]; exact if_pos hcu)]; try rfl))
                    · refine lv_iload hx hb dX9_appeal_103 (lv_at hl 6 rfl) ?_
                      refine j_eq0 (tgt := 130) hx hb (by omega) (by omega) dX9_appeal_105 (by decide) (fun c105 => ?_) (fun c105 => ?_)
                      · refine lv_iinc (v := J (o + 1)) (lv' := [(6, .int (J (o + 1))), (5, .int (J (apN V h lk o))), (0, .ref (ad 0)), (1, .int (J h)), (2, .int (J d)), (3, .int (J v)), (4, .int (J lk))]) hx hb dX9_appeal_130 hl (k := 0) rfl (J_add _ _) (by decide) rfl (fun ls hl => ?_)
                        refine lv_goto (tgt := 88) hx hb dX9_appeal_133 (by decide) ?_
                        have hcu : ¬ apQ V h lk o := by unfold apQ; omega
                        exact ih88 (o + 1) H88 lo88 hL88 (by omega) hFl (by unfold apW; rw [lo_s _ _ o0.1, if_neg hcu]; exact hMl) (by omega) _ (lv_sub hl [0, 1, 2, 3, 4, 5, 6] (by rw [show (apN V h lk (o + 1) : Int) = apN V h lk o from (by unfold apN; rw [lo_s _ _ o0.1]; exact if_neg hcu)]; try rfl))
                      · refine lv_aload_n hx hb dX9_appeal_108 rfl (lv_at hl 2 rfl) ?_
                        refine lv_iload hx hb dX9_appeal_109 (lv_at hl 0 rfl) ?_
                        refine lv_iload_n hx hb dX9_appeal_111 rfl (lv_at hl 3 rfl) ?_
                        refine k_V (ci := 9) (b := ad 0) (As := [.int (J o), .int (J h)]) (rest := []) (v := .int (J (pI ((apW V h d v lk o) 2 o = (apW V h d v lk o) 2 h ∧ (apW V h d v lk o) 3 o = (apW V h d v lk o) 3 h)))) hx hb hml hown hts hK hl.1 (c_X9_isLike l G ad (apW V h d v lk o) fo am ys o h hai.1 (by rw [hb0]; omega) (by rw [hb0]; omega)) (cwV 2 hts gX9_appeal_X9_isLike rfl rfl rfl (by decide +kernel) ⟨Nat.le_of_ble_eq_true rfl, Nat.le_of_ble_eq_true rfl⟩) ce_2 rfl hMl rfl rfl (Nat.le_of_ble_eq_true rfl) dX9_appeal_112 ⟨Nat.zero_le _, Nat.zero_le _⟩ ?_
                        rw [hai.2.1 2 (by omega), hai.2.1 3 (by omega)]
                        refine j_eqP (tgt := 130) hx hb dX9_appeal_115 (by decide) (fun c115 => ?_) (fun c115 => ?_)
                        · refine lv_iinc (v := J (o + 1)) (lv' := [(6, .int (J (o + 1))), (5, .int (J (apN V h lk o))), (0, .ref (ad 0)), (1, .int (J h)), (2, .int (J d)), (3, .int (J v)), (4, .int (J lk))]) hx hb dX9_appeal_130 hl (k := 0) rfl (J_add _ _) (by decide) rfl (fun ls hl => ?_)
                          refine lv_goto (tgt := 88) hx hb dX9_appeal_133 (by decide) ?_
                          have hcu : ¬ apQ V h lk o := by unfold apQ; omega
                          exact ih88 (o + 1) H88 lo88 hL88 (by omega) hFl (by unfold apW; rw [lo_s _ _ o0.1, if_neg hcu]; exact hMl) (by omega) _ (lv_sub hl [0, 1, 2, 3, 4, 5, 6] (by rw [show (apN V h lk (o + 1) : Int) = apN V h lk o from (by unfold apN; rw [lo_s _ _ o0.1]; exact if_neg hcu)]; try rfl))
                        · refine lv_aload_n hx hb dX9_appeal_118 rfl (lv_at hl 2 rfl) ?_
                          refine lv_iload hx hb dX9_appeal_119 (lv_at hl 0 rfl) ?_
                          refine lv_iload_n hx hb dX9_appeal_121 rfl (lv_at hl 4 rfl) ?_
                          refine j_const hx hb dX9_appeal_122 ?_
                          refine lv_iload_n hx hb dX9_appeal_123 rfl (lv_at hl 5 rfl) ?_
                          refine e_V (A := (fun x => (mS ad) x ∨ sz ≤ x)) (ci := 9) (b := ad 0) (As := [.int (J o), .int (J d), .int (J 2), .int (J v)]) (rest := []) hx hb hml hown hts hK hl.1 (c_X9_adds l G ad (apW V h d v lk o) fo am ys o d 2 v sz hD (by omega) (by rw [hai.2.2 o (Int.le_refl _)]; have q := (hV.h o0.1 (show o < V 0 0 by omega)).2.2.2.2.2; have z : V 6 o ≠ 12 := fun z => hno o o0.1 (by omega) ⟨by unfold apQ; omega, z⟩; omega)) (cwV 4 hts gX9_appeal_X9_adds rfl rfl rfl (by decide +kernel) ⟨Nat.le_of_ble_eq_true rfl, Nat.le_of_ble_eq_true rfl⟩) ce_2 rfl (⟨by have z1 := hFl.1; omega, hMl⟩) rfl rfl (Nat.le_of_ble_eq_true rfl) dX9_appeal_124 ⟨Nat.le_of_ble_eq_true rfl, Nat.le_of_ble_eq_true rfl⟩ hL88 (fun x hx => hx) (fun H_10 lo_11 hp_12 hL_13 => ?_)
                          show W p l e (headSpec wsX9_appeal rmX9_appeal).room s m ([.ref (ad 0), .int (J h), .int (J d), .int (J v), .int (J lk)] : List Value).toArray below meth c H_10 lo_11 (0 + 0) (0 + 0) (MQ below (QE (some (.int (J (apR V h d v lk))) : Option Value) (fun H H1 => Fr H H1 (mS ad) 0 ∧ MX G H1 ad (@ite St (((0 ≤ h ∧ h < V 0 0) ∧ (0 ≤ d ∧ d < 3650) ∧ 1 ≤ v ∧ v ≤ 900) ∧ ¬ apF V h lk) (Classical.propDecidable _) (apW V h d v lk (V 0 0)) V))) ([.ref (ad 0), .int (J h), .int (J d), .int (J v), .int (J lk)] : List Value).toArray s 0 0 (fun x => (mS ad) x ∨ sz ≤ x)) (F0 m 127 ls [])
                          have hf_15 : Fr H88 H_10 (mS ad) 0 := hp_12.1
                          have hF_14 : Fr s.heap H_10 (mS ad) 0 := hFl.f hf_15 (fun x hx z => z)
                          have hM_16 : MW G H_10 ad (sAd (apW V h d v lk o) o d 2 v) fo am ys := hp_12.2
                          refine lv_iinc (v := J ((apN V h lk o) + 1)) (lv' := [(5, .int (J ((apN V h lk o) + 1))), (6, .int (J o)), (0, .ref (ad 0)), (1, .int (J h)), (2, .int (J d)), (3, .int (J v)), (4, .int (J lk))]) hx hb dX9_appeal_127 hl (k := 1) rfl (J_add _ _) (by decide) rfl (fun ls hl => ?_)
                          refine lv_iinc (v := J (o + 1)) (lv' := [(6, .int (J (o + 1))), (5, .int (J ((apN V h lk o) + 1))), (0, .ref (ad 0)), (1, .int (J h)), (2, .int (J d)), (3, .int (J v)), (4, .int (J lk))]) hx hb dX9_appeal_130 hl (k := 1) rfl (J_add _ _) (by decide) rfl (fun ls hl => ?_)
                          refine lv_goto (tgt := 88) hx hb dX9_appeal_133 (by decide) ?_
                          have hcu :  apQ V h lk o := by unfold apQ; omega
                          exact ih88 (o + 1) H_10 lo_11 hL_13 (by omega) hF_14 (by unfold apW; rw [lo_s _ _ o0.1, if_pos hcu]; exact hM_16) (by omega) _ (lv_sub hl [0, 1, 2, 3, 4, 5, 6] (by rw [show (apN V h lk (o + 1) : Int) = (apN V h lk o) + 1 from (by unfold apN; rw [lo_s _ _ o0.1]; exact if_pos hcu)]; try rfl))
              exact lp88 41 0 s.heap ([]) hL0 (by omega) hF0 hM (by omega) _ (lv_sub hl [0, 1, 2, 3, 4, 5, 6] (by rw [show (apN V h lk 0 : Int) = 0 from (by rfl)]; try rfl))
            · refine lv_iload hx hb dX9_appeal_40 (lv_at hl 0 rfl) ?_
              refine lv_iload_n hx hb dX9_appeal_42 rfl (lv_at hl 2 rfl) ?_
              refine j_ceq (tgt := 61) hx hb (by omega) (by omega) (by omega) (by omega) dX9_appeal_43 (by decide) (fun c43 => ?_) (fun c43 => ?_)
              · refine lv_aload_n hx hb dX9_appeal_61 rfl (lv_at hl 1 rfl) ?_
                refine j_get (ci := 9) (v := .ref (ad 6)) hx hb hts inX9_ hown hK ce_1 rfl 6 (by decide) lk1 (fun _ h9 => h9) rfl dX9_appeal_62 ?_
                refine lv_iload hx hb dX9_appeal_65 (lv_at hl 0 rfl) ?_
                have ce_17 : At G s.heap (ad 6) (eI G 40 (V 6)) := (hM.2.1 6 (by decide) (by decide))
                refine j_iald hx hb hK ce_17 (by omega) (by omega) (by decide) dX9_appeal_67 ?_
                have hr_18 := hV.h (i := i) (by omega) (by omega)
                refine j_bi hx hb dX9_appeal_68 (by decide +kernel) ?_
                refine j_cne (tgt := 76) hx hb (by omega) (by omega) (by decide) (by decide) dX9_appeal_70 (by decide) (fun c70 => ?_) (fun c70 => ?_)
                · refine lv_iinc (v := J (i + 1)) (lv' := [(5, .int (J (i + 1))), (0, .ref (ad 0)), (1, .int (J h)), (2, .int (J d)), (3, .int (J v)), (4, .int (J lk))]) hx hb dX9_appeal_76 hl (k := 0) rfl (J_add _ _) (by decide) rfl (fun ls hl => ?_)
                  refine lv_goto (tgt := 31) hx hb dX9_appeal_79 (by decide) ?_
                  have hcu : ¬ (apQ V h lk i ∧ V 6 i = 12) := by unfold apQ; omega
                  exact ih31 (i + 1) (by omega) (fun o a b => if z : o < i then hno o a z else (show o = i by omega) ▸ hcu) (by omega) _ (lv_sub hl [0, 1, 2, 3, 4, 5] rfl)
                · refine j_bi hx hb dX9_appeal_73 (by decide +kernel) ?_
                  exact r_iE hx hb hr hlk (Nat.le_of_ble_eq_true rfl) (Nat.le_of_ble_eq_true rfl) (congrArg (fun z => some (Value.int (J z))) (show ((-3) : Int) = apR V h d v lk from (ap_v3 (by omega) ⟨i, i0.1, by omega, by unfold apQ; omega, by omega⟩).symm)) hL0 (⟨hF0, by rw [if_neg (fun z => z.2 ⟨i, i0.1, by omega, by unfold apQ; omega, by omega⟩)]; exact ⟨_, _, _, hM⟩⟩) dX9_appeal_75
              · refine lv_iload hx hb dX9_appeal_46 (lv_at hl 5 rfl) ?_
                refine j_eq0 (tgt := 76) hx hb (by omega) (by omega) dX9_appeal_48 (by decide) (fun c48 => ?_) (fun c48 => ?_)
                · refine lv_iinc (v := J (i + 1)) (lv' := [(5, .int (J (i + 1))), (0, .ref (ad 0)), (1, .int (J h)), (2, .int (J d)), (3, .int (J v)), (4, .int (J lk))]) hx hb dX9_appeal_76 hl (k := 0) rfl (J_add _ _) (by decide) rfl (fun ls hl => ?_)
                  refine lv_goto (tgt := 31) hx hb dX9_appeal_79 (by decide) ?_
                  have hcu : ¬ (apQ V h lk i ∧ V 6 i = 12) := by unfold apQ; omega
                  exact ih31 (i + 1) (by omega) (fun o a b => if z : o < i then hno o a z else (show o = i by omega) ▸ hcu) (by omega) _ (lv_sub hl [0, 1, 2, 3, 4, 5] rfl)
                · refine lv_aload_n hx hb dX9_appeal_51 rfl (lv_at hl 1 rfl) ?_
                  refine lv_iload hx hb dX9_appeal_52 (lv_at hl 0 rfl) ?_
                  refine lv_iload_n hx hb dX9_appeal_54 rfl (lv_at hl 2 rfl) ?_
                  refine k_V (ci := 9) (b := ad 0) (As := [.int (J i), .int (J h)]) (rest := []) (v := .int (J (pI (V 2 i = V 2 h ∧ V 3 i = V 3 h)))) hx hb hml hown hts hK hl.1 (c_X9_isLike l G ad V fo am ys i h hV (by omega) (by omega)) (cwV 2 hts gX9_appeal_X9_isLike rfl rfl rfl (by decide +kernel) ⟨Nat.le_of_ble_eq_true rfl, Nat.le_of_ble_eq_true rfl⟩) ce_1 rfl hM rfl rfl (Nat.le_of_ble_eq_true rfl) dX9_appeal_55 ⟨Nat.zero_le _, Nat.zero_le _⟩ ?_
                  refine j_eqP (tgt := 76) hx hb dX9_appeal_58 (by decide) (fun c58 => ?_) (fun c58 => ?_)
                  · refine lv_iinc (v := J (i + 1)) (lv' := [(5, .int (J (i + 1))), (0, .ref (ad 0)), (1, .int (J h)), (2, .int (J d)), (3, .int (J v)), (4, .int (J lk))]) hx hb dX9_appeal_76 hl (k := 0) rfl (J_add _ _) (by decide) rfl (fun ls hl => ?_)
                    refine lv_goto (tgt := 31) hx hb dX9_appeal_79 (by decide) ?_
                    have hcu : ¬ (apQ V h lk i ∧ V 6 i = 12) := by unfold apQ; omega
                    exact ih31 (i + 1) (by omega) (fun o a b => if z : o < i then hno o a z else (show o = i by omega) ▸ hcu) (by omega) _ (lv_sub hl [0, 1, 2, 3, 4, 5] rfl)
                  · refine lv_aload_n hx hb dX9_appeal_61 rfl (lv_at hl 1 rfl) ?_
                    refine j_get (ci := 9) (v := .ref (ad 6)) hx hb hts inX9_ hown hK ce_1 rfl 6 (by decide) lk1 (fun _ h9 => h9) rfl dX9_appeal_62 ?_
                    refine lv_iload hx hb dX9_appeal_65 (lv_at hl 0 rfl) ?_
                    have ce_19 : At G s.heap (ad 6) (eI G 40 (V 6)) := (hM.2.1 6 (by decide) (by decide))
                    refine j_iald hx hb hK ce_19 (by omega) (by omega) (by decide) dX9_appeal_67 ?_
                    have hr_20 := hV.h (i := i) (by omega) (by omega)
                    refine j_bi hx hb dX9_appeal_68 (by decide +kernel) ?_
                    refine j_cne (tgt := 76) hx hb (by omega) (by omega) (by decide) (by decide) dX9_appeal_70 (by decide) (fun c70 => ?_) (fun c70 => ?_)
                    · refine lv_iinc (v := J (i + 1)) (lv' := [(5, .int (J (i + 1))), (0, .ref (ad 0)), (1, .int (J h)), (2, .int (J d)), (3, .int (J v)), (4, .int (J lk))]) hx hb dX9_appeal_76 hl (k := 0) rfl (J_add _ _) (by decide) rfl (fun ls hl => ?_)
                      refine lv_goto (tgt := 31) hx hb dX9_appeal_79 (by decide) ?_
                      have hcu : ¬ (apQ V h lk i ∧ V 6 i = 12) := by unfold apQ; omega
                      exact ih31 (i + 1) (by omega) (fun o a b => if z : o < i then hno o a z else (show o = i by omega) ▸ hcu) (by omega) _ (lv_sub hl [0, 1, 2, 3, 4, 5] rfl)
                    · refine j_bi hx hb dX9_appeal_73 (by decide +kernel) ?_
                      exact r_iE hx hb hr hlk (Nat.le_of_ble_eq_true rfl) (Nat.le_of_ble_eq_true rfl) (congrArg (fun z => some (Value.int (J z))) (show ((-3) : Int) = apR V h d v lk from (ap_v3 (by omega) ⟨i, i0.1, by omega, by unfold apQ; omega, by omega⟩).symm)) hL0 (⟨hF0, by rw [if_neg (fun z => z.2 ⟨i, i0.1, by omega, by unfold apQ; omega, by omega⟩)]; exact ⟨_, _, _, hM⟩⟩) dX9_appeal_75
        exact lp31 41 0 (by omega) (fun o a b => absurd b (by omega)) (by omega) _ (lv_sub hl [0, 1, 2, 3, 4, 5] rfl)
      · refine j_const hx hb dX9_appeal_26 ?_
        exact r_iE hx hb hr hlk (Nat.le_of_ble_eq_true rfl) (Nat.le_of_ble_eq_true rfl) (congrArg (fun z => some (Value.int (J z))) (show ((-1) : Int) = apR V h d v lk from (ap_v1 (by omega)).symm)) hL0 (⟨hF0, by rw [if_neg (fun z => absurd z.1 (by omega))]; exact ⟨_, _, _, hM⟩⟩) dX9_appeal_27
