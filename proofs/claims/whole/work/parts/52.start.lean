theorem yb_row {sz : Nat} {i : Int} (h0 : 0 ≤ i) (j : Int) : uf (fun j : Int => if j < i then some (sz + (6 + 3 * j.toNat)) else none) i (some (sz + (6 + 3 * i.toNat))) j = if j < i + 1 then some (sz + (6 + 3 * j.toNat)) else none := by
  unfold uf
  by_cases e : j = i
  · rw [if_pos e, if_pos (by omega), e]
  · rw [if_neg e]
    show (if j < i then some (sz + (6 + 3 * j.toNat)) else none) = _
    by_cases z : j < i
    · rw [if_pos z, if_pos (by omega)]
    · rw [if_neg z, if_neg (by omega)]
abbrev rmX8_init : Room := { frames := 2, cells := 36, slots := 954, locals := 33 }
set_option maxHeartbeats 4000000 in
set_option maxRecDepth 100000 in
theorem c_X8_init (l : Launch) (G : GG) (q : Nat) (sz : Nat) : ME l G yX8_init wsX8_init rmX8_init [.ref q] (fun H => H.size = sz ∧ (At G H q (eO 8 [.null, .null, .null, .null]))) (none : Option Value) (fun x => (fun x => x = q) x ∨ sz ≤ x) (fun H H1 => Fr H H1 (fun x => x = q) 36 ∧ At G H1 q (eO 8 [.ref sz, .ref (sz + 2), .ref (sz + 5), .ref (sz + 4)]) ∧ At G H1 sz (eO 5 [.ref (sz + 1), .int (J 0)]) ∧ At G H1 (sz + 1) (eQ G 4 40 (fun _ => none)) ∧ At G H1 (sz + 2) (eO 3 [.ref (sz + 3), .int (J 0)]) ∧ At G H1 (sz + 3) (eQ G 5 10 (fun _ => none)) ∧ At G H1 (sz + 4) (eL G 40 (fun _ => 0)) ∧ At G H1 (sz + 5) (eQ G 7 10 (fun j => some (sz + (6 + 3 * j.toNat)))) ∧ ∀ j : Int, 0 ≤ j → j < 10 → At G H1 (sz + (6 + 3 * j.toNat)) (eO 7 [.ref (sz + (6 + 3 * j.toNat) + 1), .ref (sz + (6 + 3 * j.toNat) + 2), .int (J 0), .int (J 0), .int (J 0)]) ∧ At G H1 (sz + (6 + 3 * j.toNat) + 1) (eI G 40 (fun _ => -4)) ∧ At G H1 (sz + (6 + 3 * j.toNat) + 2) (eI G 40 (fun _ => 0))) 36 954 := by
  refine ME.of (cc := cX8_init) (maxL := 2) (ret := none) (by decide) rfl (Nat.le_of_ble_eq_true rfl) ?_
  intro p e s m below meth c hx hb hr hml hown hts hlk hin hK hP ls hl
  have hL0 : ∀ z9 ∈ ([] : List Loc), (fun x => (fun x => x = q) x ∨ sz ≤ x) z9.base := fun z9 h => absurd h List.not_mem_nil
  have hown : s.vm.findClass RX8 = some m.cls := hown
  have hl : lv_has ls 2 [(0, .ref q)] := hl
  have inX3_ : ∀ w ∈ u_ws RX3 TX3 2, w ∈ wsX8_init := by decide +kernel
  have inX5_ : ∀ w ∈ u_ws RX5 TX5 2, w ∈ wsX8_init := by decide +kernel
  have inX7_ : ∀ w ∈ u_ws RX7 TX7 5, w ∈ wsX8_init := by decide +kernel
  have inX8_ : ∀ w ∈ u_ws RX8 TX8 4, w ∈ wsX8_init := by decide +kernel
  have lk0 := hts (.methodLink RX8 3 objectInit) (by decide +kernel)
  have lk1 := hts (.instanceMethod objectInit) (by decide +kernel)
  have lk2 := hts (.code objectInit ⟨#[0xb1]⟩ 1 none) (by decide +kernel)
  have lk3 := hts (.classLink RX8 9 RX5) (by decide +kernel)
  have lk4 := hts (.instantiable RX5 2) (by decide +kernel)
  have lk5 := hts (.initialized RX5) (by decide +kernel)
  have lk6 := hts (.methodLink RX8 11 yX5_init) (by decide +kernel)
  have lk7 := hts (.instanceMethod yX5_init) (by decide +kernel)
  have lk8 := hts (.fieldLink RX8 12 "RateBook" "town" "LRateBook$Town;") (by decide +kernel)
  have lk9 := hts (.classLink RX8 16 RX3) (by decide +kernel)
  have lk10 := hts (.instantiable RX3 2) (by decide +kernel)
  have lk11 := hts (.initialized RX3) (by decide +kernel)
  have lk12 := hts (.methodLink RX8 18 yX3_init) (by decide +kernel)
  have lk13 := hts (.instanceMethod yX3_init) (by decide +kernel)
  have lk14 := hts (.fieldLink RX8 19 "RateBook" "lists" "LRateBook$Lists;") (by decide +kernel)
  have lk15 := hts (.arrayClass .long) (by decide +kernel)
  have lk16 := hts (.fieldLink RX8 23 "RateBook" "yearSums" "[J") (by decide +kernel)
  have lk17 := hts (.classLink RX8 27 RX7) (by decide +kernel)
  have lk18 := hts (.fieldLink RX8 29 "RateBook" "books" "[LRateBook$YearBook;") (by decide +kernel)
  have lk19 := hts (.instantiable RX7 5) (by decide +kernel)
  have lk20 := hts (.initialized RX7) (by decide +kernel)
  have lk21 := hts (.methodLink RX8 33 yX7_init) (by decide +kernel)
  have lk22 := hts (.instanceMethod yX7_init) (by decide +kernel)
  obtain ⟨hsz, hP⟩ := hP
  have hF0 : Fr s.heap s.heap (fun x => x = q) 0 := Fr.rf
  have hlt_0 := (hP).lt
  refine lv_aload_n hx hb dX8_init_0 rfl (lv_at hl 0 rfl) ?_
  refine W.objInit hx hb hown lk0 lk1 lk2 rfl (by rw [hml]; exact hl.1) rfl dX8_init_1 (Nat.le_of_ble_eq_true rfl) (Nat.le_of_ble_eq_true rfl) ?_
  refine W.eq (g2 := F0 m 4 ls []) rfl ?_
  refine lv_aload_n hx hb dX8_init_4 rfl (lv_at hl 0 rfl) ?_
  refine j_new (ci := 5) (fs := [.null, .int (J 0)]) hx hb hts inX5_ tyX5 tyX5_ok hown lk3 lk4 lk5 hK rfl (fun j hj => by rcases (show j = 0 ∨ j = 1 by omega) with rfl | rfl <;> rfl) (Nat.le_of_ble_eq_true rfl) (Nat.le_of_ble_eq_true rfl) dX8_init_5 (fun q_2 H_1 hc_3 hn_4 => ?_)
  have hc_3 : At G H_1 q_2 (eO 5 [.null, .int (J 0)]) := hc_3
  have ce_5 : At G H_1 q (eO 8 [.null, .null, .null, .null]) := hP.n hn_4
  obtain rfl : sz = q_2 := by have z1 := hn_4.1; have z2 := hF0.1; omega
  have hF_6 : Fr s.heap H_1 (fun x => x = q) 1 := hF0.n hn_4
  refine lv_dup hx hb dX8_init_8 rfl ?_
  refine e_I (A := (fun x => (fun x => x = q) x ∨ sz ≤ x)) (b := sz) (As := []) (rest := [.ref sz, .ref q]) hx hb hml hown hts hK hl.1 (c_X5_init l G sz (sz + 1)) (cwI 0 hts gX8_init_X5_init rfl rfl rfl lk5 lk6 lk7 rfl (by decide +kernel) ⟨Nat.le_of_ble_eq_true rfl, Nat.le_of_ble_eq_true rfl⟩) (⟨by have z1 := hF_6.1; omega, hc_3⟩) rfl rfl (Nat.le_of_ble_eq_true rfl) dX8_init_9 ⟨Nat.le_of_ble_eq_true rfl, Nat.le_of_ble_eq_true rfl⟩ hL0 (fun x hx => hx.elim (fun z => by rw [z]; exact (Or.inr (by omega))) (fun z => Or.inr (by omega))) (fun H_7 lo_8 hp_9 hL_10 => ?_)
  show W p l e (headSpec wsX8_init rmX8_init).room s m ([.ref q] : List Value).toArray below meth c H_7 lo_8 (1 + 1) (2 + 40) (MQ below (QE (none : Option Value) (fun H H1 => Fr H H1 (fun x => x = q) 36 ∧ At G H1 q (eO 8 [.ref sz, .ref (sz + 2), .ref (sz + 5), .ref (sz + 4)]) ∧ At G H1 sz (eO 5 [.ref (sz + 1), .int (J 0)]) ∧ At G H1 (sz + 1) (eQ G 4 40 (fun _ => none)) ∧ At G H1 (sz + 2) (eO 3 [.ref (sz + 3), .int (J 0)]) ∧ At G H1 (sz + 3) (eQ G 5 10 (fun _ => none)) ∧ At G H1 (sz + 4) (eL G 40 (fun _ => 0)) ∧ At G H1 (sz + 5) (eQ G 7 10 (fun j => some (sz + (6 + 3 * j.toNat)))) ∧ ∀ j : Int, 0 ≤ j → j < 10 → At G H1 (sz + (6 + 3 * j.toNat)) (eO 7 [.ref (sz + (6 + 3 * j.toNat) + 1), .ref (sz + (6 + 3 * j.toNat) + 2), .int (J 0), .int (J 0), .int (J 0)]) ∧ At G H1 (sz + (6 + 3 * j.toNat) + 1) (eI G 40 (fun _ => -4)) ∧ At G H1 (sz + (6 + 3 * j.toNat) + 2) (eI G 40 (fun _ => 0)))) ([.ref q] : List Value).toArray s 36 954 (fun x => (fun x => x = q) x ∨ sz ≤ x)) (F0 m 12 ls [.ref sz, .ref q])
  have hf_12 : Fr H_1 H_7 (fun x => x = sz) 1 := hp_9.1
  have hF_11 : Fr s.heap H_7 (fun x => x = q) 2 := hF_6.f hf_12 (fun x hx z => by subst z; exact (fun z => absurd z (by omega)) hx)
  have ce_13 : At G H_7 q (eO 8 [.null, .null, .null, .null]) := ce_5.f hf_12 (fun z => absurd z (by omega))
  have hi_14 := hp_9
  refine j_putF (ci := 8) (A := (fun x => (fun x => x = q) x ∨ sz ≤ x)) (ty := (.object "RateBook$Town")) hx hb hts inX8_ tyX8 tyX8_ok nmX8 hown hK ce_13 rfl 0 (by decide) lk8 (fun _ h9 => h9) rfl hin rfl (by decide +kernel) rfl rfl (Nat.le_of_ble_eq_true rfl) hL_10 (Or.inl rfl) dX8_init_12 (fun H_15 lo_16 hc_17 hx_18 hL_19 => ?_)
  have hc_17 : At G H_15 q (eO 8 [.ref sz, .null, .null, .null]) := hc_17
  have ce_20 : At G H_15 sz (eO 5 [.ref (sz + 1), .int (J 0)]) := hi_14.2.1.x hx_18 (by first | omega | assumption | (apply Ne.symm; assumption))
  have ce_21 : At G H_15 (sz + 1) (eQ G 4 40 (fun _ => none)) := hi_14.2.2.x hx_18 (by first | omega | assumption | (apply Ne.symm; assumption))
  have hF_22 : Fr s.heap H_15 (fun x => x = q) 2 := hF_11.x hx_18 (fun _ => rfl)
  refine lv_aload_n hx hb dX8_init_15 rfl (lv_at hl 0 rfl) ?_
  refine j_new (ci := 3) (fs := [.null, .int (J 0)]) hx hb hts inX3_ tyX3 tyX3_ok hown lk9 lk10 lk11 hK rfl (fun j hj => by rcases (show j = 0 ∨ j = 1 by omega) with rfl | rfl <;> rfl) (Nat.le_of_ble_eq_true rfl) (Nat.le_of_ble_eq_true rfl) dX8_init_16 (fun q_24 H_23 hc_25 hn_26 => ?_)
  have hc_25 : At G H_23 q_24 (eO 3 [.null, .int (J 0)]) := hc_25
  have ce_27 : At G H_23 sz (eO 5 [.ref (sz + 1), .int (J 0)]) := ce_20.n hn_26
  have ce_28 : At G H_23 (sz + 1) (eQ G 4 40 (fun _ => none)) := ce_21.n hn_26
  have ce_29 : At G H_23 q (eO 8 [.ref sz, .null, .null, .null]) := hc_17.n hn_26
  obtain rfl : sz + 2 = q_24 := by have z1 := hn_26.1; have z2 := hF_22.1; omega
  have hF_30 : Fr s.heap H_23 (fun x => x = q) 3 := hF_22.n hn_26
  refine lv_dup hx hb dX8_init_19 rfl ?_
  refine e_I (A := (fun x => (fun x => x = q) x ∨ sz ≤ x)) (b := sz + 2) (As := []) (rest := [.ref (sz + 2), .ref q]) hx hb hml hown hts hK hl.1 (c_X3_init l G (sz + 2) (sz + 3)) (cwI 0 hts gX8_init_X3_init rfl rfl rfl lk11 lk12 lk13 rfl (by decide +kernel) ⟨Nat.le_of_ble_eq_true rfl, Nat.le_of_ble_eq_true rfl⟩) (⟨by have z1 := hF_30.1; omega, hc_25⟩) rfl rfl (Nat.le_of_ble_eq_true rfl) dX8_init_20 ⟨Nat.le_of_ble_eq_true rfl, Nat.le_of_ble_eq_true rfl⟩ hL_19 (fun x hx => hx.elim (fun z => by rw [z]; exact (Or.inr (by omega))) (fun z => Or.inr (by omega))) (fun H_31 lo_32 hp_33 hL_34 => ?_)
  show W p l e (headSpec wsX8_init rmX8_init).room s m ([.ref q] : List Value).toArray below meth c H_31 lo_32 (3 + 1) (44 + 10) (MQ below (QE (none : Option Value) (fun H H1 => Fr H H1 (fun x => x = q) 36 ∧ At G H1 q (eO 8 [.ref sz, .ref (sz + 2), .ref (sz + 5), .ref (sz + 4)]) ∧ At G H1 sz (eO 5 [.ref (sz + 1), .int (J 0)]) ∧ At G H1 (sz + 1) (eQ G 4 40 (fun _ => none)) ∧ At G H1 (sz + 2) (eO 3 [.ref (sz + 3), .int (J 0)]) ∧ At G H1 (sz + 3) (eQ G 5 10 (fun _ => none)) ∧ At G H1 (sz + 4) (eL G 40 (fun _ => 0)) ∧ At G H1 (sz + 5) (eQ G 7 10 (fun j => some (sz + (6 + 3 * j.toNat)))) ∧ ∀ j : Int, 0 ≤ j → j < 10 → At G H1 (sz + (6 + 3 * j.toNat)) (eO 7 [.ref (sz + (6 + 3 * j.toNat) + 1), .ref (sz + (6 + 3 * j.toNat) + 2), .int (J 0), .int (J 0), .int (J 0)]) ∧ At G H1 (sz + (6 + 3 * j.toNat) + 1) (eI G 40 (fun _ => -4)) ∧ At G H1 (sz + (6 + 3 * j.toNat) + 2) (eI G 40 (fun _ => 0)))) ([.ref q] : List Value).toArray s 36 954 (fun x => (fun x => x = q) x ∨ sz ≤ x)) (F0 m 23 ls [.ref (sz + 2), .ref q])
  have hf_36 : Fr H_23 H_31 (fun x => x = (sz + 2)) 1 := hp_33.1
  have hF_35 : Fr s.heap H_31 (fun x => x = q) 4 := hF_30.f hf_36 (fun x hx z => by rw [z] at hx ⊢; exact (fun z => absurd z (by omega)) hx)
  have ce_37 : At G H_31 sz (eO 5 [.ref (sz + 1), .int (J 0)]) := ce_27.f hf_36 (fun z => absurd z (by omega))
  have ce_38 : At G H_31 (sz + 1) (eQ G 4 40 (fun _ => none)) := ce_28.f hf_36 (fun z => absurd z (by omega))
  have ce_39 : At G H_31 q (eO 8 [.ref sz, .null, .null, .null]) := ce_29.f hf_36 (fun z => absurd z (by first | omega | assumption | (apply Ne.symm; assumption)))
  have hi_40 := hp_33
  refine j_putF (ci := 8) (A := (fun x => (fun x => x = q) x ∨ sz ≤ x)) (ty := (.object "RateBook$Lists")) hx hb hts inX8_ tyX8 tyX8_ok nmX8 hown hK ce_39 rfl 1 (by decide) lk14 (fun _ h9 => h9) rfl hin rfl (by decide +kernel) rfl rfl (Nat.le_of_ble_eq_true rfl) hL_34 (Or.inl rfl) dX8_init_23 (fun H_41 lo_42 hc_43 hx_44 hL_45 => ?_)
  have hc_43 : At G H_41 q (eO 8 [.ref sz, .ref (sz + 2), .null, .null]) := hc_43
  have ce_46 : At G H_41 sz (eO 5 [.ref (sz + 1), .int (J 0)]) := ce_37.x hx_44 (by first | omega | assumption | (apply Ne.symm; assumption))
  have ce_47 : At G H_41 (sz + 1) (eQ G 4 40 (fun _ => none)) := ce_38.x hx_44 (by first | omega | assumption | (apply Ne.symm; assumption))
  have ce_48 : At G H_41 (sz + 2) (eO 3 [.ref (sz + 3), .int (J 0)]) := hi_40.2.1.x hx_44 (by first | omega | assumption | (apply Ne.symm; assumption))
  have ce_49 : At G H_41 (sz + 3) (eQ G 5 10 (fun _ => none)) := hi_40.2.2.x hx_44 (by first | omega | assumption | (apply Ne.symm; assumption))
  have hF_50 : Fr s.heap H_41 (fun x => x = q) 4 := hF_35.x hx_44 (fun _ => rfl)
  refine lv_aload_n hx hb dX8_init_26 rfl (lv_at hl 0 rfl) ?_
  refine j_bi hx hb dX8_init_27 (by decide +kernel) ?_
  refine j_newL (n := 40) hx hb lk15 hK rfl (by decide) (Nat.le_of_ble_eq_true rfl) (Nat.le_of_ble_eq_true rfl) dX8_init_29 (fun q_52 H_51 hc_53 hn_54 => ?_)
  have hc_53 : At G H_51 q_52 (eL G 40 (fun _ => 0)) := hc_53
  have ce_55 : At G H_51 sz (eO 5 [.ref (sz + 1), .int (J 0)]) := ce_46.n hn_54
  have ce_56 : At G H_51 (sz + 1) (eQ G 4 40 (fun _ => none)) := ce_47.n hn_54
  have ce_57 : At G H_51 (sz + 2) (eO 3 [.ref (sz + 3), .int (J 0)]) := ce_48.n hn_54
  have ce_58 : At G H_51 (sz + 3) (eQ G 5 10 (fun _ => none)) := ce_49.n hn_54
  have ce_59 : At G H_51 q (eO 8 [.ref sz, .ref (sz + 2), .null, .null]) := hc_43.n hn_54
  obtain rfl : sz + 4 = q_52 := by have z1 := hn_54.1; have z2 := hF_50.1; omega
  have hF_60 : Fr s.heap H_51 (fun x => x = q) 5 := hF_50.n hn_54
  refine j_putF (ci := 8) (A := (fun x => (fun x => x = q) x ∨ sz ≤ x)) (ty := (.array .long)) hx hb hts inX8_ tyX8 tyX8_ok nmX8 hown hK ce_59 rfl 3 (by decide) lk16 (fun _ h9 => h9) rfl hin rfl (by decide +kernel) rfl rfl (Nat.le_of_ble_eq_true rfl) hL_45 (Or.inl rfl) dX8_init_31 (fun H_61 lo_62 hc_63 hx_64 hL_65 => ?_)
  have hc_63 : At G H_61 q (eO 8 [.ref sz, .ref (sz + 2), .null, .ref (sz + 4)]) := hc_63
  have ce_66 : At G H_61 sz (eO 5 [.ref (sz + 1), .int (J 0)]) := ce_55.x hx_64 (by first | omega | assumption | (apply Ne.symm; assumption))
  have ce_67 : At G H_61 (sz + 1) (eQ G 4 40 (fun _ => none)) := ce_56.x hx_64 (by first | omega | assumption | (apply Ne.symm; assumption))
  have ce_68 : At G H_61 (sz + 2) (eO 3 [.ref (sz + 3), .int (J 0)]) := ce_57.x hx_64 (by first | omega | assumption | (apply Ne.symm; assumption))
  have ce_69 : At G H_61 (sz + 3) (eQ G 5 10 (fun _ => none)) := ce_58.x hx_64 (by first | omega | assumption | (apply Ne.symm; assumption))
  have ce_70 : At G H_61 (sz + 4) (eL G 40 (fun _ => 0)) := hc_53.x hx_64 (by first | omega | assumption | (apply Ne.symm; assumption))
  have hF_71 : Fr s.heap H_61 (fun x => x = q) 5 := hF_60.x hx_64 (fun _ => rfl)
  refine lv_aload_n hx hb dX8_init_34 rfl (lv_at hl 0 rfl) ?_
  refine j_bi hx hb dX8_init_35 (by decide +kernel) ?_
  refine j_newQ (k := 7) (C := RX7) (n := 10) hx hb hown lk17 hK.2.2.2.2.2.2 hK rfl rfl (by decide) (Nat.le_of_ble_eq_true rfl) (Nat.le_of_ble_eq_true rfl) dX8_init_37 (fun q_73 H_72 hc_74 hn_75 => ?_)
  have hc_74 : At G H_72 q_73 (eQ G 7 10 (fun _ => none)) := hc_74
  have ce_76 : At G H_72 sz (eO 5 [.ref (sz + 1), .int (J 0)]) := ce_66.n hn_75
  have ce_77 : At G H_72 (sz + 1) (eQ G 4 40 (fun _ => none)) := ce_67.n hn_75
  have ce_78 : At G H_72 (sz + 2) (eO 3 [.ref (sz + 3), .int (J 0)]) := ce_68.n hn_75
  have ce_79 : At G H_72 (sz + 3) (eQ G 5 10 (fun _ => none)) := ce_69.n hn_75
  have ce_80 : At G H_72 (sz + 4) (eL G 40 (fun _ => 0)) := ce_70.n hn_75
  have ce_81 : At G H_72 q (eO 8 [.ref sz, .ref (sz + 2), .null, .ref (sz + 4)]) := hc_63.n hn_75
  obtain rfl : sz + 5 = q_73 := by have z1 := hn_75.1; have z2 := hF_71.1; omega
  have hF_82 : Fr s.heap H_72 (fun x => x = q) 6 := hF_71.n hn_75
  refine j_putF (ci := 8) (A := (fun x => (fun x => x = q) x ∨ sz ≤ x)) (ty := (.array (.object "RateBook$YearBook"))) hx hb hts inX8_ tyX8 tyX8_ok nmX8 hown hK ce_81 rfl 2 (by decide) lk18 (fun _ h9 => h9) rfl hin rfl (by decide +kernel) rfl rfl (Nat.le_of_ble_eq_true rfl) hL_65 (Or.inl rfl) dX8_init_40 (fun H_83 lo_84 hc_85 hx_86 hL_87 => ?_)
  have hc_85 : At G H_83 q (eO 8 [.ref sz, .ref (sz + 2), .ref (sz + 5), .ref (sz + 4)]) := hc_85
  have ce_88 : At G H_83 sz (eO 5 [.ref (sz + 1), .int (J 0)]) := ce_76.x hx_86 (by first | omega | assumption | (apply Ne.symm; assumption))
  have ce_89 : At G H_83 (sz + 1) (eQ G 4 40 (fun _ => none)) := ce_77.x hx_86 (by first | omega | assumption | (apply Ne.symm; assumption))
  have ce_90 : At G H_83 (sz + 2) (eO 3 [.ref (sz + 3), .int (J 0)]) := ce_78.x hx_86 (by first | omega | assumption | (apply Ne.symm; assumption))
  have ce_91 : At G H_83 (sz + 3) (eQ G 5 10 (fun _ => none)) := ce_79.x hx_86 (by first | omega | assumption | (apply Ne.symm; assumption))
  have ce_92 : At G H_83 (sz + 4) (eL G 40 (fun _ => 0)) := ce_80.x hx_86 (by first | omega | assumption | (apply Ne.symm; assumption))
  have ce_93 : At G H_83 (sz + 5) (eQ G 7 10 (fun _ => none)) := hc_74.x hx_86 (by first | omega | assumption | (apply Ne.symm; assumption))
  have hF_94 : Fr s.heap H_83 (fun x => x = q) 6 := hF_82.x hx_86 (fun _ => rfl)
  refine j_const hx hb dX8_init_43 ?_
  refine lv_istore_n (lv' := [(1, .int (J 0)), (0, .ref q)]) hx hb dX8_init_44 rfl hl (by decide) rfl (fun ls hl => ?_)
  have lp45 : ∀ (n : Nat) (i : Int) (H45 : Heap) (lo45 : List Loc) (hL45 : ∀ z9 ∈ lo45, (fun x => (fun x => x = q) x ∨ sz ≤ x) z9.base) (i0 : 0 ≤ i ∧ i ≤ 10) (hFl : Fr s.heap H45 (fun x => x = q) (6 + 3 * i.toNat)) (lq : At G H45 (q) (eO 8 [.ref sz, .ref (sz + 2), .ref (sz + 5), .ref (sz + 4)])) (lt : At G H45 (sz) (eO 5 [.ref (sz + 1), .int (J 0)])) (ltr : At G H45 (sz + 1) (eQ G 4 40 (fun _ => none))) (ll : At G H45 (sz + 2) (eO 3 [.ref (sz + 3), .int (J 0)])) (llr : At G H45 (sz + 3) (eQ G 5 10 (fun _ => none))) (ly : At G H45 (sz + 4) (eL G 40 (fun _ => 0))) (lb : At G H45 (sz + 5) (eQ G 7 10 (fun j => if j < i then some (sz + (6 + 3 * j.toNat)) else none))) (hyl : ∀ j : Int, 0 ≤ j → j < i → At G H45 (sz + (6 + 3 * j.toNat)) (eO 7 [.ref (sz + (6 + 3 * j.toNat) + 1), .ref (sz + (6 + 3 * j.toNat) + 2), .int (J 0), .int (J 0), .int (J 0)]) ∧ At G H45 (sz + (6 + 3 * j.toNat) + 1) (eI G 40 (fun _ => -4)) ∧ At G H45 (sz + (6 + 3 * j.toNat) + 2) (eI G 40 (fun _ => 0))) (hm : 10 - i < (n : Int)) (ls : Array Slot) (hl : lv_has ls 2 [(1, .int (J i)), (0, .ref q)]), W p l e (headSpec wsX8_init rmX8_init).room s m ([.ref q] : List Value).toArray below meth c H45 lo45 (6 + 3 * i.toNat) (104 + 85 * i.toNat) (MQ below (QE (none : Option Value) (fun H H1 => Fr H H1 (fun x => x = q) 36 ∧ At G H1 q (eO 8 [.ref sz, .ref (sz + 2), .ref (sz + 5), .ref (sz + 4)]) ∧ At G H1 sz (eO 5 [.ref (sz + 1), .int (J 0)]) ∧ At G H1 (sz + 1) (eQ G 4 40 (fun _ => none)) ∧ At G H1 (sz + 2) (eO 3 [.ref (sz + 3), .int (J 0)]) ∧ At G H1 (sz + 3) (eQ G 5 10 (fun _ => none)) ∧ At G H1 (sz + 4) (eL G 40 (fun _ => 0)) ∧ At G H1 (sz + 5) (eQ G 7 10 (fun j => some (sz + (6 + 3 * j.toNat)))) ∧ ∀ j : Int, 0 ≤ j → j < 10 → At G H1 (sz + (6 + 3 * j.toNat)) (eO 7 [.ref (sz + (6 + 3 * j.toNat) + 1), .ref (sz + (6 + 3 * j.toNat) + 2), .int (J 0), .int (J 0), .int (J 0)]) ∧ At G H1 (sz + (6 + 3 * j.toNat) + 1) (eI G 40 (fun _ => -4)) ∧ At G H1 (sz + (6 + 3 * j.toNat) + 2) (eI G 40 (fun _ => 0)))) ([.ref q] : List Value).toArray s 36 954 (fun x => (fun x => x = q) x ∨ sz ≤ x)) (F0 m 45 ls []) := by
    intro n
    induction n with
    | zero =>
      intro i H45 lo45 hL45 i0 hFl lq lt ltr ll llr ly lb hyl hm ls hl
      exact absurd hm (by omega)
    | succ n ih45 =>
      intro i H45 lo45 hL45 i0 hFl lq lt ltr ll llr ly lb hyl hm ls hl
      refine lv_iload_n hx hb dX8_init_45 rfl (lv_at hl 0 rfl) ?_
      refine lv_aload_n hx hb dX8_init_46 rfl (lv_at hl 1 rfl) ?_
      refine j_get (ci := 8) (v := .ref (sz + 5)) hx hb hts inX8_ hown hK lq rfl 2 (by decide) lk18 (fun _ h9 => h9) rfl dX8_init_47 ?_
      refine j_alQ (C := RX7) hx hb hK lb rfl dX8_init_50 ?_
      refine j_re (y := 10) rfl ?_
      refine j_cge (tgt := 73) hx hb (by omega) (by omega) (by decide) (by decide) dX8_init_51 (by decide) (fun c51 => ?_) (fun c51 => ?_)
      · exact r_vE hx hb hr hlk (by omega) (by omega) rfl hL45 (⟨(show 6 + 3 * i.toNat = 36 by omega) ▸ hFl, lq, lt, ltr, ll, llr, ly, eQ_congr (fun j h1 h2 => if_pos (by omega)) lb, fun j z1 z2 => hyl j z1 (by omega)⟩) dX8_init_73
      · refine lv_aload_n hx hb dX8_init_54 rfl (lv_at hl 1 rfl) ?_
        refine j_get (ci := 8) (v := .ref (sz + 5)) hx hb hts inX8_ hown hK lq rfl 2 (by decide) lk18 (fun _ h9 => h9) rfl dX8_init_55 ?_
        refine lv_iload_n hx hb dX8_init_58 rfl (lv_at hl 0 rfl) ?_
        refine j_new (ci := 7) (fs := [.null, .null, .int (J 0), .int (J 0), .int (J 0)]) hx hb hts inX7_ tyX7 tyX7_ok hown lk17 lk19 lk20 hK rfl (fun j hj => by rcases (show j = 0 ∨ j = 1 ∨ j = 2 ∨ j = 3 ∨ j = 4 by omega) with rfl | rfl | rfl | rfl | rfl <;> rfl) (by have := hm; simp only [headSpec]; omega) (by have := hm; simp only [headSpec]; omega) dX8_init_59 (fun q_96 H_95 hc_97 hn_98 => ?_)
        have hc_97 : At G H_95 q_96 (eO 7 [.null, .null, .int (J 0), .int (J 0), .int (J 0)]) := hc_97
        have ce_99 : At G H_95 q (eO 8 [.ref sz, .ref (sz + 2), .ref (sz + 5), .ref (sz + 4)]) := lq.n hn_98
        have ce_100 : At G H_95 sz (eO 5 [.ref (sz + 1), .int (J 0)]) := lt.n hn_98
        have ce_101 : At G H_95 (sz + 1) (eQ G 4 40 (fun _ => none)) := ltr.n hn_98
        have ce_102 : At G H_95 (sz + 2) (eO 3 [.ref (sz + 3), .int (J 0)]) := ll.n hn_98
        have ce_103 : At G H_95 (sz + 3) (eQ G 5 10 (fun _ => none)) := llr.n hn_98
        have ce_104 : At G H_95 (sz + 4) (eL G 40 (fun _ => 0)) := ly.n hn_98
        have ce_105 : At G H_95 (sz + 5) (eQ G 7 10 (fun j => if j < i then some (sz + (6 + 3 * j.toNat)) else none)) := lb.n hn_98
        have hys_m : ∀ j : Int, 0 ≤ j → j < i → At G H_95 (sz + (6 + 3 * j.toNat)) (eO 7 [.ref (sz + (6 + 3 * j.toNat) + 1), .ref (sz + (6 + 3 * j.toNat) + 2), .int (J 0), .int (J 0), .int (J 0)]) ∧ At G H_95 (sz + (6 + 3 * j.toNat) + 1) (eI G 40 (fun _ => -4)) ∧ At G H_95 (sz + (6 + 3 * j.toNat) + 2) (eI G 40 (fun _ => 0)) := fun j z1 z2 => ⟨(hyl j z1 z2).1.n hn_98, (hyl j z1 z2).2.1.n hn_98, (hyl j z1 z2).2.2.n hn_98⟩
        obtain rfl : sz + (6 + 3 * i.toNat) = q_96 := by have z1 := hn_98.1; have z2 := hFl.1; omega
        have hF_106 : Fr s.heap H_95 (fun x => x = q) (6 + 3 * i.toNat + 1) := hFl.n hn_98
        refine lv_dup hx hb dX8_init_62 rfl ?_
        refine e_I (A := (fun x => (fun x => x = q) x ∨ sz ≤ x)) (b := sz + (6 + 3 * i.toNat)) (As := []) (rest := [.ref (sz + (6 + 3 * i.toNat)), .int (J i), .ref (sz + 5)]) hx hb hml hown hts hK hl.1 (c_X7_init l G (sz + (6 + 3 * i.toNat)) (sz + (6 + 3 * i.toNat + 1))) (cwI 0 hts gX8_init_X7_init rfl rfl rfl lk20 lk21 lk22 rfl (by decide +kernel) ⟨Nat.le_of_ble_eq_true rfl, Nat.le_of_ble_eq_true rfl⟩) (⟨by have z1 := hF_106.1; omega, hc_97⟩) rfl rfl (Nat.le_of_ble_eq_true rfl) dX8_init_63 ⟨by show 6 + 3 * i.toNat + 1 + 2 ≤ 36; omega, by show 104 + 85 * i.toNat + 5 + 80 ≤ 954; omega⟩ hL45 (fun x hx => hx.elim (fun z => by rw [z]; exact (Or.inr (by omega))) (fun z => Or.inr (by omega))) (fun H_107 lo_108 hp_109 hL_110 => ?_)
        show W p l e (headSpec wsX8_init rmX8_init).room s m ([.ref q] : List Value).toArray below meth c H_107 lo_108 ((6 + 3 * i.toNat) + 1 + 2) ((104 + 85 * i.toNat) + 5 + 80) (MQ below (QE (none : Option Value) (fun H H1 => Fr H H1 (fun x => x = q) 36 ∧ At G H1 q (eO 8 [.ref sz, .ref (sz + 2), .ref (sz + 5), .ref (sz + 4)]) ∧ At G H1 sz (eO 5 [.ref (sz + 1), .int (J 0)]) ∧ At G H1 (sz + 1) (eQ G 4 40 (fun _ => none)) ∧ At G H1 (sz + 2) (eO 3 [.ref (sz + 3), .int (J 0)]) ∧ At G H1 (sz + 3) (eQ G 5 10 (fun _ => none)) ∧ At G H1 (sz + 4) (eL G 40 (fun _ => 0)) ∧ At G H1 (sz + 5) (eQ G 7 10 (fun j => some (sz + (6 + 3 * j.toNat)))) ∧ ∀ j : Int, 0 ≤ j → j < 10 → At G H1 (sz + (6 + 3 * j.toNat)) (eO 7 [.ref (sz + (6 + 3 * j.toNat) + 1), .ref (sz + (6 + 3 * j.toNat) + 2), .int (J 0), .int (J 0), .int (J 0)]) ∧ At G H1 (sz + (6 + 3 * j.toNat) + 1) (eI G 40 (fun _ => -4)) ∧ At G H1 (sz + (6 + 3 * j.toNat) + 2) (eI G 40 (fun _ => 0)))) ([.ref q] : List Value).toArray s 36 954 (fun x => (fun x => x = q) x ∨ sz ≤ x)) (F0 m 66 ls [.ref (sz + (6 + 3 * i.toNat)), .int (J i), .ref (sz + 5)])
        have hf_112 : Fr H_95 H_107 (fun x => x = (sz + (6 + 3 * i.toNat))) 2 := hp_109.1
        have hF_111 : Fr s.heap H_107 (fun x => x = q) (6 + 3 * i.toNat + 1 + 2) := hF_106.f hf_112 (fun x hx z => by rw [z] at hx ⊢; exact (fun z => absurd z (by omega)) hx)
        have ce_113 : At G H_107 q (eO 8 [.ref sz, .ref (sz + 2), .ref (sz + 5), .ref (sz + 4)]) := ce_99.f hf_112 (fun z => absurd z (by first | omega | assumption | (apply Ne.symm; assumption)))
        have ce_114 : At G H_107 sz (eO 5 [.ref (sz + 1), .int (J 0)]) := ce_100.f hf_112 (fun z => absurd z (by omega))
        have ce_115 : At G H_107 (sz + 1) (eQ G 4 40 (fun _ => none)) := ce_101.f hf_112 (fun z => absurd z (by omega))
        have ce_116 : At G H_107 (sz + 2) (eO 3 [.ref (sz + 3), .int (J 0)]) := ce_102.f hf_112 (fun z => absurd z (by omega))
        have ce_117 : At G H_107 (sz + 3) (eQ G 5 10 (fun _ => none)) := ce_103.f hf_112 (fun z => absurd z (by omega))
        have ce_118 : At G H_107 (sz + 4) (eL G 40 (fun _ => 0)) := ce_104.f hf_112 (fun z => absurd z (by omega))
        have ce_119 : At G H_107 (sz + 5) (eQ G 7 10 (fun j => if j < i then some (sz + (6 + 3 * j.toNat)) else none)) := ce_105.f hf_112 (fun z => absurd z (by omega))
        have hyb := hp_109.2
        have hy_c := hyb.2
        have hys_c : ∀ j : Int, 0 ≤ j → j < i → At G H_107 (sz + (6 + 3 * j.toNat)) (eO 7 [.ref (sz + (6 + 3 * j.toNat) + 1), .ref (sz + (6 + 3 * j.toNat) + 2), .int (J 0), .int (J 0), .int (J 0)]) ∧ At G H_107 (sz + (6 + 3 * j.toNat) + 1) (eI G 40 (fun _ => -4)) ∧ At G H_107 (sz + (6 + 3 * j.toNat) + 2) (eI G 40 (fun _ => 0)) := fun j z1 z2 => ⟨(hys_m j z1 z2).1.f hp_109.1 (fun z => by omega), (hys_m j z1 z2).2.1.f hp_109.1 (fun z => by omega), (hys_m j z1 z2).2.2.f hp_109.1 (fun z => by omega)⟩
        refine j_aast (A := (fun x => (fun x => x = q) x ∨ sz ≤ x)) (r := (RX7, TX7, 5)) hx hb hK ce_119 rfl hyb.1 rfl (by omega) (by omega) (by decide) hL_110 (Or.inr (by omega)) dX8_init_66 (fun H_120 lo_121 hc_122 hx_123 hL_124 => ?_)
        have hc_122 : At G H_120 (sz + 5) (eQ G 7 10 (uf (fun j => if j < i then some (sz + (6 + 3 * j.toNat)) else none) i (some (sz + (6 + 3 * i.toNat))))) := hc_122
        have ce_125 : At G H_120 q (eO 8 [.ref sz, .ref (sz + 2), .ref (sz + 5), .ref (sz + 4)]) := ce_113.x hx_123 (by first | omega | assumption | (apply Ne.symm; assumption))
        have ce_126 : At G H_120 sz (eO 5 [.ref (sz + 1), .int (J 0)]) := ce_114.x hx_123 (by first | omega | assumption | (apply Ne.symm; assumption))
        have ce_127 : At G H_120 (sz + 1) (eQ G 4 40 (fun _ => none)) := ce_115.x hx_123 (by first | omega | assumption | (apply Ne.symm; assumption))
        have ce_128 : At G H_120 (sz + 2) (eO 3 [.ref (sz + 3), .int (J 0)]) := ce_116.x hx_123 (by first | omega | assumption | (apply Ne.symm; assumption))
        have ce_129 : At G H_120 (sz + 3) (eQ G 5 10 (fun _ => none)) := ce_117.x hx_123 (by first | omega | assumption | (apply Ne.symm; assumption))
        have ce_130 : At G H_120 (sz + 4) (eL G 40 (fun _ => 0)) := ce_118.x hx_123 (by first | omega | assumption | (apply Ne.symm; assumption))
        have ce_131 : At G H_120 (sz + (6 + 3 * i.toNat)) (eO 7 [.ref (sz + (6 + 3 * i.toNat + 1)), .ref (sz + (6 + 3 * i.toNat + 1) + 1), .int (J 0), .int (J 0), .int (J 0)]) := hyb.1.x hx_123 (by first | omega | assumption | (apply Ne.symm; assumption))
        have hys_d : ∀ j : Int, 0 ≤ j → j < i → At G H_120 (sz + (6 + 3 * j.toNat)) (eO 7 [.ref (sz + (6 + 3 * j.toNat) + 1), .ref (sz + (6 + 3 * j.toNat) + 2), .int (J 0), .int (J 0), .int (J 0)]) ∧ At G H_120 (sz + (6 + 3 * j.toNat) + 1) (eI G 40 (fun _ => -4)) ∧ At G H_120 (sz + (6 + 3 * j.toNat) + 2) (eI G 40 (fun _ => 0)) := fun j z1 z2 => ⟨(hys_c j z1 z2).1.x hx_123 (by omega), (hys_c j z1 z2).2.1.x hx_123 (by omega), (hys_c j z1 z2).2.2.x hx_123 (by omega)⟩
        have hy_d := And.intro (hy_c.1.x hx_123 (by omega)) (hy_c.2.x hx_123 (by omega))
        have hF_132 : Fr s.heap H_120 (fun x => x = q) (6 + 3 * i.toNat + 1 + 2) := hF_111.x hx_123 (fun z => absurd z (by omega))
        refine lv_iinc (v := J (i + 1)) (lv' := [(1, .int (J (i + 1))), (0, .ref q)]) hx hb dX8_init_67 hl (k := 0) rfl (J_add _ _) (by decide) rfl (fun ls hl => ?_)
        refine lv_goto (tgt := 45) hx hb dX8_init_70 (by decide) ?_
        refine W.cs (cells' := 6 + 3 * (i + 1).toNat) (slots' := 104 + 85 * (i + 1).toNat) (by omega) (by omega) ?_
        have hyn : ∀ j : Int, 0 ≤ j → j < (i + 1) → At G H_120 (sz + (6 + 3 * j.toNat)) (eO 7 [.ref (sz + (6 + 3 * j.toNat) + 1), .ref (sz + (6 + 3 * j.toNat) + 2), .int (J 0), .int (J 0), .int (J 0)]) ∧ At G H_120 (sz + (6 + 3 * j.toNat) + 1) (eI G 40 (fun _ => -4)) ∧ At G H_120 (sz + (6 + 3 * j.toNat) + 2) (eI G 40 (fun _ => 0)) := fun j z1 z2 => if z : j < i then hys_d j z1 z else (show j = i by omega) ▸ ⟨ce_131, hy_d.1, hy_d.2⟩
        exact ih45 (i + 1) H_120 lo_121 hL_124 (by omega) ((show 6 + 3 * i.toNat + 1 + 2 = 6 + 3 * (i + 1).toNat by omega) ▸ hF_132) ce_125 ce_126 ce_127 ce_128 ce_129 ce_130 (eQ_congr (fun j h1 h2 => yb_row (by omega) j) hc_122) hyn (by omega) _ (lv_sub hl [0, 1] rfl)
  exact lp45 11 0 H_83 lo_84 hL_87 (by omega) hF_94 hc_85 ce_88 ce_89 ce_90 ce_91 ce_92 (eQ_congr (fun j h1 h2 => (if_neg (by omega)).symm) ce_93) (fun j h1 h2 => absurd h2 (by omega)) (by omega) _ (lv_sub hl [0, 1] rfl)
