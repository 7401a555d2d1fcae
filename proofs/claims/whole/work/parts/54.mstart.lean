def b0 (q sz : Nat) : Nat → Nat := fun k => if k = 0 then q else sz + (k - 1)
theorem all17 {P : Nat → Prop} (h1 : P 1) (h2 : P 2) (h3 : P 3) (h4 : P 4) (h5 : P 5) (h6 : P 6) (h7 : P 7) (h8 : P 8) (h9 : P 9) (h10 : P 10) (h11 : P 11) (h12 : P 12) (h13 : P 13) (h14 : P 14) (h15 : P 15) (h16 : P 16) (h17 : P 17) : ∀ k, 1 ≤ k → k ≤ 17 → P k := by
  intro k a b
  rcases (show k = 1 ∨ k = 2 ∨ k = 3 ∨ k = 4 ∨ k = 5 ∨ k = 6 ∨ k = 7 ∨ k = 8 ∨ k = 9 ∨ k = 10 ∨ k = 11 ∨ k = 12 ∨ k = 13 ∨ k = 14 ∨ k = 15 ∨ k = 16 ∨ k = 17 by omega) with rfl | rfl | rfl | rfl | rfl | rfl | rfl | rfl | rfl | rfl | rfl | rfl | rfl | rfl | rfl | rfl | rfl
  all_goals assumption
abbrev rmX9_init : Room := { frames := 1, cells := 18, slots := 2920, locals := 12 }
set_option maxHeartbeats 4000000 in
set_option maxRecDepth 100000 in
theorem c_X9_init (l : Launch) (G : GG) (q : Nat) (sz : Nat) : ME l G yX9_init wsX9_init rmX9_init [.ref q] (fun H => H.size = sz ∧ (At G H q (eO 9 [.int (J 0), .null, .null, .null, .null, .null, .null, .null, .null, .null, .int (J 0), .null, .null, .null, .null, .null, .null, .null, .null, .int (J 0), .int (J 0), .null]))) (none : Option Value) (fun x => (fun x => x = q) x ∨ sz ≤ x) (fun H H1 => Fr H H1 (fun x => x = q) 18 ∧ MW G H1 (b0 q sz) V0 0 0 (fun _ => 0)) 18 2920 := by
  refine ME.of (cc := cX9_init) (maxL := 1) (ret := none) (by decide) rfl (Nat.le_of_ble_eq_true rfl) ?_
  intro p e s m below meth c hx hb hr hml hown hts hlk hin hK hP ls hl
  have hL0 : ∀ z9 ∈ ([] : List Loc), (fun x => (fun x => x = q) x ∨ sz ≤ x) z9.base := fun z9 h => absurd h List.not_mem_nil
  have hown : s.vm.findClass RX9 = some m.cls := hown
  have hl : lv_has ls 1 [(0, .ref q)] := hl
  have inX9_ : ∀ w ∈ u_ws RX9 TX9 22, w ∈ wsX9_init := by decide +kernel
  have lk0 := hts (.methodLink RX9 1 objectInit) (by decide +kernel)
  have lk1 := hts (.instanceMethod objectInit) (by decide +kernel)
  have lk2 := hts (.code objectInit ⟨#[0xb1]⟩ 1 none) (by decide +kernel)
  have lk3 := hts (.arrayClass .int) (by decide +kernel)
  have lk4 := hts (.fieldLink RX9 7 "RateBookModel" "ward" "[I") (by decide +kernel)
  have lk5 := hts (.fieldLink RX9 13 "RateBookModel" "kind" "[I") (by decide +kernel)
  have lk6 := hts (.fieldLink RX9 16 "RateBookModel" "street" "[I") (by decide +kernel)
  have lk7 := hts (.fieldLink RX9 19 "RateBookModel" "size" "[I") (by decide +kernel)
  have lk8 := hts (.fieldLink RX9 22 "RateBookModel" "rent" "[I") (by decide +kernel)
  have lk9 := hts (.fieldLink RX9 25 "RateBookModel" "events" "[I") (by decide +kernel)
  have lk10 := hts (.fieldLink RX9 28 "RateBookModel" "eventDay" "[I") (by decide +kernel)
  have lk11 := hts (.fieldLink RX9 31 "RateBookModel" "eventKind" "[I") (by decide +kernel)
  have lk12 := hts (.fieldLink RX9 34 "RateBookModel" "eventValue" "[I") (by decide +kernel)
  have lk13 := hts (.fieldLink RX9 37 "RateBookModel" "listDay" "[I") (by decide +kernel)
  have lk14 := hts (.fieldLink RX9 40 "RateBookModel" "above" "[I") (by decide +kernel)
  have lk15 := hts (.fieldLink RX9 43 "RateBookModel" "below" "[I") (by decide +kernel)
  have lk16 := hts (.arrayClass .boolean) (by decide +kernel)
  have lk17 := hts (.fieldLink RX9 46 "RateBookModel" "isStruck" "[Z") (by decide +kernel)
  have lk18 := hts (.fieldLink RX9 50 "RateBookModel" "poundages" "[I") (by decide +kernel)
  have lk19 := hts (.fieldLink RX9 53 "RateBookModel" "needed" "[I") (by decide +kernel)
  have lk20 := hts (.fieldLink RX9 56 "RateBookModel" "billed" "[I") (by decide +kernel)
  have lk21 := hts (.fieldLink RX9 59 "RateBookModel" "payments" "[I") (by decide +kernel)
  have lk22 := hts (.arrayClass .long) (by decide +kernel)
  have lk23 := hts (.fieldLink RX9 62 "RateBookModel" "years" "[J") (by decide +kernel)
  obtain ⟨hsz, hP⟩ := hP
  have hF0 : Fr s.heap s.heap (fun x => x = q) 0 := Fr.rf
  have hlt_0 := (hP).lt
  refine lv_aload_n hx hb dX9_init_0 rfl (lv_at hl 0 rfl) ?_
  refine W.objInit hx hb hown lk0 lk1 lk2 rfl (by rw [hml]; exact hl.1) rfl dX9_init_1 (Nat.le_of_ble_eq_true rfl) (Nat.le_of_ble_eq_true rfl) ?_
  refine W.eq (g2 := F0 m 4 ls []) rfl ?_
  refine lv_aload_n hx hb dX9_init_4 rfl (lv_at hl 0 rfl) ?_
  refine j_bi hx hb dX9_init_5 (by decide +kernel) ?_
  refine j_newI (n := 40) hx hb lk3 hK rfl (by decide) (Nat.le_of_ble_eq_true rfl) (Nat.le_of_ble_eq_true rfl) dX9_init_7 (fun q_2 H_1 hc_3 hn_4 => ?_)
  have hc_3 : At G H_1 q_2 (eI G 40 (fun _ => 0)) := hc_3
  have ce_5 : At G H_1 q (eO 9 [.int (J 0), .null, .null, .null, .null, .null, .null, .null, .null, .null, .int (J 0), .null, .null, .null, .null, .null, .null, .null, .null, .int (J 0), .int (J 0), .null]) := hP.n hn_4
  obtain rfl : sz = q_2 := by have z1 := hn_4.1; have z2 := hF0.1; omega
  have hF_6 : Fr s.heap H_1 (fun x => x = q) 1 := hF0.n hn_4
  refine j_putF (ci := 9) (A := (fun x => (fun x => x = q) x ∨ sz ≤ x)) (ty := (.array .int)) hx hb hts inX9_ tyX9 tyX9_ok nmX9 hown hK ce_5 rfl 1 (by decide) lk4 (fun _ h9 => h9) rfl hin rfl (by decide +kernel) rfl rfl (Nat.le_of_ble_eq_true rfl) hL0 (Or.inl rfl) dX9_init_9 (fun H_7 lo_8 hc_9 hx_10 hL_11 => ?_)
  have hc_9 : At G H_7 q (eO 9 [.int (J 0), .ref sz, .null, .null, .null, .null, .null, .null, .null, .null, .int (J 0), .null, .null, .null, .null, .null, .null, .null, .null, .int (J 0), .int (J 0), .null]) := hc_9
  have ce_12 : At G H_7 sz (eI G 40 (fun _ => 0)) := hc_3.x hx_10 (by first | omega | assumption | (apply Ne.symm; assumption))
  have hF_13 : Fr s.heap H_7 (fun x => x = q) 1 := hF_6.x hx_10 (fun _ => rfl)
  refine lv_aload_n hx hb dX9_init_12 rfl (lv_at hl 0 rfl) ?_
  refine j_bi hx hb dX9_init_13 (by decide +kernel) ?_
  refine j_newI (n := 40) hx hb lk3 hK rfl (by decide) (Nat.le_of_ble_eq_true rfl) (Nat.le_of_ble_eq_true rfl) dX9_init_15 (fun q_15 H_14 hc_16 hn_17 => ?_)
  have hc_16 : At G H_14 q_15 (eI G 40 (fun _ => 0)) := hc_16
  have ce_18 : At G H_14 sz (eI G 40 (fun _ => 0)) := ce_12.n hn_17
  have ce_19 : At G H_14 q (eO 9 [.int (J 0), .ref sz, .null, .null, .null, .null, .null, .null, .null, .null, .int (J 0), .null, .null, .null, .null, .null, .null, .null, .null, .int (J 0), .int (J 0), .null]) := hc_9.n hn_17
  obtain rfl : sz + 1 = q_15 := by have z1 := hn_17.1; have z2 := hF_13.1; omega
  have hF_20 : Fr s.heap H_14 (fun x => x = q) 2 := hF_13.n hn_17
  refine j_putF (ci := 9) (A := (fun x => (fun x => x = q) x ∨ sz ≤ x)) (ty := (.array .int)) hx hb hts inX9_ tyX9 tyX9_ok nmX9 hown hK ce_19 rfl 2 (by decide) lk5 (fun _ h9 => h9) rfl hin rfl (by decide +kernel) rfl rfl (Nat.le_of_ble_eq_true rfl) hL_11 (Or.inl rfl) dX9_init_17 (fun H_21 lo_22 hc_23 hx_24 hL_25 => ?_)
  have hc_23 : At G H_21 q (eO 9 [.int (J 0), .ref sz, .ref (sz + 1), .null, .null, .null, .null, .null, .null, .null, .int (J 0), .null, .null, .null, .null, .null, .null, .null, .null, .int (J 0), .int (J 0), .null]) := hc_23
  have ce_26 : At G H_21 sz (eI G 40 (fun _ => 0)) := ce_18.x hx_24 (by first | omega | assumption | (apply Ne.symm; assumption))
  have ce_27 : At G H_21 (sz + 1) (eI G 40 (fun _ => 0)) := hc_16.x hx_24 (by first | omega | assumption | (apply Ne.symm; assumption))
  have hF_28 : Fr s.heap H_21 (fun x => x = q) 2 := hF_20.x hx_24 (fun _ => rfl)
  refine lv_aload_n hx hb dX9_init_20 rfl (lv_at hl 0 rfl) ?_
  refine j_bi hx hb dX9_init_21 (by decide +kernel) ?_
  refine j_newI (n := 40) hx hb lk3 hK rfl (by decide) (Nat.le_of_ble_eq_true rfl) (Nat.le_of_ble_eq_true rfl) dX9_init_23 (fun q_30 H_29 hc_31 hn_32 => ?_)
  have hc_31 : At G H_29 q_30 (eI G 40 (fun _ => 0)) := hc_31
  have ce_33 : At G H_29 sz (eI G 40 (fun _ => 0)) := ce_26.n hn_32
  have ce_34 : At G H_29 (sz + 1) (eI G 40 (fun _ => 0)) := ce_27.n hn_32
  have ce_35 : At G H_29 q (eO 9 [.int (J 0), .ref sz, .ref (sz + 1), .null, .null, .null, .null, .null, .null, .null, .int (J 0), .null, .null, .null, .null, .null, .null, .null, .null, .int (J 0), .int (J 0), .null]) := hc_23.n hn_32
  obtain rfl : sz + 2 = q_30 := by have z1 := hn_32.1; have z2 := hF_28.1; omega
  have hF_36 : Fr s.heap H_29 (fun x => x = q) 3 := hF_28.n hn_32
  refine j_putF (ci := 9) (A := (fun x => (fun x => x = q) x ∨ sz ≤ x)) (ty := (.array .int)) hx hb hts inX9_ tyX9 tyX9_ok nmX9 hown hK ce_35 rfl 3 (by decide) lk6 (fun _ h9 => h9) rfl hin rfl (by decide +kernel) rfl rfl (Nat.le_of_ble_eq_true rfl) hL_25 (Or.inl rfl) dX9_init_25 (fun H_37 lo_38 hc_39 hx_40 hL_41 => ?_)
  have hc_39 : At G H_37 q (eO 9 [.int (J 0), .ref sz, .ref (sz + 1), .ref (sz + 2), .null, .null, .null, .null, .null, .null, .int (J 0), .null, .null, .null, .null, .null, .null, .null, .null, .int (J 0), .int (J 0), .null]) := hc_39
  have ce_42 : At G H_37 sz (eI G 40 (fun _ => 0)) := ce_33.x hx_40 (by first | omega | assumption | (apply Ne.symm; assumption))
  have ce_43 : At G H_37 (sz + 1) (eI G 40 (fun _ => 0)) := ce_34.x hx_40 (by first | omega | assumption | (apply Ne.symm; assumption))
  have ce_44 : At G H_37 (sz + 2) (eI G 40 (fun _ => 0)) := hc_31.x hx_40 (by first | omega | assumption | (apply Ne.symm; assumption))
  have hF_45 : Fr s.heap H_37 (fun x => x = q) 3 := hF_36.x hx_40 (fun _ => rfl)
  refine lv_aload_n hx hb dX9_init_28 rfl (lv_at hl 0 rfl) ?_
  refine j_bi hx hb dX9_init_29 (by decide +kernel) ?_
  refine j_newI (n := 40) hx hb lk3 hK rfl (by decide) (Nat.le_of_ble_eq_true rfl) (Nat.le_of_ble_eq_true rfl) dX9_init_31 (fun q_47 H_46 hc_48 hn_49 => ?_)
  have hc_48 : At G H_46 q_47 (eI G 40 (fun _ => 0)) := hc_48
  have ce_50 : At G H_46 sz (eI G 40 (fun _ => 0)) := ce_42.n hn_49
  have ce_51 : At G H_46 (sz + 1) (eI G 40 (fun _ => 0)) := ce_43.n hn_49
  have ce_52 : At G H_46 (sz + 2) (eI G 40 (fun _ => 0)) := ce_44.n hn_49
  have ce_53 : At G H_46 q (eO 9 [.int (J 0), .ref sz, .ref (sz + 1), .ref (sz + 2), .null, .null, .null, .null, .null, .null, .int (J 0), .null, .null, .null, .null, .null, .null, .null, .null, .int (J 0), .int (J 0), .null]) := hc_39.n hn_49
  obtain rfl : sz + 3 = q_47 := by have z1 := hn_49.1; have z2 := hF_45.1; omega
  have hF_54 : Fr s.heap H_46 (fun x => x = q) 4 := hF_45.n hn_49
  refine j_putF (ci := 9) (A := (fun x => (fun x => x = q) x ∨ sz ≤ x)) (ty := (.array .int)) hx hb hts inX9_ tyX9 tyX9_ok nmX9 hown hK ce_53 rfl 4 (by decide) lk7 (fun _ h9 => h9) rfl hin rfl (by decide +kernel) rfl rfl (Nat.le_of_ble_eq_true rfl) hL_41 (Or.inl rfl) dX9_init_33 (fun H_55 lo_56 hc_57 hx_58 hL_59 => ?_)
  have hc_57 : At G H_55 q (eO 9 [.int (J 0), .ref sz, .ref (sz + 1), .ref (sz + 2), .ref (sz + 3), .null, .null, .null, .null, .null, .int (J 0), .null, .null, .null, .null, .null, .null, .null, .null, .int (J 0), .int (J 0), .null]) := hc_57
  have ce_60 : At G H_55 sz (eI G 40 (fun _ => 0)) := ce_50.x hx_58 (by first | omega | assumption | (apply Ne.symm; assumption))
  have ce_61 : At G H_55 (sz + 1) (eI G 40 (fun _ => 0)) := ce_51.x hx_58 (by first | omega | assumption | (apply Ne.symm; assumption))
  have ce_62 : At G H_55 (sz + 2) (eI G 40 (fun _ => 0)) := ce_52.x hx_58 (by first | omega | assumption | (apply Ne.symm; assumption))
  have ce_63 : At G H_55 (sz + 3) (eI G 40 (fun _ => 0)) := hc_48.x hx_58 (by first | omega | assumption | (apply Ne.symm; assumption))
  have hF_64 : Fr s.heap H_55 (fun x => x = q) 4 := hF_54.x hx_58 (fun _ => rfl)
  refine lv_aload_n hx hb dX9_init_36 rfl (lv_at hl 0 rfl) ?_
  refine j_bi hx hb dX9_init_37 (by decide +kernel) ?_
  refine j_newI (n := 40) hx hb lk3 hK rfl (by decide) (Nat.le_of_ble_eq_true rfl) (Nat.le_of_ble_eq_true rfl) dX9_init_39 (fun q_66 H_65 hc_67 hn_68 => ?_)
  have hc_67 : At G H_65 q_66 (eI G 40 (fun _ => 0)) := hc_67
  have ce_69 : At G H_65 sz (eI G 40 (fun _ => 0)) := ce_60.n hn_68
  have ce_70 : At G H_65 (sz + 1) (eI G 40 (fun _ => 0)) := ce_61.n hn_68
  have ce_71 : At G H_65 (sz + 2) (eI G 40 (fun _ => 0)) := ce_62.n hn_68
  have ce_72 : At G H_65 (sz + 3) (eI G 40 (fun _ => 0)) := ce_63.n hn_68
  have ce_73 : At G H_65 q (eO 9 [.int (J 0), .ref sz, .ref (sz + 1), .ref (sz + 2), .ref (sz + 3), .null, .null, .null, .null, .null, .int (J 0), .null, .null, .null, .null, .null, .null, .null, .null, .int (J 0), .int (J 0), .null]) := hc_57.n hn_68
  obtain rfl : sz + 4 = q_66 := by have z1 := hn_68.1; have z2 := hF_64.1; omega
  have hF_74 : Fr s.heap H_65 (fun x => x = q) 5 := hF_64.n hn_68
  refine j_putF (ci := 9) (A := (fun x => (fun x => x = q) x ∨ sz ≤ x)) (ty := (.array .int)) hx hb hts inX9_ tyX9 tyX9_ok nmX9 hown hK ce_73 rfl 5 (by decide) lk8 (fun _ h9 => h9) rfl hin rfl (by decide +kernel) rfl rfl (Nat.le_of_ble_eq_true rfl) hL_59 (Or.inl rfl) dX9_init_41 (fun H_75 lo_76 hc_77 hx_78 hL_79 => ?_)
  have hc_77 : At G H_75 q (eO 9 [.int (J 0), .ref sz, .ref (sz + 1), .ref (sz + 2), .ref (sz + 3), .ref (sz + 4), .null, .null, .null, .null, .int (J 0), .null, .null, .null, .null, .null, .null, .null, .null, .int (J 0), .int (J 0), .null]) := hc_77
  have ce_80 : At G H_75 sz (eI G 40 (fun _ => 0)) := ce_69.x hx_78 (by first | omega | assumption | (apply Ne.symm; assumption))
  have ce_81 : At G H_75 (sz + 1) (eI G 40 (fun _ => 0)) := ce_70.x hx_78 (by first | omega | assumption | (apply Ne.symm; assumption))
  have ce_82 : At G H_75 (sz + 2) (eI G 40 (fun _ => 0)) := ce_71.x hx_78 (by first | omega | assumption | (apply Ne.symm; assumption))
  have ce_83 : At G H_75 (sz + 3) (eI G 40 (fun _ => 0)) := ce_72.x hx_78 (by first | omega | assumption | (apply Ne.symm; assumption))
  have ce_84 : At G H_75 (sz + 4) (eI G 40 (fun _ => 0)) := hc_67.x hx_78 (by first | omega | assumption | (apply Ne.symm; assumption))
  have hF_85 : Fr s.heap H_75 (fun x => x = q) 5 := hF_74.x hx_78 (fun _ => rfl)
  refine lv_aload_n hx hb dX9_init_44 rfl (lv_at hl 0 rfl) ?_
  refine j_bi hx hb dX9_init_45 (by decide +kernel) ?_
  refine j_newI (n := 40) hx hb lk3 hK rfl (by decide) (Nat.le_of_ble_eq_true rfl) (Nat.le_of_ble_eq_true rfl) dX9_init_47 (fun q_87 H_86 hc_88 hn_89 => ?_)
  have hc_88 : At G H_86 q_87 (eI G 40 (fun _ => 0)) := hc_88
  have ce_90 : At G H_86 sz (eI G 40 (fun _ => 0)) := ce_80.n hn_89
  have ce_91 : At G H_86 (sz + 1) (eI G 40 (fun _ => 0)) := ce_81.n hn_89
  have ce_92 : At G H_86 (sz + 2) (eI G 40 (fun _ => 0)) := ce_82.n hn_89
  have ce_93 : At G H_86 (sz + 3) (eI G 40 (fun _ => 0)) := ce_83.n hn_89
  have ce_94 : At G H_86 (sz + 4) (eI G 40 (fun _ => 0)) := ce_84.n hn_89
  have ce_95 : At G H_86 q (eO 9 [.int (J 0), .ref sz, .ref (sz + 1), .ref (sz + 2), .ref (sz + 3), .ref (sz + 4), .null, .null, .null, .null, .int (J 0), .null, .null, .null, .null, .null, .null, .null, .null, .int (J 0), .int (J 0), .null]) := hc_77.n hn_89
  obtain rfl : sz + 5 = q_87 := by have z1 := hn_89.1; have z2 := hF_85.1; omega
  have hF_96 : Fr s.heap H_86 (fun x => x = q) 6 := hF_85.n hn_89
  refine j_putF (ci := 9) (A := (fun x => (fun x => x = q) x ∨ sz ≤ x)) (ty := (.array .int)) hx hb hts inX9_ tyX9 tyX9_ok nmX9 hown hK ce_95 rfl 6 (by decide) lk9 (fun _ h9 => h9) rfl hin rfl (by decide +kernel) rfl rfl (Nat.le_of_ble_eq_true rfl) hL_79 (Or.inl rfl) dX9_init_49 (fun H_97 lo_98 hc_99 hx_100 hL_101 => ?_)
  have hc_99 : At G H_97 q (eO 9 [.int (J 0), .ref sz, .ref (sz + 1), .ref (sz + 2), .ref (sz + 3), .ref (sz + 4), .ref (sz + 5), .null, .null, .null, .int (J 0), .null, .null, .null, .null, .null, .null, .null, .null, .int (J 0), .int (J 0), .null]) := hc_99
  have ce_102 : At G H_97 sz (eI G 40 (fun _ => 0)) := ce_90.x hx_100 (by first | omega | assumption | (apply Ne.symm; assumption))
  have ce_103 : At G H_97 (sz + 1) (eI G 40 (fun _ => 0)) := ce_91.x hx_100 (by first | omega | assumption | (apply Ne.symm; assumption))
  have ce_104 : At G H_97 (sz + 2) (eI G 40 (fun _ => 0)) := ce_92.x hx_100 (by first | omega | assumption | (apply Ne.symm; assumption))
  have ce_105 : At G H_97 (sz + 3) (eI G 40 (fun _ => 0)) := ce_93.x hx_100 (by first | omega | assumption | (apply Ne.symm; assumption))
  have ce_106 : At G H_97 (sz + 4) (eI G 40 (fun _ => 0)) := ce_94.x hx_100 (by first | omega | assumption | (apply Ne.symm; assumption))
  have ce_107 : At G H_97 (sz + 5) (eI G 40 (fun _ => 0)) := hc_88.x hx_100 (by first | omega | assumption | (apply Ne.symm; assumption))
  have hF_108 : Fr s.heap H_97 (fun x => x = q) 6 := hF_96.x hx_100 (fun _ => rfl)
  refine lv_aload_n hx hb dX9_init_52 rfl (lv_at hl 0 rfl) ?_
  refine j_si hx hb dX9_init_53 (by decide +kernel) ?_
  refine j_newI (n := 480) hx hb lk3 hK rfl (by decide) (Nat.le_of_ble_eq_true rfl) (Nat.le_of_ble_eq_true rfl) dX9_init_56 (fun q_110 H_109 hc_111 hn_112 => ?_)
  have hc_111 : At G H_109 q_110 (eI G 480 (fun _ => 0)) := hc_111
  have ce_113 : At G H_109 sz (eI G 40 (fun _ => 0)) := ce_102.n hn_112
  have ce_114 : At G H_109 (sz + 1) (eI G 40 (fun _ => 0)) := ce_103.n hn_112
  have ce_115 : At G H_109 (sz + 2) (eI G 40 (fun _ => 0)) := ce_104.n hn_112
  have ce_116 : At G H_109 (sz + 3) (eI G 40 (fun _ => 0)) := ce_105.n hn_112
  have ce_117 : At G H_109 (sz + 4) (eI G 40 (fun _ => 0)) := ce_106.n hn_112
  have ce_118 : At G H_109 (sz + 5) (eI G 40 (fun _ => 0)) := ce_107.n hn_112
  have ce_119 : At G H_109 q (eO 9 [.int (J 0), .ref sz, .ref (sz + 1), .ref (sz + 2), .ref (sz + 3), .ref (sz + 4), .ref (sz + 5), .null, .null, .null, .int (J 0), .null, .null, .null, .null, .null, .null, .null, .null, .int (J 0), .int (J 0), .null]) := hc_99.n hn_112
  obtain rfl : sz + 6 = q_110 := by have z1 := hn_112.1; have z2 := hF_108.1; omega
  have hF_120 : Fr s.heap H_109 (fun x => x = q) 7 := hF_108.n hn_112
  refine j_putF (ci := 9) (A := (fun x => (fun x => x = q) x ∨ sz ≤ x)) (ty := (.array .int)) hx hb hts inX9_ tyX9 tyX9_ok nmX9 hown hK ce_119 rfl 7 (by decide) lk10 (fun _ h9 => h9) rfl hin rfl (by decide +kernel) rfl rfl (Nat.le_of_ble_eq_true rfl) hL_101 (Or.inl rfl) dX9_init_58 (fun H_121 lo_122 hc_123 hx_124 hL_125 => ?_)
  have hc_123 : At G H_121 q (eO 9 [.int (J 0), .ref sz, .ref (sz + 1), .ref (sz + 2), .ref (sz + 3), .ref (sz + 4), .ref (sz + 5), .ref (sz + 6), .null, .null, .int (J 0), .null, .null, .null, .null, .null, .null, .null, .null, .int (J 0), .int (J 0), .null]) := hc_123
  have ce_126 : At G H_121 sz (eI G 40 (fun _ => 0)) := ce_113.x hx_124 (by first | omega | assumption | (apply Ne.symm; assumption))
  have ce_127 : At G H_121 (sz + 1) (eI G 40 (fun _ => 0)) := ce_114.x hx_124 (by first | omega | assumption | (apply Ne.symm; assumption))
  have ce_128 : At G H_121 (sz + 2) (eI G 40 (fun _ => 0)) := ce_115.x hx_124 (by first | omega | assumption | (apply Ne.symm; assumption))
  have ce_129 : At G H_121 (sz + 3) (eI G 40 (fun _ => 0)) := ce_116.x hx_124 (by first | omega | assumption | (apply Ne.symm; assumption))
  have ce_130 : At G H_121 (sz + 4) (eI G 40 (fun _ => 0)) := ce_117.x hx_124 (by first | omega | assumption | (apply Ne.symm; assumption))
  have ce_131 : At G H_121 (sz + 5) (eI G 40 (fun _ => 0)) := ce_118.x hx_124 (by first | omega | assumption | (apply Ne.symm; assumption))
  have ce_132 : At G H_121 (sz + 6) (eI G 480 (fun _ => 0)) := hc_111.x hx_124 (by first | omega | assumption | (apply Ne.symm; assumption))
  have hF_133 : Fr s.heap H_121 (fun x => x = q) 7 := hF_120.x hx_124 (fun _ => rfl)
  refine lv_aload_n hx hb dX9_init_61 rfl (lv_at hl 0 rfl) ?_
  refine j_si hx hb dX9_init_62 (by decide +kernel) ?_
  refine j_newI (n := 480) hx hb lk3 hK rfl (by decide) (Nat.le_of_ble_eq_true rfl) (Nat.le_of_ble_eq_true rfl) dX9_init_65 (fun q_135 H_134 hc_136 hn_137 => ?_)
  have hc_136 : At G H_134 q_135 (eI G 480 (fun _ => 0)) := hc_136
  have ce_138 : At G H_134 sz (eI G 40 (fun _ => 0)) := ce_126.n hn_137
  have ce_139 : At G H_134 (sz + 1) (eI G 40 (fun _ => 0)) := ce_127.n hn_137
  have ce_140 : At G H_134 (sz + 2) (eI G 40 (fun _ => 0)) := ce_128.n hn_137
  have ce_141 : At G H_134 (sz + 3) (eI G 40 (fun _ => 0)) := ce_129.n hn_137
  have ce_142 : At G H_134 (sz + 4) (eI G 40 (fun _ => 0)) := ce_130.n hn_137
  have ce_143 : At G H_134 (sz + 5) (eI G 40 (fun _ => 0)) := ce_131.n hn_137
  have ce_144 : At G H_134 (sz + 6) (eI G 480 (fun _ => 0)) := ce_132.n hn_137
  have ce_145 : At G H_134 q (eO 9 [.int (J 0), .ref sz, .ref (sz + 1), .ref (sz + 2), .ref (sz + 3), .ref (sz + 4), .ref (sz + 5), .ref (sz + 6), .null, .null, .int (J 0), .null, .null, .null, .null, .null, .null, .null, .null, .int (J 0), .int (J 0), .null]) := hc_123.n hn_137
  obtain rfl : sz + 7 = q_135 := by have z1 := hn_137.1; have z2 := hF_133.1; omega
  have hF_146 : Fr s.heap H_134 (fun x => x = q) 8 := hF_133.n hn_137
  refine j_putF (ci := 9) (A := (fun x => (fun x => x = q) x ∨ sz ≤ x)) (ty := (.array .int)) hx hb hts inX9_ tyX9 tyX9_ok nmX9 hown hK ce_145 rfl 8 (by decide) lk11 (fun _ h9 => h9) rfl hin rfl (by decide +kernel) rfl rfl (Nat.le_of_ble_eq_true rfl) hL_125 (Or.inl rfl) dX9_init_67 (fun H_147 lo_148 hc_149 hx_150 hL_151 => ?_)
  have hc_149 : At G H_147 q (eO 9 [.int (J 0), .ref sz, .ref (sz + 1), .ref (sz + 2), .ref (sz + 3), .ref (sz + 4), .ref (sz + 5), .ref (sz + 6), .ref (sz + 7), .null, .int (J 0), .null, .null, .null, .null, .null, .null, .null, .null, .int (J 0), .int (J 0), .null]) := hc_149
  have ce_152 : At G H_147 sz (eI G 40 (fun _ => 0)) := ce_138.x hx_150 (by first | omega | assumption | (apply Ne.symm; assumption))
  have ce_153 : At G H_147 (sz + 1) (eI G 40 (fun _ => 0)) := ce_139.x hx_150 (by first | omega | assumption | (apply Ne.symm; assumption))
  have ce_154 : At G H_147 (sz + 2) (eI G 40 (fun _ => 0)) := ce_140.x hx_150 (by first | omega | assumption | (apply Ne.symm; assumption))
  have ce_155 : At G H_147 (sz + 3) (eI G 40 (fun _ => 0)) := ce_141.x hx_150 (by first | omega | assumption | (apply Ne.symm; assumption))
  have ce_156 : At G H_147 (sz + 4) (eI G 40 (fun _ => 0)) := ce_142.x hx_150 (by first | omega | assumption | (apply Ne.symm; assumption))
  have ce_157 : At G H_147 (sz + 5) (eI G 40 (fun _ => 0)) := ce_143.x hx_150 (by first | omega | assumption | (apply Ne.symm; assumption))
  have ce_158 : At G H_147 (sz + 6) (eI G 480 (fun _ => 0)) := ce_144.x hx_150 (by first | omega | assumption | (apply Ne.symm; assumption))
  have ce_159 : At G H_147 (sz + 7) (eI G 480 (fun _ => 0)) := hc_136.x hx_150 (by first | omega | assumption | (apply Ne.symm; assumption))
  have hF_160 : Fr s.heap H_147 (fun x => x = q) 8 := hF_146.x hx_150 (fun _ => rfl)
  refine lv_aload_n hx hb dX9_init_70 rfl (lv_at hl 0 rfl) ?_
  refine j_si hx hb dX9_init_71 (by decide +kernel) ?_
  refine j_newI (n := 480) hx hb lk3 hK rfl (by decide) (Nat.le_of_ble_eq_true rfl) (Nat.le_of_ble_eq_true rfl) dX9_init_74 (fun q_162 H_161 hc_163 hn_164 => ?_)
  have hc_163 : At G H_161 q_162 (eI G 480 (fun _ => 0)) := hc_163
  have ce_165 : At G H_161 sz (eI G 40 (fun _ => 0)) := ce_152.n hn_164
  have ce_166 : At G H_161 (sz + 1) (eI G 40 (fun _ => 0)) := ce_153.n hn_164
  have ce_167 : At G H_161 (sz + 2) (eI G 40 (fun _ => 0)) := ce_154.n hn_164
  have ce_168 : At G H_161 (sz + 3) (eI G 40 (fun _ => 0)) := ce_155.n hn_164
  have ce_169 : At G H_161 (sz + 4) (eI G 40 (fun _ => 0)) := ce_156.n hn_164
  have ce_170 : At G H_161 (sz + 5) (eI G 40 (fun _ => 0)) := ce_157.n hn_164
  have ce_171 : At G H_161 (sz + 6) (eI G 480 (fun _ => 0)) := ce_158.n hn_164
  have ce_172 : At G H_161 (sz + 7) (eI G 480 (fun _ => 0)) := ce_159.n hn_164
  have ce_173 : At G H_161 q (eO 9 [.int (J 0), .ref sz, .ref (sz + 1), .ref (sz + 2), .ref (sz + 3), .ref (sz + 4), .ref (sz + 5), .ref (sz + 6), .ref (sz + 7), .null, .int (J 0), .null, .null, .null, .null, .null, .null, .null, .null, .int (J 0), .int (J 0), .null]) := hc_149.n hn_164
  obtain rfl : sz + 8 = q_162 := by have z1 := hn_164.1; have z2 := hF_160.1; omega
  have hF_174 : Fr s.heap H_161 (fun x => x = q) 9 := hF_160.n hn_164
  refine j_putF (ci := 9) (A := (fun x => (fun x => x = q) x ∨ sz ≤ x)) (ty := (.array .int)) hx hb hts inX9_ tyX9 tyX9_ok nmX9 hown hK ce_173 rfl 9 (by decide) lk12 (fun _ h9 => h9) rfl hin rfl (by decide +kernel) rfl rfl (Nat.le_of_ble_eq_true rfl) hL_151 (Or.inl rfl) dX9_init_76 (fun H_175 lo_176 hc_177 hx_178 hL_179 => ?_)
  have hc_177 : At G H_175 q (eO 9 [.int (J 0), .ref sz, .ref (sz + 1), .ref (sz + 2), .ref (sz + 3), .ref (sz + 4), .ref (sz + 5), .ref (sz + 6), .ref (sz + 7), .ref (sz + 8), .int (J 0), .null, .null, .null, .null, .null, .null, .null, .null, .int (J 0), .int (J 0), .null]) := hc_177
  have ce_180 : At G H_175 sz (eI G 40 (fun _ => 0)) := ce_165.x hx_178 (by first | omega | assumption | (apply Ne.symm; assumption))
  have ce_181 : At G H_175 (sz + 1) (eI G 40 (fun _ => 0)) := ce_166.x hx_178 (by first | omega | assumption | (apply Ne.symm; assumption))
  have ce_182 : At G H_175 (sz + 2) (eI G 40 (fun _ => 0)) := ce_167.x hx_178 (by first | omega | assumption | (apply Ne.symm; assumption))
  have ce_183 : At G H_175 (sz + 3) (eI G 40 (fun _ => 0)) := ce_168.x hx_178 (by first | omega | assumption | (apply Ne.symm; assumption))
  have ce_184 : At G H_175 (sz + 4) (eI G 40 (fun _ => 0)) := ce_169.x hx_178 (by first | omega | assumption | (apply Ne.symm; assumption))
  have ce_185 : At G H_175 (sz + 5) (eI G 40 (fun _ => 0)) := ce_170.x hx_178 (by first | omega | assumption | (apply Ne.symm; assumption))
  have ce_186 : At G H_175 (sz + 6) (eI G 480 (fun _ => 0)) := ce_171.x hx_178 (by first | omega | assumption | (apply Ne.symm; assumption))
  have ce_187 : At G H_175 (sz + 7) (eI G 480 (fun _ => 0)) := ce_172.x hx_178 (by first | omega | assumption | (apply Ne.symm; assumption))
  have ce_188 : At G H_175 (sz + 8) (eI G 480 (fun _ => 0)) := hc_163.x hx_178 (by first | omega | assumption | (apply Ne.symm; assumption))
  have hF_189 : Fr s.heap H_175 (fun x => x = q) 9 := hF_174.x hx_178 (fun _ => rfl)
  refine lv_aload_n hx hb dX9_init_79 rfl (lv_at hl 0 rfl) ?_
  refine j_bi hx hb dX9_init_80 (by decide +kernel) ?_
  refine j_newI (n := 10) hx hb lk3 hK rfl (by decide) (Nat.le_of_ble_eq_true rfl) (Nat.le_of_ble_eq_true rfl) dX9_init_82 (fun q_191 H_190 hc_192 hn_193 => ?_)
  have hc_192 : At G H_190 q_191 (eI G 10 (fun _ => 0)) := hc_192
  have ce_194 : At G H_190 sz (eI G 40 (fun _ => 0)) := ce_180.n hn_193
  have ce_195 : At G H_190 (sz + 1) (eI G 40 (fun _ => 0)) := ce_181.n hn_193
  have ce_196 : At G H_190 (sz + 2) (eI G 40 (fun _ => 0)) := ce_182.n hn_193
  have ce_197 : At G H_190 (sz + 3) (eI G 40 (fun _ => 0)) := ce_183.n hn_193
  have ce_198 : At G H_190 (sz + 4) (eI G 40 (fun _ => 0)) := ce_184.n hn_193
  have ce_199 : At G H_190 (sz + 5) (eI G 40 (fun _ => 0)) := ce_185.n hn_193
  have ce_200 : At G H_190 (sz + 6) (eI G 480 (fun _ => 0)) := ce_186.n hn_193
  have ce_201 : At G H_190 (sz + 7) (eI G 480 (fun _ => 0)) := ce_187.n hn_193
  have ce_202 : At G H_190 (sz + 8) (eI G 480 (fun _ => 0)) := ce_188.n hn_193
  have ce_203 : At G H_190 q (eO 9 [.int (J 0), .ref sz, .ref (sz + 1), .ref (sz + 2), .ref (sz + 3), .ref (sz + 4), .ref (sz + 5), .ref (sz + 6), .ref (sz + 7), .ref (sz + 8), .int (J 0), .null, .null, .null, .null, .null, .null, .null, .null, .int (J 0), .int (J 0), .null]) := hc_177.n hn_193
  obtain rfl : sz + 9 = q_191 := by have z1 := hn_193.1; have z2 := hF_189.1; omega
  have hF_204 : Fr s.heap H_190 (fun x => x = q) 10 := hF_189.n hn_193
  refine j_putF (ci := 9) (A := (fun x => (fun x => x = q) x ∨ sz ≤ x)) (ty := (.array .int)) hx hb hts inX9_ tyX9 tyX9_ok nmX9 hown hK ce_203 rfl 11 (by decide) lk13 (fun _ h9 => h9) rfl hin rfl (by decide +kernel) rfl rfl (Nat.le_of_ble_eq_true rfl) hL_179 (Or.inl rfl) dX9_init_84 (fun H_205 lo_206 hc_207 hx_208 hL_209 => ?_)
  have hc_207 : At G H_205 q (eO 9 [.int (J 0), .ref sz, .ref (sz + 1), .ref (sz + 2), .ref (sz + 3), .ref (sz + 4), .ref (sz + 5), .ref (sz + 6), .ref (sz + 7), .ref (sz + 8), .int (J 0), .ref (sz + 9), .null, .null, .null, .null, .null, .null, .null, .int (J 0), .int (J 0), .null]) := hc_207
  have ce_210 : At G H_205 sz (eI G 40 (fun _ => 0)) := ce_194.x hx_208 (by first | omega | assumption | (apply Ne.symm; assumption))
  have ce_211 : At G H_205 (sz + 1) (eI G 40 (fun _ => 0)) := ce_195.x hx_208 (by first | omega | assumption | (apply Ne.symm; assumption))
  have ce_212 : At G H_205 (sz + 2) (eI G 40 (fun _ => 0)) := ce_196.x hx_208 (by first | omega | assumption | (apply Ne.symm; assumption))
  have ce_213 : At G H_205 (sz + 3) (eI G 40 (fun _ => 0)) := ce_197.x hx_208 (by first | omega | assumption | (apply Ne.symm; assumption))
  have ce_214 : At G H_205 (sz + 4) (eI G 40 (fun _ => 0)) := ce_198.x hx_208 (by first | omega | assumption | (apply Ne.symm; assumption))
  have ce_215 : At G H_205 (sz + 5) (eI G 40 (fun _ => 0)) := ce_199.x hx_208 (by first | omega | assumption | (apply Ne.symm; assumption))
  have ce_216 : At G H_205 (sz + 6) (eI G 480 (fun _ => 0)) := ce_200.x hx_208 (by first | omega | assumption | (apply Ne.symm; assumption))
  have ce_217 : At G H_205 (sz + 7) (eI G 480 (fun _ => 0)) := ce_201.x hx_208 (by first | omega | assumption | (apply Ne.symm; assumption))
  have ce_218 : At G H_205 (sz + 8) (eI G 480 (fun _ => 0)) := ce_202.x hx_208 (by first | omega | assumption | (apply Ne.symm; assumption))
  have ce_219 : At G H_205 (sz + 9) (eI G 10 (fun _ => 0)) := hc_192.x hx_208 (by first | omega | assumption | (apply Ne.symm; assumption))
  have hF_220 : Fr s.heap H_205 (fun x => x = q) 10 := hF_204.x hx_208 (fun _ => rfl)
  refine lv_aload_n hx hb dX9_init_87 rfl (lv_at hl 0 rfl) ?_
  refine j_si hx hb dX9_init_88 (by decide +kernel) ?_
  refine j_newI (n := 180) hx hb lk3 hK rfl (by decide) (Nat.le_of_ble_eq_true rfl) (Nat.le_of_ble_eq_true rfl) dX9_init_91 (fun q_222 H_221 hc_223 hn_224 => ?_)
  have hc_223 : At G H_221 q_222 (eI G 180 (fun _ => 0)) := hc_223
  have ce_225 : At G H_221 sz (eI G 40 (fun _ => 0)) := ce_210.n hn_224
  have ce_226 : At G H_221 (sz + 1) (eI G 40 (fun _ => 0)) := ce_211.n hn_224
  have ce_227 : At G H_221 (sz + 2) (eI G 40 (fun _ => 0)) := ce_212.n hn_224
  have ce_228 : At G H_221 (sz + 3) (eI G 40 (fun _ => 0)) := ce_213.n hn_224
  have ce_229 : At G H_221 (sz + 4) (eI G 40 (fun _ => 0)) := ce_214.n hn_224
  have ce_230 : At G H_221 (sz + 5) (eI G 40 (fun _ => 0)) := ce_215.n hn_224
  have ce_231 : At G H_221 (sz + 6) (eI G 480 (fun _ => 0)) := ce_216.n hn_224
  have ce_232 : At G H_221 (sz + 7) (eI G 480 (fun _ => 0)) := ce_217.n hn_224
  have ce_233 : At G H_221 (sz + 8) (eI G 480 (fun _ => 0)) := ce_218.n hn_224
  have ce_234 : At G H_221 (sz + 9) (eI G 10 (fun _ => 0)) := ce_219.n hn_224
  have ce_235 : At G H_221 q (eO 9 [.int (J 0), .ref sz, .ref (sz + 1), .ref (sz + 2), .ref (sz + 3), .ref (sz + 4), .ref (sz + 5), .ref (sz + 6), .ref (sz + 7), .ref (sz + 8), .int (J 0), .ref (sz + 9), .null, .null, .null, .null, .null, .null, .null, .int (J 0), .int (J 0), .null]) := hc_207.n hn_224
  obtain rfl : sz + 10 = q_222 := by have z1 := hn_224.1; have z2 := hF_220.1; omega
  have hF_236 : Fr s.heap H_221 (fun x => x = q) 11 := hF_220.n hn_224
  refine j_putF (ci := 9) (A := (fun x => (fun x => x = q) x ∨ sz ≤ x)) (ty := (.array .int)) hx hb hts inX9_ tyX9 tyX9_ok nmX9 hown hK ce_235 rfl 12 (by decide) lk14 (fun _ h9 => h9) rfl hin rfl (by decide +kernel) rfl rfl (Nat.le_of_ble_eq_true rfl) hL_209 (Or.inl rfl) dX9_init_93 (fun H_237 lo_238 hc_239 hx_240 hL_241 => ?_)
  have hc_239 : At G H_237 q (eO 9 [.int (J 0), .ref sz, .ref (sz + 1), .ref (sz + 2), .ref (sz + 3), .ref (sz + 4), .ref (sz + 5), .ref (sz + 6), .ref (sz + 7), .ref (sz + 8), .int (J 0), .ref (sz + 9), .ref (sz + 10), .null, .null, .null, .null, .null, .null, .int (J 0), .int (J 0), .null]) := hc_239
  have ce_242 : At G H_237 sz (eI G 40 (fun _ => 0)) := ce_225.x hx_240 (by first | omega | assumption | (apply Ne.symm; assumption))
  have ce_243 : At G H_237 (sz + 1) (eI G 40 (fun _ => 0)) := ce_226.x hx_240 (by first | omega | assumption | (apply Ne.symm; assumption))
  have ce_244 : At G H_237 (sz + 2) (eI G 40 (fun _ => 0)) := ce_227.x hx_240 (by first | omega | assumption | (apply Ne.symm; assumption))
  have ce_245 : At G H_237 (sz + 3) (eI G 40 (fun _ => 0)) := ce_228.x hx_240 (by first | omega | assumption | (apply Ne.symm; assumption))
  have ce_246 : At G H_237 (sz + 4) (eI G 40 (fun _ => 0)) := ce_229.x hx_240 (by first | omega | assumption | (apply Ne.symm; assumption))
  have ce_247 : At G H_237 (sz + 5) (eI G 40 (fun _ => 0)) := ce_230.x hx_240 (by first | omega | assumption | (apply Ne.symm; assumption))
  have ce_248 : At G H_237 (sz + 6) (eI G 480 (fun _ => 0)) := ce_231.x hx_240 (by first | omega | assumption | (apply Ne.symm; assumption))
  have ce_249 : At G H_237 (sz + 7) (eI G 480 (fun _ => 0)) := ce_232.x hx_240 (by first | omega | assumption | (apply Ne.symm; assumption))
  have ce_250 : At G H_237 (sz + 8) (eI G 480 (fun _ => 0)) := ce_233.x hx_240 (by first | omega | assumption | (apply Ne.symm; assumption))
  have ce_251 : At G H_237 (sz + 9) (eI G 10 (fun _ => 0)) := ce_234.x hx_240 (by first | omega | assumption | (apply Ne.symm; assumption))
  have ce_252 : At G H_237 (sz + 10) (eI G 180 (fun _ => 0)) := hc_223.x hx_240 (by first | omega | assumption | (apply Ne.symm; assumption))
  have hF_253 : Fr s.heap H_237 (fun x => x = q) 11 := hF_236.x hx_240 (fun _ => rfl)
  refine lv_aload_n hx hb dX9_init_96 rfl (lv_at hl 0 rfl) ?_
  refine j_si hx hb dX9_init_97 (by decide +kernel) ?_
  refine j_newI (n := 180) hx hb lk3 hK rfl (by decide) (Nat.le_of_ble_eq_true rfl) (Nat.le_of_ble_eq_true rfl) dX9_init_100 (fun q_255 H_254 hc_256 hn_257 => ?_)
  have hc_256 : At G H_254 q_255 (eI G 180 (fun _ => 0)) := hc_256
  have ce_258 : At G H_254 sz (eI G 40 (fun _ => 0)) := ce_242.n hn_257
  have ce_259 : At G H_254 (sz + 1) (eI G 40 (fun _ => 0)) := ce_243.n hn_257
  have ce_260 : At G H_254 (sz + 2) (eI G 40 (fun _ => 0)) := ce_244.n hn_257
  have ce_261 : At G H_254 (sz + 3) (eI G 40 (fun _ => 0)) := ce_245.n hn_257
  have ce_262 : At G H_254 (sz + 4) (eI G 40 (fun _ => 0)) := ce_246.n hn_257
  have ce_263 : At G H_254 (sz + 5) (eI G 40 (fun _ => 0)) := ce_247.n hn_257
  have ce_264 : At G H_254 (sz + 6) (eI G 480 (fun _ => 0)) := ce_248.n hn_257
  have ce_265 : At G H_254 (sz + 7) (eI G 480 (fun _ => 0)) := ce_249.n hn_257
  have ce_266 : At G H_254 (sz + 8) (eI G 480 (fun _ => 0)) := ce_250.n hn_257
  have ce_267 : At G H_254 (sz + 9) (eI G 10 (fun _ => 0)) := ce_251.n hn_257
  have ce_268 : At G H_254 (sz + 10) (eI G 180 (fun _ => 0)) := ce_252.n hn_257
  have ce_269 : At G H_254 q (eO 9 [.int (J 0), .ref sz, .ref (sz + 1), .ref (sz + 2), .ref (sz + 3), .ref (sz + 4), .ref (sz + 5), .ref (sz + 6), .ref (sz + 7), .ref (sz + 8), .int (J 0), .ref (sz + 9), .ref (sz + 10), .null, .null, .null, .null, .null, .null, .int (J 0), .int (J 0), .null]) := hc_239.n hn_257
  obtain rfl : sz + 11 = q_255 := by have z1 := hn_257.1; have z2 := hF_253.1; omega
  have hF_270 : Fr s.heap H_254 (fun x => x = q) 12 := hF_253.n hn_257
  refine j_putF (ci := 9) (A := (fun x => (fun x => x = q) x ∨ sz ≤ x)) (ty := (.array .int)) hx hb hts inX9_ tyX9 tyX9_ok nmX9 hown hK ce_269 rfl 13 (by decide) lk15 (fun _ h9 => h9) rfl hin rfl (by decide +kernel) rfl rfl (Nat.le_of_ble_eq_true rfl) hL_241 (Or.inl rfl) dX9_init_102 (fun H_271 lo_272 hc_273 hx_274 hL_275 => ?_)
  have hc_273 : At G H_271 q (eO 9 [.int (J 0), .ref sz, .ref (sz + 1), .ref (sz + 2), .ref (sz + 3), .ref (sz + 4), .ref (sz + 5), .ref (sz + 6), .ref (sz + 7), .ref (sz + 8), .int (J 0), .ref (sz + 9), .ref (sz + 10), .ref (sz + 11), .null, .null, .null, .null, .null, .int (J 0), .int (J 0), .null]) := hc_273
  have ce_276 : At G H_271 sz (eI G 40 (fun _ => 0)) := ce_258.x hx_274 (by first | omega | assumption | (apply Ne.symm; assumption))
  have ce_277 : At G H_271 (sz + 1) (eI G 40 (fun _ => 0)) := ce_259.x hx_274 (by first | omega | assumption | (apply Ne.symm; assumption))
  have ce_278 : At G H_271 (sz + 2) (eI G 40 (fun _ => 0)) := ce_260.x hx_274 (by first | omega | assumption | (apply Ne.symm; assumption))
  have ce_279 : At G H_271 (sz + 3) (eI G 40 (fun _ => 0)) := ce_261.x hx_274 (by first | omega | assumption | (apply Ne.symm; assumption))
  have ce_280 : At G H_271 (sz + 4) (eI G 40 (fun _ => 0)) := ce_262.x hx_274 (by first | omega | assumption | (apply Ne.symm; assumption))
  have ce_281 : At G H_271 (sz + 5) (eI G 40 (fun _ => 0)) := ce_263.x hx_274 (by first | omega | assumption | (apply Ne.symm; assumption))
  have ce_282 : At G H_271 (sz + 6) (eI G 480 (fun _ => 0)) := ce_264.x hx_274 (by first | omega | assumption | (apply Ne.symm; assumption))
  have ce_283 : At G H_271 (sz + 7) (eI G 480 (fun _ => 0)) := ce_265.x hx_274 (by first | omega | assumption | (apply Ne.symm; assumption))
  have ce_284 : At G H_271 (sz + 8) (eI G 480 (fun _ => 0)) := ce_266.x hx_274 (by first | omega | assumption | (apply Ne.symm; assumption))
  have ce_285 : At G H_271 (sz + 9) (eI G 10 (fun _ => 0)) := ce_267.x hx_274 (by first | omega | assumption | (apply Ne.symm; assumption))
  have ce_286 : At G H_271 (sz + 10) (eI G 180 (fun _ => 0)) := ce_268.x hx_274 (by first | omega | assumption | (apply Ne.symm; assumption))
  have ce_287 : At G H_271 (sz + 11) (eI G 180 (fun _ => 0)) := hc_256.x hx_274 (by first | omega | assumption | (apply Ne.symm; assumption))
  have hF_288 : Fr s.heap H_271 (fun x => x = q) 12 := hF_270.x hx_274 (fun _ => rfl)
  refine lv_aload_n hx hb dX9_init_105 rfl (lv_at hl 0 rfl) ?_
  refine j_bi hx hb dX9_init_106 (by decide +kernel) ?_
  refine j_newZ (n := 10) hx hb lk16 hK rfl (by decide) (Nat.le_of_ble_eq_true rfl) (Nat.le_of_ble_eq_true rfl) dX9_init_108 (fun q_290 H_289 hc_291 hn_292 => ?_)
  have hc_291 : At G H_289 q_290 (eZ G 10 (fun _ => 0)) := hc_291
  have ce_293 : At G H_289 sz (eI G 40 (fun _ => 0)) := ce_276.n hn_292
  have ce_294 : At G H_289 (sz + 1) (eI G 40 (fun _ => 0)) := ce_277.n hn_292
  have ce_295 : At G H_289 (sz + 2) (eI G 40 (fun _ => 0)) := ce_278.n hn_292
  have ce_296 : At G H_289 (sz + 3) (eI G 40 (fun _ => 0)) := ce_279.n hn_292
  have ce_297 : At G H_289 (sz + 4) (eI G 40 (fun _ => 0)) := ce_280.n hn_292
  have ce_298 : At G H_289 (sz + 5) (eI G 40 (fun _ => 0)) := ce_281.n hn_292
  have ce_299 : At G H_289 (sz + 6) (eI G 480 (fun _ => 0)) := ce_282.n hn_292
  have ce_300 : At G H_289 (sz + 7) (eI G 480 (fun _ => 0)) := ce_283.n hn_292
  have ce_301 : At G H_289 (sz + 8) (eI G 480 (fun _ => 0)) := ce_284.n hn_292
  have ce_302 : At G H_289 (sz + 9) (eI G 10 (fun _ => 0)) := ce_285.n hn_292
  have ce_303 : At G H_289 (sz + 10) (eI G 180 (fun _ => 0)) := ce_286.n hn_292
  have ce_304 : At G H_289 (sz + 11) (eI G 180 (fun _ => 0)) := ce_287.n hn_292
  have ce_305 : At G H_289 q (eO 9 [.int (J 0), .ref sz, .ref (sz + 1), .ref (sz + 2), .ref (sz + 3), .ref (sz + 4), .ref (sz + 5), .ref (sz + 6), .ref (sz + 7), .ref (sz + 8), .int (J 0), .ref (sz + 9), .ref (sz + 10), .ref (sz + 11), .null, .null, .null, .null, .null, .int (J 0), .int (J 0), .null]) := hc_273.n hn_292
  obtain rfl : sz + 12 = q_290 := by have z1 := hn_292.1; have z2 := hF_288.1; omega
  have hF_306 : Fr s.heap H_289 (fun x => x = q) 13 := hF_288.n hn_292
  refine j_putF (ci := 9) (A := (fun x => (fun x => x = q) x ∨ sz ≤ x)) (ty := (.array .boolean)) hx hb hts inX9_ tyX9 tyX9_ok nmX9 hown hK ce_305 rfl 14 (by decide) lk17 (fun _ h9 => h9) rfl hin rfl (by decide +kernel) rfl rfl (Nat.le_of_ble_eq_true rfl) hL_275 (Or.inl rfl) dX9_init_110 (fun H_307 lo_308 hc_309 hx_310 hL_311 => ?_)
  have hc_309 : At G H_307 q (eO 9 [.int (J 0), .ref sz, .ref (sz + 1), .ref (sz + 2), .ref (sz + 3), .ref (sz + 4), .ref (sz + 5), .ref (sz + 6), .ref (sz + 7), .ref (sz + 8), .int (J 0), .ref (sz + 9), .ref (sz + 10), .ref (sz + 11), .ref (sz + 12), .null, .null, .null, .null, .int (J 0), .int (J 0), .null]) := hc_309
  have ce_312 : At G H_307 sz (eI G 40 (fun _ => 0)) := ce_293.x hx_310 (by first | omega | assumption | (apply Ne.symm; assumption))
  have ce_313 : At G H_307 (sz + 1) (eI G 40 (fun _ => 0)) := ce_294.x hx_310 (by first | omega | assumption | (apply Ne.symm; assumption))
  have ce_314 : At G H_307 (sz + 2) (eI G 40 (fun _ => 0)) := ce_295.x hx_310 (by first | omega | assumption | (apply Ne.symm; assumption))
  have ce_315 : At G H_307 (sz + 3) (eI G 40 (fun _ => 0)) := ce_296.x hx_310 (by first | omega | assumption | (apply Ne.symm; assumption))
  have ce_316 : At G H_307 (sz + 4) (eI G 40 (fun _ => 0)) := ce_297.x hx_310 (by first | omega | assumption | (apply Ne.symm; assumption))
  have ce_317 : At G H_307 (sz + 5) (eI G 40 (fun _ => 0)) := ce_298.x hx_310 (by first | omega | assumption | (apply Ne.symm; assumption))
  have ce_318 : At G H_307 (sz + 6) (eI G 480 (fun _ => 0)) := ce_299.x hx_310 (by first | omega | assumption | (apply Ne.symm; assumption))
  have ce_319 : At G H_307 (sz + 7) (eI G 480 (fun _ => 0)) := ce_300.x hx_310 (by first | omega | assumption | (apply Ne.symm; assumption))
  have ce_320 : At G H_307 (sz + 8) (eI G 480 (fun _ => 0)) := ce_301.x hx_310 (by first | omega | assumption | (apply Ne.symm; assumption))
  have ce_321 : At G H_307 (sz + 9) (eI G 10 (fun _ => 0)) := ce_302.x hx_310 (by first | omega | assumption | (apply Ne.symm; assumption))
  have ce_322 : At G H_307 (sz + 10) (eI G 180 (fun _ => 0)) := ce_303.x hx_310 (by first | omega | assumption | (apply Ne.symm; assumption))
  have ce_323 : At G H_307 (sz + 11) (eI G 180 (fun _ => 0)) := ce_304.x hx_310 (by first | omega | assumption | (apply Ne.symm; assumption))
  have ce_324 : At G H_307 (sz + 12) (eZ G 10 (fun _ => 0)) := hc_291.x hx_310 (by first | omega | assumption | (apply Ne.symm; assumption))
  have hF_325 : Fr s.heap H_307 (fun x => x = q) 13 := hF_306.x hx_310 (fun _ => rfl)
  refine lv_aload_n hx hb dX9_init_113 rfl (lv_at hl 0 rfl) ?_
  refine j_bi hx hb dX9_init_114 (by decide +kernel) ?_
  refine j_newI (n := 10) hx hb lk3 hK rfl (by decide) (Nat.le_of_ble_eq_true rfl) (Nat.le_of_ble_eq_true rfl) dX9_init_116 (fun q_327 H_326 hc_328 hn_329 => ?_)
  have hc_328 : At G H_326 q_327 (eI G 10 (fun _ => 0)) := hc_328
  have ce_330 : At G H_326 sz (eI G 40 (fun _ => 0)) := ce_312.n hn_329
  have ce_331 : At G H_326 (sz + 1) (eI G 40 (fun _ => 0)) := ce_313.n hn_329
  have ce_332 : At G H_326 (sz + 2) (eI G 40 (fun _ => 0)) := ce_314.n hn_329
  have ce_333 : At G H_326 (sz + 3) (eI G 40 (fun _ => 0)) := ce_315.n hn_329
  have ce_334 : At G H_326 (sz + 4) (eI G 40 (fun _ => 0)) := ce_316.n hn_329
  have ce_335 : At G H_326 (sz + 5) (eI G 40 (fun _ => 0)) := ce_317.n hn_329
  have ce_336 : At G H_326 (sz + 6) (eI G 480 (fun _ => 0)) := ce_318.n hn_329
  have ce_337 : At G H_326 (sz + 7) (eI G 480 (fun _ => 0)) := ce_319.n hn_329
  have ce_338 : At G H_326 (sz + 8) (eI G 480 (fun _ => 0)) := ce_320.n hn_329
  have ce_339 : At G H_326 (sz + 9) (eI G 10 (fun _ => 0)) := ce_321.n hn_329
  have ce_340 : At G H_326 (sz + 10) (eI G 180 (fun _ => 0)) := ce_322.n hn_329
  have ce_341 : At G H_326 (sz + 11) (eI G 180 (fun _ => 0)) := ce_323.n hn_329
  have ce_342 : At G H_326 (sz + 12) (eZ G 10 (fun _ => 0)) := ce_324.n hn_329
  have ce_343 : At G H_326 q (eO 9 [.int (J 0), .ref sz, .ref (sz + 1), .ref (sz + 2), .ref (sz + 3), .ref (sz + 4), .ref (sz + 5), .ref (sz + 6), .ref (sz + 7), .ref (sz + 8), .int (J 0), .ref (sz + 9), .ref (sz + 10), .ref (sz + 11), .ref (sz + 12), .null, .null, .null, .null, .int (J 0), .int (J 0), .null]) := hc_309.n hn_329
  obtain rfl : sz + 13 = q_327 := by have z1 := hn_329.1; have z2 := hF_325.1; omega
  have hF_344 : Fr s.heap H_326 (fun x => x = q) 14 := hF_325.n hn_329
  refine j_putF (ci := 9) (A := (fun x => (fun x => x = q) x ∨ sz ≤ x)) (ty := (.array .int)) hx hb hts inX9_ tyX9 tyX9_ok nmX9 hown hK ce_343 rfl 15 (by decide) lk18 (fun _ h9 => h9) rfl hin rfl (by decide +kernel) rfl rfl (Nat.le_of_ble_eq_true rfl) hL_311 (Or.inl rfl) dX9_init_118 (fun H_345 lo_346 hc_347 hx_348 hL_349 => ?_)
  have hc_347 : At G H_345 q (eO 9 [.int (J 0), .ref sz, .ref (sz + 1), .ref (sz + 2), .ref (sz + 3), .ref (sz + 4), .ref (sz + 5), .ref (sz + 6), .ref (sz + 7), .ref (sz + 8), .int (J 0), .ref (sz + 9), .ref (sz + 10), .ref (sz + 11), .ref (sz + 12), .ref (sz + 13), .null, .null, .null, .int (J 0), .int (J 0), .null]) := hc_347
  have ce_350 : At G H_345 sz (eI G 40 (fun _ => 0)) := ce_330.x hx_348 (by first | omega | assumption | (apply Ne.symm; assumption))
  have ce_351 : At G H_345 (sz + 1) (eI G 40 (fun _ => 0)) := ce_331.x hx_348 (by first | omega | assumption | (apply Ne.symm; assumption))
  have ce_352 : At G H_345 (sz + 2) (eI G 40 (fun _ => 0)) := ce_332.x hx_348 (by first | omega | assumption | (apply Ne.symm; assumption))
  have ce_353 : At G H_345 (sz + 3) (eI G 40 (fun _ => 0)) := ce_333.x hx_348 (by first | omega | assumption | (apply Ne.symm; assumption))
  have ce_354 : At G H_345 (sz + 4) (eI G 40 (fun _ => 0)) := ce_334.x hx_348 (by first | omega | assumption | (apply Ne.symm; assumption))
  have ce_355 : At G H_345 (sz + 5) (eI G 40 (fun _ => 0)) := ce_335.x hx_348 (by first | omega | assumption | (apply Ne.symm; assumption))
  have ce_356 : At G H_345 (sz + 6) (eI G 480 (fun _ => 0)) := ce_336.x hx_348 (by first | omega | assumption | (apply Ne.symm; assumption))
  have ce_357 : At G H_345 (sz + 7) (eI G 480 (fun _ => 0)) := ce_337.x hx_348 (by first | omega | assumption | (apply Ne.symm; assumption))
  have ce_358 : At G H_345 (sz + 8) (eI G 480 (fun _ => 0)) := ce_338.x hx_348 (by first | omega | assumption | (apply Ne.symm; assumption))
  have ce_359 : At G H_345 (sz + 9) (eI G 10 (fun _ => 0)) := ce_339.x hx_348 (by first | omega | assumption | (apply Ne.symm; assumption))
  have ce_360 : At G H_345 (sz + 10) (eI G 180 (fun _ => 0)) := ce_340.x hx_348 (by first | omega | assumption | (apply Ne.symm; assumption))
  have ce_361 : At G H_345 (sz + 11) (eI G 180 (fun _ => 0)) := ce_341.x hx_348 (by first | omega | assumption | (apply Ne.symm; assumption))
  have ce_362 : At G H_345 (sz + 12) (eZ G 10 (fun _ => 0)) := ce_342.x hx_348 (by first | omega | assumption | (apply Ne.symm; assumption))
  have ce_363 : At G H_345 (sz + 13) (eI G 10 (fun _ => 0)) := hc_328.x hx_348 (by first | omega | assumption | (apply Ne.symm; assumption))
  have hF_364 : Fr s.heap H_345 (fun x => x = q) 14 := hF_344.x hx_348 (fun _ => rfl)
  refine lv_aload_n hx hb dX9_init_121 rfl (lv_at hl 0 rfl) ?_
  refine j_bi hx hb dX9_init_122 (by decide +kernel) ?_
  refine j_newI (n := 10) hx hb lk3 hK rfl (by decide) (Nat.le_of_ble_eq_true rfl) (Nat.le_of_ble_eq_true rfl) dX9_init_124 (fun q_366 H_365 hc_367 hn_368 => ?_)
  have hc_367 : At G H_365 q_366 (eI G 10 (fun _ => 0)) := hc_367
  have ce_369 : At G H_365 sz (eI G 40 (fun _ => 0)) := ce_350.n hn_368
  have ce_370 : At G H_365 (sz + 1) (eI G 40 (fun _ => 0)) := ce_351.n hn_368
  have ce_371 : At G H_365 (sz + 2) (eI G 40 (fun _ => 0)) := ce_352.n hn_368
  have ce_372 : At G H_365 (sz + 3) (eI G 40 (fun _ => 0)) := ce_353.n hn_368
  have ce_373 : At G H_365 (sz + 4) (eI G 40 (fun _ => 0)) := ce_354.n hn_368
  have ce_374 : At G H_365 (sz + 5) (eI G 40 (fun _ => 0)) := ce_355.n hn_368
  have ce_375 : At G H_365 (sz + 6) (eI G 480 (fun _ => 0)) := ce_356.n hn_368
  have ce_376 : At G H_365 (sz + 7) (eI G 480 (fun _ => 0)) := ce_357.n hn_368
  have ce_377 : At G H_365 (sz + 8) (eI G 480 (fun _ => 0)) := ce_358.n hn_368
  have ce_378 : At G H_365 (sz + 9) (eI G 10 (fun _ => 0)) := ce_359.n hn_368
  have ce_379 : At G H_365 (sz + 10) (eI G 180 (fun _ => 0)) := ce_360.n hn_368
  have ce_380 : At G H_365 (sz + 11) (eI G 180 (fun _ => 0)) := ce_361.n hn_368
  have ce_381 : At G H_365 (sz + 12) (eZ G 10 (fun _ => 0)) := ce_362.n hn_368
  have ce_382 : At G H_365 (sz + 13) (eI G 10 (fun _ => 0)) := ce_363.n hn_368
  have ce_383 : At G H_365 q (eO 9 [.int (J 0), .ref sz, .ref (sz + 1), .ref (sz + 2), .ref (sz + 3), .ref (sz + 4), .ref (sz + 5), .ref (sz + 6), .ref (sz + 7), .ref (sz + 8), .int (J 0), .ref (sz + 9), .ref (sz + 10), .ref (sz + 11), .ref (sz + 12), .ref (sz + 13), .null, .null, .null, .int (J 0), .int (J 0), .null]) := hc_347.n hn_368
  obtain rfl : sz + 14 = q_366 := by have z1 := hn_368.1; have z2 := hF_364.1; omega
  have hF_384 : Fr s.heap H_365 (fun x => x = q) 15 := hF_364.n hn_368
  refine j_putF (ci := 9) (A := (fun x => (fun x => x = q) x ∨ sz ≤ x)) (ty := (.array .int)) hx hb hts inX9_ tyX9 tyX9_ok nmX9 hown hK ce_383 rfl 16 (by decide) lk19 (fun _ h9 => h9) rfl hin rfl (by decide +kernel) rfl rfl (Nat.le_of_ble_eq_true rfl) hL_349 (Or.inl rfl) dX9_init_126 (fun H_385 lo_386 hc_387 hx_388 hL_389 => ?_)
  have hc_387 : At G H_385 q (eO 9 [.int (J 0), .ref sz, .ref (sz + 1), .ref (sz + 2), .ref (sz + 3), .ref (sz + 4), .ref (sz + 5), .ref (sz + 6), .ref (sz + 7), .ref (sz + 8), .int (J 0), .ref (sz + 9), .ref (sz + 10), .ref (sz + 11), .ref (sz + 12), .ref (sz + 13), .ref (sz + 14), .null, .null, .int (J 0), .int (J 0), .null]) := hc_387
  have ce_390 : At G H_385 sz (eI G 40 (fun _ => 0)) := ce_369.x hx_388 (by first | omega | assumption | (apply Ne.symm; assumption))
  have ce_391 : At G H_385 (sz + 1) (eI G 40 (fun _ => 0)) := ce_370.x hx_388 (by first | omega | assumption | (apply Ne.symm; assumption))
  have ce_392 : At G H_385 (sz + 2) (eI G 40 (fun _ => 0)) := ce_371.x hx_388 (by first | omega | assumption | (apply Ne.symm; assumption))
  have ce_393 : At G H_385 (sz + 3) (eI G 40 (fun _ => 0)) := ce_372.x hx_388 (by first | omega | assumption | (apply Ne.symm; assumption))
  have ce_394 : At G H_385 (sz + 4) (eI G 40 (fun _ => 0)) := ce_373.x hx_388 (by first | omega | assumption | (apply Ne.symm; assumption))
  have ce_395 : At G H_385 (sz + 5) (eI G 40 (fun _ => 0)) := ce_374.x hx_388 (by first | omega | assumption | (apply Ne.symm; assumption))
  have ce_396 : At G H_385 (sz + 6) (eI G 480 (fun _ => 0)) := ce_375.x hx_388 (by first | omega | assumption | (apply Ne.symm; assumption))
  have ce_397 : At G H_385 (sz + 7) (eI G 480 (fun _ => 0)) := ce_376.x hx_388 (by first | omega | assumption | (apply Ne.symm; assumption))
  have ce_398 : At G H_385 (sz + 8) (eI G 480 (fun _ => 0)) := ce_377.x hx_388 (by first | omega | assumption | (apply Ne.symm; assumption))
  have ce_399 : At G H_385 (sz + 9) (eI G 10 (fun _ => 0)) := ce_378.x hx_388 (by first | omega | assumption | (apply Ne.symm; assumption))
  have ce_400 : At G H_385 (sz + 10) (eI G 180 (fun _ => 0)) := ce_379.x hx_388 (by first | omega | assumption | (apply Ne.symm; assumption))
  have ce_401 : At G H_385 (sz + 11) (eI G 180 (fun _ => 0)) := ce_380.x hx_388 (by first | omega | assumption | (apply Ne.symm; assumption))
  have ce_402 : At G H_385 (sz + 12) (eZ G 10 (fun _ => 0)) := ce_381.x hx_388 (by first | omega | assumption | (apply Ne.symm; assumption))
  have ce_403 : At G H_385 (sz + 13) (eI G 10 (fun _ => 0)) := ce_382.x hx_388 (by first | omega | assumption | (apply Ne.symm; assumption))
  have ce_404 : At G H_385 (sz + 14) (eI G 10 (fun _ => 0)) := hc_367.x hx_388 (by first | omega | assumption | (apply Ne.symm; assumption))
  have hF_405 : Fr s.heap H_385 (fun x => x = q) 15 := hF_384.x hx_388 (fun _ => rfl)
  refine lv_aload_n hx hb dX9_init_129 rfl (lv_at hl 0 rfl) ?_
  refine j_si hx hb dX9_init_130 (by decide +kernel) ?_
  refine j_newI (n := 400) hx hb lk3 hK rfl (by decide) (Nat.le_of_ble_eq_true rfl) (Nat.le_of_ble_eq_true rfl) dX9_init_133 (fun q_407 H_406 hc_408 hn_409 => ?_)
  have hc_408 : At G H_406 q_407 (eI G 400 (fun _ => 0)) := hc_408
  have ce_410 : At G H_406 sz (eI G 40 (fun _ => 0)) := ce_390.n hn_409
  have ce_411 : At G H_406 (sz + 1) (eI G 40 (fun _ => 0)) := ce_391.n hn_409
  have ce_412 : At G H_406 (sz + 2) (eI G 40 (fun _ => 0)) := ce_392.n hn_409
  have ce_413 : At G H_406 (sz + 3) (eI G 40 (fun _ => 0)) := ce_393.n hn_409
  have ce_414 : At G H_406 (sz + 4) (eI G 40 (fun _ => 0)) := ce_394.n hn_409
  have ce_415 : At G H_406 (sz + 5) (eI G 40 (fun _ => 0)) := ce_395.n hn_409
  have ce_416 : At G H_406 (sz + 6) (eI G 480 (fun _ => 0)) := ce_396.n hn_409
  have ce_417 : At G H_406 (sz + 7) (eI G 480 (fun _ => 0)) := ce_397.n hn_409
  have ce_418 : At G H_406 (sz + 8) (eI G 480 (fun _ => 0)) := ce_398.n hn_409
  have ce_419 : At G H_406 (sz + 9) (eI G 10 (fun _ => 0)) := ce_399.n hn_409
  have ce_420 : At G H_406 (sz + 10) (eI G 180 (fun _ => 0)) := ce_400.n hn_409
  have ce_421 : At G H_406 (sz + 11) (eI G 180 (fun _ => 0)) := ce_401.n hn_409
  have ce_422 : At G H_406 (sz + 12) (eZ G 10 (fun _ => 0)) := ce_402.n hn_409
  have ce_423 : At G H_406 (sz + 13) (eI G 10 (fun _ => 0)) := ce_403.n hn_409
  have ce_424 : At G H_406 (sz + 14) (eI G 10 (fun _ => 0)) := ce_404.n hn_409
  have ce_425 : At G H_406 q (eO 9 [.int (J 0), .ref sz, .ref (sz + 1), .ref (sz + 2), .ref (sz + 3), .ref (sz + 4), .ref (sz + 5), .ref (sz + 6), .ref (sz + 7), .ref (sz + 8), .int (J 0), .ref (sz + 9), .ref (sz + 10), .ref (sz + 11), .ref (sz + 12), .ref (sz + 13), .ref (sz + 14), .null, .null, .int (J 0), .int (J 0), .null]) := hc_387.n hn_409
  obtain rfl : sz + 15 = q_407 := by have z1 := hn_409.1; have z2 := hF_405.1; omega
  have hF_426 : Fr s.heap H_406 (fun x => x = q) 16 := hF_405.n hn_409
  refine j_putF (ci := 9) (A := (fun x => (fun x => x = q) x ∨ sz ≤ x)) (ty := (.array .int)) hx hb hts inX9_ tyX9 tyX9_ok nmX9 hown hK ce_425 rfl 17 (by decide) lk20 (fun _ h9 => h9) rfl hin rfl (by decide +kernel) rfl rfl (Nat.le_of_ble_eq_true rfl) hL_389 (Or.inl rfl) dX9_init_135 (fun H_427 lo_428 hc_429 hx_430 hL_431 => ?_)
  have hc_429 : At G H_427 q (eO 9 [.int (J 0), .ref sz, .ref (sz + 1), .ref (sz + 2), .ref (sz + 3), .ref (sz + 4), .ref (sz + 5), .ref (sz + 6), .ref (sz + 7), .ref (sz + 8), .int (J 0), .ref (sz + 9), .ref (sz + 10), .ref (sz + 11), .ref (sz + 12), .ref (sz + 13), .ref (sz + 14), .ref (sz + 15), .null, .int (J 0), .int (J 0), .null]) := hc_429
  have ce_432 : At G H_427 sz (eI G 40 (fun _ => 0)) := ce_410.x hx_430 (by first | omega | assumption | (apply Ne.symm; assumption))
  have ce_433 : At G H_427 (sz + 1) (eI G 40 (fun _ => 0)) := ce_411.x hx_430 (by first | omega | assumption | (apply Ne.symm; assumption))
  have ce_434 : At G H_427 (sz + 2) (eI G 40 (fun _ => 0)) := ce_412.x hx_430 (by first | omega | assumption | (apply Ne.symm; assumption))
  have ce_435 : At G H_427 (sz + 3) (eI G 40 (fun _ => 0)) := ce_413.x hx_430 (by first | omega | assumption | (apply Ne.symm; assumption))
  have ce_436 : At G H_427 (sz + 4) (eI G 40 (fun _ => 0)) := ce_414.x hx_430 (by first | omega | assumption | (apply Ne.symm; assumption))
  have ce_437 : At G H_427 (sz + 5) (eI G 40 (fun _ => 0)) := ce_415.x hx_430 (by first | omega | assumption | (apply Ne.symm; assumption))
  have ce_438 : At G H_427 (sz + 6) (eI G 480 (fun _ => 0)) := ce_416.x hx_430 (by first | omega | assumption | (apply Ne.symm; assumption))
  have ce_439 : At G H_427 (sz + 7) (eI G 480 (fun _ => 0)) := ce_417.x hx_430 (by first | omega | assumption | (apply Ne.symm; assumption))
  have ce_440 : At G H_427 (sz + 8) (eI G 480 (fun _ => 0)) := ce_418.x hx_430 (by first | omega | assumption | (apply Ne.symm; assumption))
  have ce_441 : At G H_427 (sz + 9) (eI G 10 (fun _ => 0)) := ce_419.x hx_430 (by first | omega | assumption | (apply Ne.symm; assumption))
  have ce_442 : At G H_427 (sz + 10) (eI G 180 (fun _ => 0)) := ce_420.x hx_430 (by first | omega | assumption | (apply Ne.symm; assumption))
  have ce_443 : At G H_427 (sz + 11) (eI G 180 (fun _ => 0)) := ce_421.x hx_430 (by first | omega | assumption | (apply Ne.symm; assumption))
  have ce_444 : At G H_427 (sz + 12) (eZ G 10 (fun _ => 0)) := ce_422.x hx_430 (by first | omega | assumption | (apply Ne.symm; assumption))
  have ce_445 : At G H_427 (sz + 13) (eI G 10 (fun _ => 0)) := ce_423.x hx_430 (by first | omega | assumption | (apply Ne.symm; assumption))
  have ce_446 : At G H_427 (sz + 14) (eI G 10 (fun _ => 0)) := ce_424.x hx_430 (by first | omega | assumption | (apply Ne.symm; assumption))
  have ce_447 : At G H_427 (sz + 15) (eI G 400 (fun _ => 0)) := hc_408.x hx_430 (by first | omega | assumption | (apply Ne.symm; assumption))
  have hF_448 : Fr s.heap H_427 (fun x => x = q) 16 := hF_426.x hx_430 (fun _ => rfl)
  refine lv_aload_n hx hb dX9_init_138 rfl (lv_at hl 0 rfl) ?_
  refine j_si hx hb dX9_init_139 (by decide +kernel) ?_
  refine j_newI (n := 400) hx hb lk3 hK rfl (by decide) (Nat.le_of_ble_eq_true rfl) (Nat.le_of_ble_eq_true rfl) dX9_init_142 (fun q_450 H_449 hc_451 hn_452 => ?_)
  have hc_451 : At G H_449 q_450 (eI G 400 (fun _ => 0)) := hc_451
  have ce_453 : At G H_449 sz (eI G 40 (fun _ => 0)) := ce_432.n hn_452
  have ce_454 : At G H_449 (sz + 1) (eI G 40 (fun _ => 0)) := ce_433.n hn_452
  have ce_455 : At G H_449 (sz + 2) (eI G 40 (fun _ => 0)) := ce_434.n hn_452
  have ce_456 : At G H_449 (sz + 3) (eI G 40 (fun _ => 0)) := ce_435.n hn_452
  have ce_457 : At G H_449 (sz + 4) (eI G 40 (fun _ => 0)) := ce_436.n hn_452
  have ce_458 : At G H_449 (sz + 5) (eI G 40 (fun _ => 0)) := ce_437.n hn_452
  have ce_459 : At G H_449 (sz + 6) (eI G 480 (fun _ => 0)) := ce_438.n hn_452
  have ce_460 : At G H_449 (sz + 7) (eI G 480 (fun _ => 0)) := ce_439.n hn_452
  have ce_461 : At G H_449 (sz + 8) (eI G 480 (fun _ => 0)) := ce_440.n hn_452
  have ce_462 : At G H_449 (sz + 9) (eI G 10 (fun _ => 0)) := ce_441.n hn_452
  have ce_463 : At G H_449 (sz + 10) (eI G 180 (fun _ => 0)) := ce_442.n hn_452
  have ce_464 : At G H_449 (sz + 11) (eI G 180 (fun _ => 0)) := ce_443.n hn_452
  have ce_465 : At G H_449 (sz + 12) (eZ G 10 (fun _ => 0)) := ce_444.n hn_452
  have ce_466 : At G H_449 (sz + 13) (eI G 10 (fun _ => 0)) := ce_445.n hn_452
  have ce_467 : At G H_449 (sz + 14) (eI G 10 (fun _ => 0)) := ce_446.n hn_452
  have ce_468 : At G H_449 (sz + 15) (eI G 400 (fun _ => 0)) := ce_447.n hn_452
  have ce_469 : At G H_449 q (eO 9 [.int (J 0), .ref sz, .ref (sz + 1), .ref (sz + 2), .ref (sz + 3), .ref (sz + 4), .ref (sz + 5), .ref (sz + 6), .ref (sz + 7), .ref (sz + 8), .int (J 0), .ref (sz + 9), .ref (sz + 10), .ref (sz + 11), .ref (sz + 12), .ref (sz + 13), .ref (sz + 14), .ref (sz + 15), .null, .int (J 0), .int (J 0), .null]) := hc_429.n hn_452
  obtain rfl : sz + 16 = q_450 := by have z1 := hn_452.1; have z2 := hF_448.1; omega
  have hF_470 : Fr s.heap H_449 (fun x => x = q) 17 := hF_448.n hn_452
  refine j_putF (ci := 9) (A := (fun x => (fun x => x = q) x ∨ sz ≤ x)) (ty := (.array .int)) hx hb hts inX9_ tyX9 tyX9_ok nmX9 hown hK ce_469 rfl 18 (by decide) lk21 (fun _ h9 => h9) rfl hin rfl (by decide +kernel) rfl rfl (Nat.le_of_ble_eq_true rfl) hL_431 (Or.inl rfl) dX9_init_144 (fun H_471 lo_472 hc_473 hx_474 hL_475 => ?_)
  have hc_473 : At G H_471 q (eO 9 [.int (J 0), .ref sz, .ref (sz + 1), .ref (sz + 2), .ref (sz + 3), .ref (sz + 4), .ref (sz + 5), .ref (sz + 6), .ref (sz + 7), .ref (sz + 8), .int (J 0), .ref (sz + 9), .ref (sz + 10), .ref (sz + 11), .ref (sz + 12), .ref (sz + 13), .ref (sz + 14), .ref (sz + 15), .ref (sz + 16), .int (J 0), .int (J 0), .null]) := hc_473
  have ce_476 : At G H_471 sz (eI G 40 (fun _ => 0)) := ce_453.x hx_474 (by first | omega | assumption | (apply Ne.symm; assumption))
  have ce_477 : At G H_471 (sz + 1) (eI G 40 (fun _ => 0)) := ce_454.x hx_474 (by first | omega | assumption | (apply Ne.symm; assumption))
  have ce_478 : At G H_471 (sz + 2) (eI G 40 (fun _ => 0)) := ce_455.x hx_474 (by first | omega | assumption | (apply Ne.symm; assumption))
  have ce_479 : At G H_471 (sz + 3) (eI G 40 (fun _ => 0)) := ce_456.x hx_474 (by first | omega | assumption | (apply Ne.symm; assumption))
  have ce_480 : At G H_471 (sz + 4) (eI G 40 (fun _ => 0)) := ce_457.x hx_474 (by first | omega | assumption | (apply Ne.symm; assumption))
  have ce_481 : At G H_471 (sz + 5) (eI G 40 (fun _ => 0)) := ce_458.x hx_474 (by first | omega | assumption | (apply Ne.symm; assumption))
  have ce_482 : At G H_471 (sz + 6) (eI G 480 (fun _ => 0)) := ce_459.x hx_474 (by first | omega | assumption | (apply Ne.symm; assumption))
  have ce_483 : At G H_471 (sz + 7) (eI G 480 (fun _ => 0)) := ce_460.x hx_474 (by first | omega | assumption | (apply Ne.symm; assumption))
  have ce_484 : At G H_471 (sz + 8) (eI G 480 (fun _ => 0)) := ce_461.x hx_474 (by first | omega | assumption | (apply Ne.symm; assumption))
  have ce_485 : At G H_471 (sz + 9) (eI G 10 (fun _ => 0)) := ce_462.x hx_474 (by first | omega | assumption | (apply Ne.symm; assumption))
  have ce_486 : At G H_471 (sz + 10) (eI G 180 (fun _ => 0)) := ce_463.x hx_474 (by first | omega | assumption | (apply Ne.symm; assumption))
  have ce_487 : At G H_471 (sz + 11) (eI G 180 (fun _ => 0)) := ce_464.x hx_474 (by first | omega | assumption | (apply Ne.symm; assumption))
  have ce_488 : At G H_471 (sz + 12) (eZ G 10 (fun _ => 0)) := ce_465.x hx_474 (by first | omega | assumption | (apply Ne.symm; assumption))
  have ce_489 : At G H_471 (sz + 13) (eI G 10 (fun _ => 0)) := ce_466.x hx_474 (by first | omega | assumption | (apply Ne.symm; assumption))
  have ce_490 : At G H_471 (sz + 14) (eI G 10 (fun _ => 0)) := ce_467.x hx_474 (by first | omega | assumption | (apply Ne.symm; assumption))
  have ce_491 : At G H_471 (sz + 15) (eI G 400 (fun _ => 0)) := ce_468.x hx_474 (by first | omega | assumption | (apply Ne.symm; assumption))
  have ce_492 : At G H_471 (sz + 16) (eI G 400 (fun _ => 0)) := hc_451.x hx_474 (by first | omega | assumption | (apply Ne.symm; assumption))
  have hF_493 : Fr s.heap H_471 (fun x => x = q) 17 := hF_470.x hx_474 (fun _ => rfl)
  refine lv_aload_n hx hb dX9_init_147 rfl (lv_at hl 0 rfl) ?_
  refine j_bi hx hb dX9_init_148 (by decide +kernel) ?_
  refine j_newL (n := 40) hx hb lk22 hK rfl (by decide) (Nat.le_of_ble_eq_true rfl) (Nat.le_of_ble_eq_true rfl) dX9_init_150 (fun q_495 H_494 hc_496 hn_497 => ?_)
  have hc_496 : At G H_494 q_495 (eL G 40 (fun _ => 0)) := hc_496
  have ce_498 : At G H_494 sz (eI G 40 (fun _ => 0)) := ce_476.n hn_497
  have ce_499 : At G H_494 (sz + 1) (eI G 40 (fun _ => 0)) := ce_477.n hn_497
  have ce_500 : At G H_494 (sz + 2) (eI G 40 (fun _ => 0)) := ce_478.n hn_497
  have ce_501 : At G H_494 (sz + 3) (eI G 40 (fun _ => 0)) := ce_479.n hn_497
  have ce_502 : At G H_494 (sz + 4) (eI G 40 (fun _ => 0)) := ce_480.n hn_497
  have ce_503 : At G H_494 (sz + 5) (eI G 40 (fun _ => 0)) := ce_481.n hn_497
  have ce_504 : At G H_494 (sz + 6) (eI G 480 (fun _ => 0)) := ce_482.n hn_497
  have ce_505 : At G H_494 (sz + 7) (eI G 480 (fun _ => 0)) := ce_483.n hn_497
  have ce_506 : At G H_494 (sz + 8) (eI G 480 (fun _ => 0)) := ce_484.n hn_497
  have ce_507 : At G H_494 (sz + 9) (eI G 10 (fun _ => 0)) := ce_485.n hn_497
  have ce_508 : At G H_494 (sz + 10) (eI G 180 (fun _ => 0)) := ce_486.n hn_497
  have ce_509 : At G H_494 (sz + 11) (eI G 180 (fun _ => 0)) := ce_487.n hn_497
  have ce_510 : At G H_494 (sz + 12) (eZ G 10 (fun _ => 0)) := ce_488.n hn_497
  have ce_511 : At G H_494 (sz + 13) (eI G 10 (fun _ => 0)) := ce_489.n hn_497
  have ce_512 : At G H_494 (sz + 14) (eI G 10 (fun _ => 0)) := ce_490.n hn_497
  have ce_513 : At G H_494 (sz + 15) (eI G 400 (fun _ => 0)) := ce_491.n hn_497
  have ce_514 : At G H_494 (sz + 16) (eI G 400 (fun _ => 0)) := ce_492.n hn_497
  have ce_515 : At G H_494 q (eO 9 [.int (J 0), .ref sz, .ref (sz + 1), .ref (sz + 2), .ref (sz + 3), .ref (sz + 4), .ref (sz + 5), .ref (sz + 6), .ref (sz + 7), .ref (sz + 8), .int (J 0), .ref (sz + 9), .ref (sz + 10), .ref (sz + 11), .ref (sz + 12), .ref (sz + 13), .ref (sz + 14), .ref (sz + 15), .ref (sz + 16), .int (J 0), .int (J 0), .null]) := hc_473.n hn_497
  obtain rfl : sz + 17 = q_495 := by have z1 := hn_497.1; have z2 := hF_493.1; omega
  have hF_516 : Fr s.heap H_494 (fun x => x = q) 18 := hF_493.n hn_497
  refine j_putF (ci := 9) (A := (fun x => (fun x => x = q) x ∨ sz ≤ x)) (ty := (.array .long)) hx hb hts inX9_ tyX9 tyX9_ok nmX9 hown hK ce_515 rfl 21 (by decide) lk23 (fun _ h9 => h9) rfl hin rfl (by decide +kernel) rfl rfl (Nat.le_of_ble_eq_true rfl) hL_475 (Or.inl rfl) dX9_init_152 (fun H_517 lo_518 hc_519 hx_520 hL_521 => ?_)
  have hc_519 : At G H_517 q (eO 9 [.int (J 0), .ref sz, .ref (sz + 1), .ref (sz + 2), .ref (sz + 3), .ref (sz + 4), .ref (sz + 5), .ref (sz + 6), .ref (sz + 7), .ref (sz + 8), .int (J 0), .ref (sz + 9), .ref (sz + 10), .ref (sz + 11), .ref (sz + 12), .ref (sz + 13), .ref (sz + 14), .ref (sz + 15), .ref (sz + 16), .int (J 0), .int (J 0), .ref (sz + 17)]) := hc_519
  have ce_522 : At G H_517 sz (eI G 40 (fun _ => 0)) := ce_498.x hx_520 (by first | omega | assumption | (apply Ne.symm; assumption))
  have ce_523 : At G H_517 (sz + 1) (eI G 40 (fun _ => 0)) := ce_499.x hx_520 (by first | omega | assumption | (apply Ne.symm; assumption))
  have ce_524 : At G H_517 (sz + 2) (eI G 40 (fun _ => 0)) := ce_500.x hx_520 (by first | omega | assumption | (apply Ne.symm; assumption))
  have ce_525 : At G H_517 (sz + 3) (eI G 40 (fun _ => 0)) := ce_501.x hx_520 (by first | omega | assumption | (apply Ne.symm; assumption))
  have ce_526 : At G H_517 (sz + 4) (eI G 40 (fun _ => 0)) := ce_502.x hx_520 (by first | omega | assumption | (apply Ne.symm; assumption))
  have ce_527 : At G H_517 (sz + 5) (eI G 40 (fun _ => 0)) := ce_503.x hx_520 (by first | omega | assumption | (apply Ne.symm; assumption))
  have ce_528 : At G H_517 (sz + 6) (eI G 480 (fun _ => 0)) := ce_504.x hx_520 (by first | omega | assumption | (apply Ne.symm; assumption))
  have ce_529 : At G H_517 (sz + 7) (eI G 480 (fun _ => 0)) := ce_505.x hx_520 (by first | omega | assumption | (apply Ne.symm; assumption))
  have ce_530 : At G H_517 (sz + 8) (eI G 480 (fun _ => 0)) := ce_506.x hx_520 (by first | omega | assumption | (apply Ne.symm; assumption))
  have ce_531 : At G H_517 (sz + 9) (eI G 10 (fun _ => 0)) := ce_507.x hx_520 (by first | omega | assumption | (apply Ne.symm; assumption))
  have ce_532 : At G H_517 (sz + 10) (eI G 180 (fun _ => 0)) := ce_508.x hx_520 (by first | omega | assumption | (apply Ne.symm; assumption))
  have ce_533 : At G H_517 (sz + 11) (eI G 180 (fun _ => 0)) := ce_509.x hx_520 (by first | omega | assumption | (apply Ne.symm; assumption))
  have ce_534 : At G H_517 (sz + 12) (eZ G 10 (fun _ => 0)) := ce_510.x hx_520 (by first | omega | assumption | (apply Ne.symm; assumption))
  have ce_535 : At G H_517 (sz + 13) (eI G 10 (fun _ => 0)) := ce_511.x hx_520 (by first | omega | assumption | (apply Ne.symm; assumption))
  have ce_536 : At G H_517 (sz + 14) (eI G 10 (fun _ => 0)) := ce_512.x hx_520 (by first | omega | assumption | (apply Ne.symm; assumption))
  have ce_537 : At G H_517 (sz + 15) (eI G 400 (fun _ => 0)) := ce_513.x hx_520 (by first | omega | assumption | (apply Ne.symm; assumption))
  have ce_538 : At G H_517 (sz + 16) (eI G 400 (fun _ => 0)) := ce_514.x hx_520 (by first | omega | assumption | (apply Ne.symm; assumption))
  have ce_539 : At G H_517 (sz + 17) (eL G 40 (fun _ => 0)) := hc_496.x hx_520 (by first | omega | assumption | (apply Ne.symm; assumption))
  have hF_540 : Fr s.heap H_517 (fun x => x = q) 18 := hF_516.x hx_520 (fun _ => rfl)
  exact r_vE hx hb hr hlk (Nat.le_of_ble_eq_true rfl) (Nat.le_of_ble_eq_true rfl) rfl hL_521 (⟨hF_540, hc_519, all17 (P := fun k => At G H_517 (b0 q sz k) (mE G V0 k)) ce_522 ce_523 ce_524 ce_525 ce_526 ce_527 ce_528 ce_529 ce_530 ce_531 ce_532 ce_533 ce_534 ce_535 ce_536 ce_537 ce_538, ce_539⟩) dX9_init_155
