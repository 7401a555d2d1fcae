abbrev rmX0_init : Room := { frames := 1, cells := 0, slots := 0, locals := 12 }
set_option maxHeartbeats 4000000 in
set_option maxRecDepth 100000 in
theorem c_X0_init (l : Launch) (G : GG) (q : Nat) (n_ d k v : Int) (sz : Nat) : ME l G yX0_init wsX0_init rmX0_init [.ref q, .int (J n_), .int (J d), .int (J k), .int (J v)] (fun H => H.size = sz ∧ (At G H q (eO 0 [.int (J 0), .int (J 0), .int (J 0), .int (J 0)]))) (none : Option Value) (fun x => (fun x => x = q) x ∨ sz ≤ x) (fun H H1 => Fr H H1 (fun x => x = q) 0 ∧ At G H1 q (eO 0 [.int (J n_), .int (J d), .int (J k), .int (J v)])) 0 0 := by
  refine ME.of (cc := cX0_init) (maxL := 5) (ret := none) (by decide) rfl (Nat.le_of_ble_eq_true rfl) ?_
  intro p e s m below meth c hx hb hr hml hown hts hlk hin hK hP ls hl
  have hL0 : ∀ z9 ∈ ([] : List Loc), ((fun x => (fun x => x = q) x ∨ sz ≤ x)) z9.base := fun z9 h => absurd h List.not_mem_nil
  have hown : s.vm.findClass RX0 = some m.cls := hown
  have hl : lv_has ls 5 [(0, .ref q), (1, .int (J n_)), (2, .int (J d)), (3, .int (J k)), (4, .int (J v))] := hl
  have inX0_ : ∀ w ∈ u_ws RX0 TX0 4, w ∈ wsX0_init := by decide +kernel
  have lk0 := hts (.methodLink RX0 1 objectInit) (by decide +kernel)
  have lk1 := hts (.instanceMethod objectInit) (by decide +kernel)
  have lk2 := hts (.code objectInit ⟨#[0xb1]⟩ 1 none) (by decide +kernel)
  have lk3 := hts (.fieldLink RX0 7 "RateBook$Event" "number" "I") (by decide +kernel)
  have lk4 := hts (.fieldLink RX0 13 "RateBook$Event" "day" "I") (by decide +kernel)
  have lk5 := hts (.fieldLink RX0 16 "RateBook$Event" "kind" "I") (by decide +kernel)
  have lk6 := hts (.fieldLink RX0 19 "RateBook$Event" "value" "I") (by decide +kernel)
  obtain ⟨hsz, hP⟩ := hP
  have hF0 : Fr s.heap s.heap (fun x => x = q) 0 := Fr.rf
  have hlt_0 := (hP).lt
  refine lv_aload_n hx hb dX0_init_0 rfl (lv_at hl 0 rfl) ?_
  refine W.objInit hx hb hown lk0 lk1 lk2 rfl (by rw [hml]; exact hl.1) rfl dX0_init_1 (Nat.le_of_ble_eq_true rfl) (Nat.le_of_ble_eq_true rfl) ?_
  refine W.eq (g2 := F0 m 4 ls []) rfl ?_
  refine lv_aload_n hx hb dX0_init_4 rfl (lv_at hl 0 rfl) ?_
  refine lv_iload_n hx hb dX0_init_5 rfl (lv_at hl 1 rfl) ?_
  refine j_putF (ci := 0) (A := (fun x => (fun x => x = q) x ∨ sz ≤ x)) (ty := .int) hx hb hts inX0_ tyX0 tyX0_ok nmX0 hown hK hP rfl 0 (by decide) lk3 (fun _ h9 => h9) rfl hin rfl (by decide +kernel) rfl rfl (Nat.le_of_ble_eq_true rfl) hL0 (Or.inl rfl) dX0_init_6 (fun H_1 lo_2 hc_3 hx_4 hL_5 => ?_)
  have hc_3 : At G H_1 q (eO 0 [.int (J n_), .int (J 0), .int (J 0), .int (J 0)]) := hc_3
  have hF_6 : Fr s.heap H_1 (fun x => x = q) 0 := hF0.x hx_4 (fun _ => rfl)
  refine lv_aload_n hx hb dX0_init_9 rfl (lv_at hl 0 rfl) ?_
  refine lv_iload_n hx hb dX0_init_10 rfl (lv_at hl 2 rfl) ?_
  refine j_putF (ci := 0) (A := (fun x => (fun x => x = q) x ∨ sz ≤ x)) (ty := .int) hx hb hts inX0_ tyX0 tyX0_ok nmX0 hown hK hc_3 rfl 1 (by decide) lk4 (fun _ h9 => h9) rfl hin rfl (by decide +kernel) rfl rfl (Nat.le_of_ble_eq_true rfl) hL_5 (Or.inl rfl) dX0_init_11 (fun H_7 lo_8 hc_9 hx_10 hL_11 => ?_)
  have hc_9 : At G H_7 q (eO 0 [.int (J n_), .int (J d), .int (J 0), .int (J 0)]) := hc_9
  have hF_12 : Fr s.heap H_7 (fun x => x = q) 0 := hF_6.x hx_10 (fun _ => rfl)
  refine lv_aload_n hx hb dX0_init_14 rfl (lv_at hl 0 rfl) ?_
  refine lv_iload_n hx hb dX0_init_15 rfl (lv_at hl 3 rfl) ?_
  refine j_putF (ci := 0) (A := (fun x => (fun x => x = q) x ∨ sz ≤ x)) (ty := .int) hx hb hts inX0_ tyX0 tyX0_ok nmX0 hown hK hc_9 rfl 2 (by decide) lk5 (fun _ h9 => h9) rfl hin rfl (by decide +kernel) rfl rfl (Nat.le_of_ble_eq_true rfl) hL_11 (Or.inl rfl) dX0_init_16 (fun H_13 lo_14 hc_15 hx_16 hL_17 => ?_)
  have hc_15 : At G H_13 q (eO 0 [.int (J n_), .int (J d), .int (J k), .int (J 0)]) := hc_15
  have hF_18 : Fr s.heap H_13 (fun x => x = q) 0 := hF_12.x hx_16 (fun _ => rfl)
  refine lv_aload_n hx hb dX0_init_19 rfl (lv_at hl 0 rfl) ?_
  refine lv_iload hx hb dX0_init_20 (lv_at hl 4 rfl) ?_
  refine j_putF (ci := 0) (A := (fun x => (fun x => x = q) x ∨ sz ≤ x)) (ty := .int) hx hb hts inX0_ tyX0 tyX0_ok nmX0 hown hK hc_15 rfl 3 (by decide) lk6 (fun _ h9 => h9) rfl hin rfl (by decide +kernel) rfl rfl (Nat.le_of_ble_eq_true rfl) hL_17 (Or.inl rfl) dX0_init_22 (fun H_19 lo_20 hc_21 hx_22 hL_23 => ?_)
  have hc_21 : At G H_19 q (eO 0 [.int (J n_), .int (J d), .int (J k), .int (J v)]) := hc_21
  have hF_24 : Fr s.heap H_19 (fun x => x = q) 0 := hF_18.x hx_22 (fun _ => rfl)
  exact r_vE hx hb hr hlk (Nat.le_of_ble_eq_true rfl) (Nat.le_of_ble_eq_true rfl) rfl hL_23 (⟨hF_24, hc_21⟩) dX0_init_25

abbrev rmX6_init : Room := { frames := 1, cells := 0, slots := 0, locals := 12 }
set_option maxHeartbeats 4000000 in
set_option maxRecDepth 100000 in
theorem c_X6_init (l : Launch) (G : GG) (q : Nat) (n_ d k v : Int) (sz : Nat) : ME l G yX6_init wsX6_init rmX6_init [.ref q, .int (J n_), .int (J d), .int (J k), .int (J v)] (fun H => H.size = sz ∧ (At G H q (eO 6 [.int (J 0), .int (J 0), .int (J 0), .int (J 0)]))) (none : Option Value) (fun x => (fun x => x = q) x ∨ sz ≤ x) (fun H H1 => Fr H H1 (fun x => x = q) 0 ∧ At G H1 q (eO 6 [.int (J n_), .int (J d), .int (J k), .int (J v)])) 0 0 := by
  refine ME.of (cc := cX6_init) (maxL := 5) (ret := none) (by decide) rfl (Nat.le_of_ble_eq_true rfl) ?_
  intro p e s m below meth c hx hb hr hml hown hts hlk hin hK hP ls hl
  have hL0 : ∀ z9 ∈ ([] : List Loc), ((fun x => (fun x => x = q) x ∨ sz ≤ x)) z9.base := fun z9 h => absurd h List.not_mem_nil
  have hown : s.vm.findClass RX6 = some m.cls := hown
  have hl : lv_has ls 5 [(0, .ref q), (1, .int (J n_)), (2, .int (J d)), (3, .int (J k)), (4, .int (J v))] := hl
  have inX6_ : ∀ w ∈ u_ws RX6 TX6 4, w ∈ wsX6_init := by decide +kernel
  have lk0 := hts (.methodLink RX6 1 objectInit) (by decide +kernel)
  have lk1 := hts (.instanceMethod objectInit) (by decide +kernel)
  have lk2 := hts (.code objectInit ⟨#[0xb1]⟩ 1 none) (by decide +kernel)
  have lk3 := hts (.fieldLink RX6 7 "RateBook$Unit" "above" "I") (by decide +kernel)
  have lk4 := hts (.fieldLink RX6 13 "RateBook$Unit" "below" "I") (by decide +kernel)
  have lk5 := hts (.fieldLink RX6 16 "RateBook$Unit" "rents" "I") (by decide +kernel)
  have lk6 := hts (.fieldLink RX6 19 "RateBook$Unit" "house" "I") (by decide +kernel)
  obtain ⟨hsz, hP⟩ := hP
  have hF0 : Fr s.heap s.heap (fun x => x = q) 0 := Fr.rf
  have hlt_0 := (hP).lt
  refine lv_aload_n hx hb dX6_init_0 rfl (lv_at hl 0 rfl) ?_
  refine W.objInit hx hb hown lk0 lk1 lk2 rfl (by rw [hml]; exact hl.1) rfl dX6_init_1 (Nat.le_of_ble_eq_true rfl) (Nat.le_of_ble_eq_true rfl) ?_
  refine W.eq (g2 := F0 m 4 ls []) rfl ?_
  refine lv_aload_n hx hb dX6_init_4 rfl (lv_at hl 0 rfl) ?_
  refine lv_iload_n hx hb dX6_init_5 rfl (lv_at hl 1 rfl) ?_
  refine j_putF (ci := 6) (A := (fun x => (fun x => x = q) x ∨ sz ≤ x)) (ty := .int) hx hb hts inX6_ tyX6 tyX6_ok nmX6 hown hK hP rfl 0 (by decide) lk3 (fun _ h9 => h9) rfl hin rfl (by decide +kernel) rfl rfl (Nat.le_of_ble_eq_true rfl) hL0 (Or.inl rfl) dX6_init_6 (fun H_1 lo_2 hc_3 hx_4 hL_5 => ?_)
  have hc_3 : At G H_1 q (eO 6 [.int (J n_), .int (J 0), .int (J 0), .int (J 0)]) := hc_3
  have hF_6 : Fr s.heap H_1 (fun x => x = q) 0 := hF0.x hx_4 (fun _ => rfl)
  refine lv_aload_n hx hb dX6_init_9 rfl (lv_at hl 0 rfl) ?_
  refine lv_iload_n hx hb dX6_init_10 rfl (lv_at hl 2 rfl) ?_
  refine j_putF (ci := 6) (A := (fun x => (fun x => x = q) x ∨ sz ≤ x)) (ty := .int) hx hb hts inX6_ tyX6 tyX6_ok nmX6 hown hK hc_3 rfl 1 (by decide) lk4 (fun _ h9 => h9) rfl hin rfl (by decide +kernel) rfl rfl (Nat.le_of_ble_eq_true rfl) hL_5 (Or.inl rfl) dX6_init_11 (fun H_7 lo_8 hc_9 hx_10 hL_11 => ?_)
  have hc_9 : At G H_7 q (eO 6 [.int (J n_), .int (J d), .int (J 0), .int (J 0)]) := hc_9
  have hF_12 : Fr s.heap H_7 (fun x => x = q) 0 := hF_6.x hx_10 (fun _ => rfl)
  refine lv_aload_n hx hb dX6_init_14 rfl (lv_at hl 0 rfl) ?_
  refine lv_iload_n hx hb dX6_init_15 rfl (lv_at hl 3 rfl) ?_
  refine j_putF (ci := 6) (A := (fun x => (fun x => x = q) x ∨ sz ≤ x)) (ty := .int) hx hb hts inX6_ tyX6 tyX6_ok nmX6 hown hK hc_9 rfl 2 (by decide) lk5 (fun _ h9 => h9) rfl hin rfl (by decide +kernel) rfl rfl (Nat.le_of_ble_eq_true rfl) hL_11 (Or.inl rfl) dX6_init_16 (fun H_13 lo_14 hc_15 hx_16 hL_17 => ?_)
  have hc_15 : At G H_13 q (eO 6 [.int (J n_), .int (J d), .int (J k), .int (J 0)]) := hc_15
  have hF_18 : Fr s.heap H_13 (fun x => x = q) 0 := hF_12.x hx_16 (fun _ => rfl)
  refine lv_aload_n hx hb dX6_init_19 rfl (lv_at hl 0 rfl) ?_
  refine lv_iload hx hb dX6_init_20 (lv_at hl 4 rfl) ?_
  refine j_putF (ci := 6) (A := (fun x => (fun x => x = q) x ∨ sz ≤ x)) (ty := .int) hx hb hts inX6_ tyX6 tyX6_ok nmX6 hown hK hc_15 rfl 3 (by decide) lk6 (fun _ h9 => h9) rfl hin rfl (by decide +kernel) rfl rfl (Nat.le_of_ble_eq_true rfl) hL_17 (Or.inl rfl) dX6_init_22 (fun H_19 lo_20 hc_21 hx_22 hL_23 => ?_)
  have hc_21 : At G H_19 q (eO 6 [.int (J n_), .int (J d), .int (J k), .int (J v)]) := hc_21
  have hF_24 : Fr s.heap H_19 (fun x => x = q) 0 := hF_18.x hx_22 (fun _ => rfl)
  exact r_vE hx hb hr hlk (Nat.le_of_ble_eq_true rfl) (Nat.le_of_ble_eq_true rfl) rfl hL_23 (⟨hF_24, hc_21⟩) dX6_init_25

abbrev rmX1_init : Room := { frames := 1, cells := 1, slots := 12, locals := 12 }
set_option maxHeartbeats 4000000 in
set_option maxRecDepth 100000 in
theorem c_X1_init (l : Launch) (G : GG) (q : Nat) (sz : Nat) : ME l G yX1_init wsX1_init rmX1_init [.ref q] (fun H => H.size = sz ∧ (At G H q (eO 1 [.null, .int (J 0)]))) (none : Option Value) (fun x => (fun x => x = q) x ∨ sz ≤ x) (fun H H1 => Fr H H1 (fun x => x = q) 1 ∧ At G H1 q (eO 1 [.ref sz, .int (J 0)]) ∧ At G H1 sz (eQ G 3 12 (fun _ => none))) 1 12 := by
  refine ME.of (cc := cX1_init) (maxL := 1) (ret := none) (by decide) rfl (Nat.le_of_ble_eq_true rfl) ?_
  intro p e s m below meth c hx hb hr hml hown hts hlk hin hK hP ls hl
  have hL0 : ∀ z9 ∈ ([] : List Loc), ((fun x => (fun x => x = q) x ∨ sz ≤ x)) z9.base := fun z9 h => absurd h List.not_mem_nil
  have hown : s.vm.findClass RX1 = some m.cls := hown
  have hl : lv_has ls 1 [(0, .ref q)] := hl
  have inX1_ : ∀ w ∈ u_ws RX1 TX1 2, w ∈ wsX1_init := by decide +kernel
  have lk0 := hts (.methodLink RX1 3 objectInit) (by decide +kernel)
  have lk1 := hts (.instanceMethod objectInit) (by decide +kernel)
  have lk2 := hts (.code objectInit ⟨#[0xb1]⟩ 1 none) (by decide +kernel)
  have lk3 := hts (.classLink RX1 9 RX0) (by decide +kernel)
  have lk4 := hts (.fieldLink RX1 11 "RateBook$Events" "byDay" "[LRateBook$Event;") (by decide +kernel)
  obtain ⟨hsz, hP⟩ := hP
  have hF0 : Fr s.heap s.heap (fun x => x = q) 0 := Fr.rf
  have hlt_0 := (hP).lt
  refine lv_aload_n hx hb dX1_init_0 rfl (lv_at hl 0 rfl) ?_
  refine W.objInit hx hb hown lk0 lk1 lk2 rfl (by rw [hml]; exact hl.1) rfl dX1_init_1 (Nat.le_of_ble_eq_true rfl) (Nat.le_of_ble_eq_true rfl) ?_
  refine W.eq (g2 := F0 m 4 ls []) rfl ?_
  refine lv_aload_n hx hb dX1_init_4 rfl (lv_at hl 0 rfl) ?_
  refine j_bi hx hb dX1_init_5 (by decide +kernel) ?_
  refine j_newQ (k := 3) (C := RX0) (n := 12) hx hb hown lk3 hK.2.2.1 hK rfl rfl (by decide) (Nat.le_of_ble_eq_true rfl) (Nat.le_of_ble_eq_true rfl) dX1_init_7 (fun q_2 H_1 hc_3 hn_4 => ?_)
  have hc_3 : At G H_1 q_2 (eQ G 3 12 (fun _ => none)) := hc_3
  have ce_5 : At G H_1 q (eO 1 [.null, .int (J 0)]) := hP.n hn_4
  obtain rfl : sz = q_2 := by have z1 := hn_4.1; have z2 := hF0.1; omega
  have hF_6 : Fr s.heap H_1 (fun x => x = q) 1 := hF0.n hn_4
  refine j_putF (ci := 1) (A := (fun x => (fun x => x = q) x ∨ sz ≤ x)) (ty := (.array (.object "RateBook$Event"))) hx hb hts inX1_ tyX1 tyX1_ok nmX1 hown hK ce_5 rfl 0 (by decide) lk4 (fun _ h9 => h9) rfl hin rfl (by decide +kernel) rfl rfl (Nat.le_of_ble_eq_true rfl) hL0 (Or.inl rfl) dX1_init_10 (fun H_7 lo_8 hc_9 hx_10 hL_11 => ?_)
  have hc_9 : At G H_7 q (eO 1 [.ref sz, .int (J 0)]) := hc_9
  have ce_12 : At G H_7 sz (eQ G 3 12 (fun _ => none)) := hc_3.x hx_10 (by first | omega | assumption | (apply Ne.symm; assumption))
  have hF_13 : Fr s.heap H_7 (fun x => x = q) 1 := hF_6.x hx_10 (fun _ => rfl)
  exact r_vE hx hb hr hlk (Nat.le_of_ble_eq_true rfl) (Nat.le_of_ble_eq_true rfl) rfl hL_11 (⟨hF_13, hc_9, ce_12⟩) dX1_init_13

abbrev rmX3_init : Room := { frames := 1, cells := 1, slots := 10, locals := 12 }
set_option maxHeartbeats 4000000 in
set_option maxRecDepth 100000 in
theorem c_X3_init (l : Launch) (G : GG) (q : Nat) (sz : Nat) : ME l G yX3_init wsX3_init rmX3_init [.ref q] (fun H => H.size = sz ∧ (At G H q (eO 3 [.null, .int (J 0)]))) (none : Option Value) (fun x => (fun x => x = q) x ∨ sz ≤ x) (fun H H1 => Fr H H1 (fun x => x = q) 1 ∧ At G H1 q (eO 3 [.ref sz, .int (J 0)]) ∧ At G H1 sz (eQ G 5 10 (fun _ => none))) 1 10 := by
  refine ME.of (cc := cX3_init) (maxL := 1) (ret := none) (by decide) rfl (Nat.le_of_ble_eq_true rfl) ?_
  intro p e s m below meth c hx hb hr hml hown hts hlk hin hK hP ls hl
  have hL0 : ∀ z9 ∈ ([] : List Loc), ((fun x => (fun x => x = q) x ∨ sz ≤ x)) z9.base := fun z9 h => absurd h List.not_mem_nil
  have hown : s.vm.findClass RX3 = some m.cls := hown
  have hl : lv_has ls 1 [(0, .ref q)] := hl
  have inX3_ : ∀ w ∈ u_ws RX3 TX3 2, w ∈ wsX3_init := by decide +kernel
  have lk0 := hts (.methodLink RX3 3 objectInit) (by decide +kernel)
  have lk1 := hts (.instanceMethod objectInit) (by decide +kernel)
  have lk2 := hts (.code objectInit ⟨#[0xb1]⟩ 1 none) (by decide +kernel)
  have lk3 := hts (.classLink RX3 9 RX4) (by decide +kernel)
  have lk4 := hts (.fieldLink RX3 11 "RateBook$Lists" "byDay" "[LRateBook$RateList;") (by decide +kernel)
  obtain ⟨hsz, hP⟩ := hP
  have hF0 : Fr s.heap s.heap (fun x => x = q) 0 := Fr.rf
  have hlt_0 := (hP).lt
  refine lv_aload_n hx hb dX3_init_0 rfl (lv_at hl 0 rfl) ?_
  refine W.objInit hx hb hown lk0 lk1 lk2 rfl (by rw [hml]; exact hl.1) rfl dX3_init_1 (Nat.le_of_ble_eq_true rfl) (Nat.le_of_ble_eq_true rfl) ?_
  refine W.eq (g2 := F0 m 4 ls []) rfl ?_
  refine lv_aload_n hx hb dX3_init_4 rfl (lv_at hl 0 rfl) ?_
  refine j_bi hx hb dX3_init_5 (by decide +kernel) ?_
  refine j_newQ (k := 5) (C := RX4) (n := 10) hx hb hown lk3 hK.2.2.2.2.1 hK rfl rfl (by decide) (Nat.le_of_ble_eq_true rfl) (Nat.le_of_ble_eq_true rfl) dX3_init_7 (fun q_2 H_1 hc_3 hn_4 => ?_)
  have hc_3 : At G H_1 q_2 (eQ G 5 10 (fun _ => none)) := hc_3
  have ce_5 : At G H_1 q (eO 3 [.null, .int (J 0)]) := hP.n hn_4
  obtain rfl : sz = q_2 := by have z1 := hn_4.1; have z2 := hF0.1; omega
  have hF_6 : Fr s.heap H_1 (fun x => x = q) 1 := hF0.n hn_4
  refine j_putF (ci := 3) (A := (fun x => (fun x => x = q) x ∨ sz ≤ x)) (ty := (.array (.object "RateBook$RateList"))) hx hb hts inX3_ tyX3 tyX3_ok nmX3 hown hK ce_5 rfl 0 (by decide) lk4 (fun _ h9 => h9) rfl hin rfl (by decide +kernel) rfl rfl (Nat.le_of_ble_eq_true rfl) hL0 (Or.inl rfl) dX3_init_10 (fun H_7 lo_8 hc_9 hx_10 hL_11 => ?_)
  have hc_9 : At G H_7 q (eO 3 [.ref sz, .int (J 0)]) := hc_9
  have ce_12 : At G H_7 sz (eQ G 5 10 (fun _ => none)) := hc_3.x hx_10 (by first | omega | assumption | (apply Ne.symm; assumption))
  have hF_13 : Fr s.heap H_7 (fun x => x = q) 1 := hF_6.x hx_10 (fun _ => rfl)
  exact r_vE hx hb hr hlk (Nat.le_of_ble_eq_true rfl) (Nat.le_of_ble_eq_true rfl) rfl hL_11 (⟨hF_13, hc_9, ce_12⟩) dX3_init_13

abbrev rmX5_init : Room := { frames := 1, cells := 1, slots := 40, locals := 12 }
set_option maxHeartbeats 4000000 in
set_option maxRecDepth 100000 in
theorem c_X5_init (l : Launch) (G : GG) (q : Nat) (sz : Nat) : ME l G yX5_init wsX5_init rmX5_init [.ref q] (fun H => H.size = sz ∧ (At G H q (eO 5 [.null, .int (J 0)]))) (none : Option Value) (fun x => (fun x => x = q) x ∨ sz ≤ x) (fun H H1 => Fr H H1 (fun x => x = q) 1 ∧ At G H1 q (eO 5 [.ref sz, .int (J 0)]) ∧ At G H1 sz (eQ G 4 40 (fun _ => none))) 1 40 := by
  refine ME.of (cc := cX5_init) (maxL := 1) (ret := none) (by decide) rfl (Nat.le_of_ble_eq_true rfl) ?_
  intro p e s m below meth c hx hb hr hml hown hts hlk hin hK hP ls hl
  have hL0 : ∀ z9 ∈ ([] : List Loc), ((fun x => (fun x => x = q) x ∨ sz ≤ x)) z9.base := fun z9 h => absurd h List.not_mem_nil
  have hown : s.vm.findClass RX5 = some m.cls := hown
  have hl : lv_has ls 1 [(0, .ref q)] := hl
  have inX5_ : ∀ w ∈ u_ws RX5 TX5 2, w ∈ wsX5_init := by decide +kernel
  have lk0 := hts (.methodLink RX5 3 objectInit) (by decide +kernel)
  have lk1 := hts (.instanceMethod objectInit) (by decide +kernel)
  have lk2 := hts (.code objectInit ⟨#[0xb1]⟩ 1 none) (by decide +kernel)
  have lk3 := hts (.classLink RX5 9 RX2) (by decide +kernel)
  have lk4 := hts (.fieldLink RX5 11 "RateBook$Town" "houses" "[LRateBook$House;") (by decide +kernel)
  obtain ⟨hsz, hP⟩ := hP
  have hF0 : Fr s.heap s.heap (fun x => x = q) 0 := Fr.rf
  have hlt_0 := (hP).lt
  refine lv_aload_n hx hb dX5_init_0 rfl (lv_at hl 0 rfl) ?_
  refine W.objInit hx hb hown lk0 lk1 lk2 rfl (by rw [hml]; exact hl.1) rfl dX5_init_1 (Nat.le_of_ble_eq_true rfl) (Nat.le_of_ble_eq_true rfl) ?_
  refine W.eq (g2 := F0 m 4 ls []) rfl ?_
  refine lv_aload_n hx hb dX5_init_4 rfl (lv_at hl 0 rfl) ?_
  refine j_bi hx hb dX5_init_5 (by decide +kernel) ?_
  refine j_newQ (k := 4) (C := RX2) (n := 40) hx hb hown lk3 hK.2.2.2.1 hK rfl rfl (by decide) (Nat.le_of_ble_eq_true rfl) (Nat.le_of_ble_eq_true rfl) dX5_init_7 (fun q_2 H_1 hc_3 hn_4 => ?_)
  have hc_3 : At G H_1 q_2 (eQ G 4 40 (fun _ => none)) := hc_3
  have ce_5 : At G H_1 q (eO 5 [.null, .int (J 0)]) := hP.n hn_4
  obtain rfl : sz = q_2 := by have z1 := hn_4.1; have z2 := hF0.1; omega
  have hF_6 : Fr s.heap H_1 (fun x => x = q) 1 := hF0.n hn_4
  refine j_putF (ci := 5) (A := (fun x => (fun x => x = q) x ∨ sz ≤ x)) (ty := (.array (.object "RateBook$House"))) hx hb hts inX5_ tyX5 tyX5_ok nmX5 hown hK ce_5 rfl 0 (by decide) lk4 (fun _ h9 => h9) rfl hin rfl (by decide +kernel) rfl rfl (Nat.le_of_ble_eq_true rfl) hL0 (Or.inl rfl) dX5_init_10 (fun H_7 lo_8 hc_9 hx_10 hL_11 => ?_)
  have hc_9 : At G H_7 q (eO 5 [.ref sz, .int (J 0)]) := hc_9
  have ce_12 : At G H_7 sz (eQ G 4 40 (fun _ => none)) := hc_3.x hx_10 (by first | omega | assumption | (apply Ne.symm; assumption))
  have hF_13 : Fr s.heap H_7 (fun x => x = q) 1 := hF_6.x hx_10 (fun _ => rfl)
  exact r_vE hx hb hr hlk (Nat.le_of_ble_eq_true rfl) (Nat.le_of_ble_eq_true rfl) rfl hL_11 (⟨hF_13, hc_9, ce_12⟩) dX5_init_13

abbrev rmX2_init : Room := { frames := 2, cells := 2, slots := 14, locals := 32 }
set_option maxHeartbeats 4000000 in
set_option maxRecDepth 100000 in
theorem c_X2_init (l : Launch) (G : GG) (q : Nat) (n_ w_ k t z r : Int) (sz : Nat) : ME l G yX2_init wsX2_init rmX2_init [.ref q, .int (J n_), .int (J w_), .int (J k), .int (J t), .int (J z), .int (J r)] (fun H => H.size = sz ∧ (At G H q (eO 2 [.int (J 0), .int (J 0), .int (J 0), .int (J 0), .int (J 0), .null, .int (J 0)]))) (none : Option Value) (fun x => (fun x => x = q) x ∨ sz ≤ x) (fun H H1 => Fr H H1 (fun x => x = q) 2 ∧ At G H1 q (eO 2 [.int (J n_), .int (J w_), .int (J k), .int (J t), .int (J z), .ref sz, .int (J r)]) ∧ At G H1 sz (eO 1 [.ref (sz + 1), .int (J 0)]) ∧ At G H1 (sz + 1) (eQ G 3 12 (fun _ => none))) 2 14 := by
  refine ME.of (cc := cX2_init) (maxL := 7) (ret := none) (by decide) rfl (Nat.le_of_ble_eq_true rfl) ?_
  intro p e s m below meth c hx hb hr hml hown hts hlk hin hK hP ls hl
  have hL0 : ∀ z9 ∈ ([] : List Loc), ((fun x => (fun x => x = q) x ∨ sz ≤ x)) z9.base := fun z9 h => absurd h List.not_mem_nil
  have hown : s.vm.findClass RX2 = some m.cls := hown
  have hl : lv_has ls 7 [(0, .ref q), (1, .int (J n_)), (2, .int (J w_)), (3, .int (J k)), (4, .int (J t)), (5, .int (J z)), (6, .int (J r))] := hl
  have inX1_ : ∀ w ∈ u_ws RX1 TX1 2, w ∈ wsX2_init := by decide +kernel
  have inX2_ : ∀ w ∈ u_ws RX2 TX2 7, w ∈ wsX2_init := by decide +kernel
  have lk0 := hts (.methodLink RX2 3 objectInit) (by decide +kernel)
  have lk1 := hts (.instanceMethod objectInit) (by decide +kernel)
  have lk2 := hts (.code objectInit ⟨#[0xb1]⟩ 1 none) (by decide +kernel)
  have lk3 := hts (.fieldLink RX2 9 "RateBook$House" "number" "I") (by decide +kernel)
  have lk4 := hts (.fieldLink RX2 15 "RateBook$House" "ward" "I") (by decide +kernel)
  have lk5 := hts (.fieldLink RX2 18 "RateBook$House" "kind" "I") (by decide +kernel)
  have lk6 := hts (.fieldLink RX2 21 "RateBook$House" "street" "I") (by decide +kernel)
  have lk7 := hts (.fieldLink RX2 24 "RateBook$House" "size" "I") (by decide +kernel)
  have lk8 := hts (.fieldLink RX2 27 "RateBook$House" "rent" "I") (by decide +kernel)
  have lk9 := hts (.classLink RX2 30 RX1) (by decide +kernel)
  have lk10 := hts (.instantiable RX1 2) (by decide +kernel)
  have lk11 := hts (.initialized RX1) (by decide +kernel)
  have lk12 := hts (.methodLink RX2 32 yX1_init) (by decide +kernel)
  have lk13 := hts (.instanceMethod yX1_init) (by decide +kernel)
  have lk14 := hts (.fieldLink RX2 33 "RateBook$House" "events" "LRateBook$Events;") (by decide +kernel)
  obtain ⟨hsz, hP⟩ := hP
  have hF0 : Fr s.heap s.heap (fun x => x = q) 0 := Fr.rf
  have hlt_0 := (hP).lt
  refine lv_aload_n hx hb dX2_init_0 rfl (lv_at hl 0 rfl) ?_
  refine W.objInit hx hb hown lk0 lk1 lk2 rfl (by rw [hml]; exact hl.1) rfl dX2_init_1 (Nat.le_of_ble_eq_true rfl) (Nat.le_of_ble_eq_true rfl) ?_
  refine W.eq (g2 := F0 m 4 ls []) rfl ?_
  refine lv_aload_n hx hb dX2_init_4 rfl (lv_at hl 0 rfl) ?_
  refine lv_iload_n hx hb dX2_init_5 rfl (lv_at hl 1 rfl) ?_
  refine j_putF (ci := 2) (A := (fun x => (fun x => x = q) x ∨ sz ≤ x)) (ty := .int) hx hb hts inX2_ tyX2 tyX2_ok nmX2 hown hK hP rfl 0 (by decide) lk3 (fun _ h9 => h9) rfl hin rfl (by decide +kernel) rfl rfl (Nat.le_of_ble_eq_true rfl) hL0 (Or.inl rfl) dX2_init_6 (fun H_1 lo_2 hc_3 hx_4 hL_5 => ?_)
  have hc_3 : At G H_1 q (eO 2 [.int (J n_), .int (J 0), .int (J 0), .int (J 0), .int (J 0), .null, .int (J 0)]) := hc_3
  have hF_6 : Fr s.heap H_1 (fun x => x = q) 0 := hF0.x hx_4 (fun _ => rfl)
  refine lv_aload_n hx hb dX2_init_9 rfl (lv_at hl 0 rfl) ?_
  refine lv_iload_n hx hb dX2_init_10 rfl (lv_at hl 2 rfl) ?_
  refine j_putF (ci := 2) (A := (fun x => (fun x => x = q) x ∨ sz ≤ x)) (ty := .int) hx hb hts inX2_ tyX2 tyX2_ok nmX2 hown hK hc_3 rfl 1 (by decide) lk4 (fun _ h9 => h9) rfl hin rfl (by decide +kernel) rfl rfl (Nat.le_of_ble_eq_true rfl) hL_5 (Or.inl rfl) dX2_init_11 (fun H_7 lo_8 hc_9 hx_10 hL_11 => ?_)
  have hc_9 : At G H_7 q (eO 2 [.int (J n_), .int (J w_), .int (J 0), .int (J 0), .int (J 0), .null, .int (J 0)]) := hc_9
  have hF_12 : Fr s.heap H_7 (fun x => x = q) 0 := hF_6.x hx_10 (fun _ => rfl)
  refine lv_aload_n hx hb dX2_init_14 rfl (lv_at hl 0 rfl) ?_
  refine lv_iload_n hx hb dX2_init_15 rfl (lv_at hl 3 rfl) ?_
  refine j_putF (ci := 2) (A := (fun x => (fun x => x = q) x ∨ sz ≤ x)) (ty := .int) hx hb hts inX2_ tyX2 tyX2_ok nmX2 hown hK hc_9 rfl 2 (by decide) lk5 (fun _ h9 => h9) rfl hin rfl (by decide +kernel) rfl rfl (Nat.le_of_ble_eq_true rfl) hL_11 (Or.inl rfl) dX2_init_16 (fun H_13 lo_14 hc_15 hx_16 hL_17 => ?_)
  have hc_15 : At G H_13 q (eO 2 [.int (J n_), .int (J w_), .int (J k), .int (J 0), .int (J 0), .null, .int (J 0)]) := hc_15
  have hF_18 : Fr s.heap H_13 (fun x => x = q) 0 := hF_12.x hx_16 (fun _ => rfl)
  refine lv_aload_n hx hb dX2_init_19 rfl (lv_at hl 0 rfl) ?_
  refine lv_iload hx hb dX2_init_20 (lv_at hl 4 rfl) ?_
  refine j_putF (ci := 2) (A := (fun x => (fun x => x = q) x ∨ sz ≤ x)) (ty := .int) hx hb hts inX2_ tyX2 tyX2_ok nmX2 hown hK hc_15 rfl 3 (by decide) lk6 (fun _ h9 => h9) rfl hin rfl (by decide +kernel) rfl rfl (Nat.le_of_ble_eq_true rfl) hL_17 (Or.inl rfl) dX2_init_22 (fun H_19 lo_20 hc_21 hx_22 hL_23 => ?_)
  have hc_21 : At G H_19 q (eO 2 [.int (J n_), .int (J w_), .int (J k), .int (J t), .int (J 0), .null, .int (J 0)]) := hc_21
  have hF_24 : Fr s.heap H_19 (fun x => x = q) 0 := hF_18.x hx_22 (fun _ => rfl)
  refine lv_aload_n hx hb dX2_init_25 rfl (lv_at hl 0 rfl) ?_
  refine lv_iload hx hb dX2_init_26 (lv_at hl 5 rfl) ?_
  refine j_putF (ci := 2) (A := (fun x => (fun x => x = q) x ∨ sz ≤ x)) (ty := .int) hx hb hts inX2_ tyX2 tyX2_ok nmX2 hown hK hc_21 rfl 4 (by decide) lk7 (fun _ h9 => h9) rfl hin rfl (by decide +kernel) rfl rfl (Nat.le_of_ble_eq_true rfl) hL_23 (Or.inl rfl) dX2_init_28 (fun H_25 lo_26 hc_27 hx_28 hL_29 => ?_)
  have hc_27 : At G H_25 q (eO 2 [.int (J n_), .int (J w_), .int (J k), .int (J t), .int (J z), .null, .int (J 0)]) := hc_27
  have hF_30 : Fr s.heap H_25 (fun x => x = q) 0 := hF_24.x hx_28 (fun _ => rfl)
  refine lv_aload_n hx hb dX2_init_31 rfl (lv_at hl 0 rfl) ?_
  refine lv_iload hx hb dX2_init_32 (lv_at hl 6 rfl) ?_
  refine j_put (ci := 2) (A := (fun x => (fun x => x = q) x ∨ sz ≤ x)) (ty := .int) hx hb hts inX2_ tyX2 tyX2_ok nmX2 hown hK hc_27 rfl 6 (by decide) lk8 (fun _ h9 => h9) rfl (by decide +kernel) rfl rfl (Nat.le_of_ble_eq_true rfl) hL_29 (Or.inl rfl) dX2_init_34 (fun H_31 lo_32 hc_33 hx_34 hL_35 => ?_)
  have hc_33 : At G H_31 q (eO 2 [.int (J n_), .int (J w_), .int (J k), .int (J t), .int (J z), .null, .int (J r)]) := hc_33
  have hF_36 : Fr s.heap H_31 (fun x => x = q) 0 := hF_30.x hx_34 (fun _ => rfl)
  refine lv_aload_n hx hb dX2_init_37 rfl (lv_at hl 0 rfl) ?_
  refine j_new (ci := 1) (fs := [.null, .int (J 0)]) hx hb hts inX1_ tyX1 tyX1_ok hown lk9 lk10 lk11 hK rfl (fun j hj => by rcases (show j = 0 ∨ j = 1 by omega) with rfl | rfl <;> rfl) (Nat.le_of_ble_eq_true rfl) (Nat.le_of_ble_eq_true rfl) dX2_init_38 (fun q_38 H_37 hc_39 hn_40 => ?_)
  have hc_39 : At G H_37 q_38 (eO 1 [.null, .int (J 0)]) := hc_39
  have ce_41 : At G H_37 q (eO 2 [.int (J n_), .int (J w_), .int (J k), .int (J t), .int (J z), .null, .int (J r)]) := hc_33.n hn_40
  obtain rfl : sz = q_38 := by have z1 := hn_40.1; have z2 := hF_36.1; omega
  have hF_42 : Fr s.heap H_37 (fun x => x = q) 1 := hF_36.n hn_40
  refine lv_dup hx hb dX2_init_41 rfl ?_
  refine e_I (A := (fun x => (fun x => x = q) x ∨ sz ≤ x)) (b := sz) (As := []) (rest := [.ref sz, .ref q]) hx hb hml hown hts hK hl.1 (c_X1_init l G sz (sz + 1)) (cwI 0 hts gX2_init_X1_init rfl rfl rfl lk11 lk12 lk13 rfl (by decide +kernel) ⟨Nat.le_of_ble_eq_true rfl, Nat.le_of_ble_eq_true rfl⟩) (⟨by have z1 := hF_42.1; omega, hc_39⟩) rfl rfl (Nat.le_of_ble_eq_true rfl) dX2_init_42 ⟨Nat.le_of_ble_eq_true rfl, Nat.le_of_ble_eq_true rfl⟩ hL_35 ((fun x hx => hx.elim (fun z => by rw [z]; exact (Or.inr (by omega))) (fun z => Or.inr (by omega)))) (fun H_43 lo_44 hp_45 hL_46 => ?_)
  show W p l e (headSpec wsX2_init rmX2_init).room s m ([.ref q, .int (J n_), .int (J w_), .int (J k), .int (J t), .int (J z), .int (J r)] : List Value).toArray below meth c H_43 lo_44 (1 + 1) (2 + 12) (MQ below (QE (none : Option Value) (fun H H1 => Fr H H1 (fun x => x = q) 2 ∧ At G H1 q (eO 2 [.int (J n_), .int (J w_), .int (J k), .int (J t), .int (J z), .ref sz, .int (J r)]) ∧ At G H1 sz (eO 1 [.ref (sz + 1), .int (J 0)]) ∧ At G H1 (sz + 1) (eQ G 3 12 (fun _ => none)))) ([.ref q, .int (J n_), .int (J w_), .int (J k), .int (J t), .int (J z), .int (J r)] : List Value).toArray s 2 14 (fun x => (fun x => x = q) x ∨ sz ≤ x)) (F0 m 45 ls [.ref sz, .ref q])
  have hf_48 : Fr H_37 H_43 (fun x => x = sz) 1 := hp_45.1
  have hF_47 : Fr s.heap H_43 (fun x => x = q) 2 := hF_42.f hf_48 (fun x hx z => by subst z; exact (fun z => absurd z (by omega)) hx)
  have ce_49 : At G H_43 q (eO 2 [.int (J n_), .int (J w_), .int (J k), .int (J t), .int (J z), .null, .int (J r)]) := ce_41.f hf_48 (fun z => absurd z (by omega))
  have hev : At G H_43 sz (eO 1 [.ref (sz + 1), .int (J 0)]) := hp_45.2.1
  have hea : At G H_43 (sz + 1) (eQ G 3 12 (fun _ => none)) := hp_45.2.2
  refine j_putF (ci := 2) (A := (fun x => (fun x => x = q) x ∨ sz ≤ x)) (ty := (.object "RateBook$Events")) hx hb hts inX2_ tyX2 tyX2_ok nmX2 hown hK ce_49 rfl 5 (by decide) lk14 (fun _ h9 => h9) rfl hin rfl (by decide +kernel) rfl rfl (Nat.le_of_ble_eq_true rfl) hL_46 (Or.inl rfl) dX2_init_45 (fun H_50 lo_51 hc_52 hx_53 hL_54 => ?_)
  have hc_52 : At G H_50 q (eO 2 [.int (J n_), .int (J w_), .int (J k), .int (J t), .int (J z), .ref sz, .int (J r)]) := hc_52
  have ce_55 : At G H_50 sz (eO 1 [.ref (sz + 1), .int (J 0)]) := hev.x hx_53 (by first | omega | assumption | (apply Ne.symm; assumption))
  have ce_56 : At G H_50 (sz + 1) (eQ G 3 12 (fun _ => none)) := hea.x hx_53 (by first | omega | assumption | (apply Ne.symm; assumption))
  have hF_57 : Fr s.heap H_50 (fun x => x = q) 2 := hF_47.x hx_53 (fun _ => rfl)
  exact r_vE hx hb hr hlk (Nat.le_of_ble_eq_true rfl) (Nat.le_of_ble_eq_true rfl) rfl hL_54 (⟨hF_57, hc_52, ce_55, ce_56⟩) dX2_init_48

abbrev rmX7_init : Room := { frames := 1, cells := 2, slots := 80, locals := 12 }
set_option maxHeartbeats 4000000 in
set_option maxRecDepth 100000 in
theorem c_X7_init (l : Launch) (G : GG) (q : Nat) (sz : Nat) : ME l G yX7_init wsX7_init rmX7_init [.ref q] (fun H => H.size = sz ∧ (At G H q (eO 7 [.null, .null, .int (J 0), .int (J 0), .int (J 0)]))) (none : Option Value) (fun x => (fun x => x = q) x ∨ sz ≤ x) (fun H H1 => Fr H H1 (fun x => x = q) 2 ∧ At G H1 q (eO 7 [.ref sz, .ref (sz + 1), .int (J 0), .int (J 0), .int (J 0)]) ∧ At G H1 sz (eI G 40 (fun _ => -4)) ∧ At G H1 (sz + 1) (eI G 40 (fun _ => 0))) 2 80 := by
  refine ME.of (cc := cX7_init) (maxL := 2) (ret := none) (by decide) rfl (Nat.le_of_ble_eq_true rfl) ?_
  intro p e s m below meth c hx hb hr hml hown hts hlk hin hK hP ls hl
  have hL0 : ∀ z9 ∈ ([] : List Loc), ((fun x => (fun x => x = q) x ∨ sz ≤ x)) z9.base := fun z9 h => absurd h List.not_mem_nil
  have hown : s.vm.findClass RX7 = some m.cls := hown
  have hl : lv_has ls 2 [(0, .ref q)] := hl
  have inX7_ : ∀ w ∈ u_ws RX7 TX7 5, w ∈ wsX7_init := by decide +kernel
  have lk0 := hts (.methodLink RX7 3 objectInit) (by decide +kernel)
  have lk1 := hts (.instanceMethod objectInit) (by decide +kernel)
  have lk2 := hts (.code objectInit ⟨#[0xb1]⟩ 1 none) (by decide +kernel)
  have lk3 := hts (.arrayClass .int) (by decide +kernel)
  have lk4 := hts (.fieldLink RX7 9 "RateBook$YearBook" "billed" "[I") (by decide +kernel)
  have lk5 := hts (.fieldLink RX7 15 "RateBook$YearBook" "payments" "[I") (by decide +kernel)
  obtain ⟨hsz, hP⟩ := hP
  have hF0 : Fr s.heap s.heap (fun x => x = q) 0 := Fr.rf
  have hlt_0 := (hP).lt
  refine lv_aload_n hx hb dX7_init_0 rfl (lv_at hl 0 rfl) ?_
  refine W.objInit hx hb hown lk0 lk1 lk2 rfl (by rw [hml]; exact hl.1) rfl dX7_init_1 (Nat.le_of_ble_eq_true rfl) (Nat.le_of_ble_eq_true rfl) ?_
  refine W.eq (g2 := F0 m 4 ls []) rfl ?_
  refine lv_aload_n hx hb dX7_init_4 rfl (lv_at hl 0 rfl) ?_
  refine j_bi hx hb dX7_init_5 (by decide +kernel) ?_
  refine j_newI (n := 40) hx hb lk3 hK rfl (by decide) (Nat.le_of_ble_eq_true rfl) (Nat.le_of_ble_eq_true rfl) dX7_init_7 (fun q_2 H_1 hc_3 hn_4 => ?_)
  have hc_3 : At G H_1 q_2 (eI G 40 (fun _ => 0)) := hc_3
  have ce_5 : At G H_1 q (eO 7 [.null, .null, .int (J 0), .int (J 0), .int (J 0)]) := hP.n hn_4
  obtain rfl : sz = q_2 := by have z1 := hn_4.1; have z2 := hF0.1; omega
  have hF_6 : Fr s.heap H_1 (fun x => x = q) 1 := hF0.n hn_4
  refine j_putF (ci := 7) (A := (fun x => (fun x => x = q) x ∨ sz ≤ x)) (ty := (.array .int)) hx hb hts inX7_ tyX7 tyX7_ok nmX7 hown hK ce_5 rfl 0 (by decide) lk4 (fun _ h9 => h9) rfl hin rfl (by decide +kernel) rfl rfl (Nat.le_of_ble_eq_true rfl) hL0 (Or.inl rfl) dX7_init_9 (fun H_7 lo_8 hc_9 hx_10 hL_11 => ?_)
  have hc_9 : At G H_7 q (eO 7 [.ref sz, .null, .int (J 0), .int (J 0), .int (J 0)]) := hc_9
  have ce_12 : At G H_7 sz (eI G 40 (fun _ => 0)) := hc_3.x hx_10 (by first | omega | assumption | (apply Ne.symm; assumption))
  have hF_13 : Fr s.heap H_7 (fun x => x = q) 1 := hF_6.x hx_10 (fun _ => rfl)
  refine lv_aload_n hx hb dX7_init_12 rfl (lv_at hl 0 rfl) ?_
  refine j_bi hx hb dX7_init_13 (by decide +kernel) ?_
  refine j_newI (n := 40) hx hb lk3 hK rfl (by decide) (Nat.le_of_ble_eq_true rfl) (Nat.le_of_ble_eq_true rfl) dX7_init_15 (fun q_15 H_14 hc_16 hn_17 => ?_)
  have hc_16 : At G H_14 q_15 (eI G 40 (fun _ => 0)) := hc_16
  have ce_18 : At G H_14 sz (eI G 40 (fun _ => 0)) := ce_12.n hn_17
  have ce_19 : At G H_14 q (eO 7 [.ref sz, .null, .int (J 0), .int (J 0), .int (J 0)]) := hc_9.n hn_17
  obtain rfl : sz + 1 = q_15 := by have z1 := hn_17.1; have z2 := hF_13.1; omega
  have hF_20 : Fr s.heap H_14 (fun x => x = q) 2 := hF_13.n hn_17
  refine j_putF (ci := 7) (A := (fun x => (fun x => x = q) x ∨ sz ≤ x)) (ty := (.array .int)) hx hb hts inX7_ tyX7 tyX7_ok nmX7 hown hK ce_19 rfl 1 (by decide) lk5 (fun _ h9 => h9) rfl hin rfl (by decide +kernel) rfl rfl (Nat.le_of_ble_eq_true rfl) hL_11 (Or.inl rfl) dX7_init_17 (fun H_21 lo_22 hc_23 hx_24 hL_25 => ?_)
  have hc_23 : At G H_21 q (eO 7 [.ref sz, .ref (sz + 1), .int (J 0), .int (J 0), .int (J 0)]) := hc_23
  have ce_26 : At G H_21 sz (eI G 40 (fun _ => 0)) := ce_18.x hx_24 (by first | omega | assumption | (apply Ne.symm; assumption))
  have ce_27 : At G H_21 (sz + 1) (eI G 40 (fun _ => 0)) := hc_16.x hx_24 (by first | omega | assumption | (apply Ne.symm; assumption))
  have hF_28 : Fr s.heap H_21 (fun x => x = q) 2 := hF_20.x hx_24 (fun _ => rfl)
  refine j_const hx hb dX7_init_20 ?_
  refine lv_istore_n (lv' := [(1, .int (J 0)), (0, .ref q)]) hx hb dX7_init_21 rfl hl (by decide) rfl (fun ls hl => ?_)
  have lp22 : ∀ (n : Nat) (i : Int) (H22 : Heap) (lo22 : List Loc) (hL22 : ∀ z9 ∈ lo22, ((fun x => (fun x => x = q) x ∨ sz ≤ x)) z9.base) (i0 : 0 ≤ i ∧ i ≤ 40) (hFl : Fr s.heap H22 (fun x => x = q) 2) (l7q : At G H22 q (eO 7 [.ref sz, .ref (sz + 1), .int (J 0), .int (J 0), .int (J 0)])) (l7a : At G H22 sz (eI G 40 (fun o => if o < i then -4 else 0))) (l7b : At G H22 (sz + 1) (eI G 40 (fun _ => 0))) (hm : 40 - i < (n : Int)) (ls : Array Slot) (hl : lv_has ls 2 [(1, .int (J i)), (0, .ref q)]), W p l e (headSpec wsX7_init rmX7_init).room s m ([.ref q] : List Value).toArray below meth c H22 lo22 2 80 (MQ below (QE (none : Option Value) (fun H H1 => Fr H H1 (fun x => x = q) 2 ∧ At G H1 q (eO 7 [.ref sz, .ref (sz + 1), .int (J 0), .int (J 0), .int (J 0)]) ∧ At G H1 sz (eI G 40 (fun _ => -4)) ∧ At G H1 (sz + 1) (eI G 40 (fun _ => 0)))) ([.ref q] : List Value).toArray s 2 80 (fun x => (fun x => x = q) x ∨ sz ≤ x)) (F0 m 22 ls []) := by
    intro n
    induction n with
    | zero =>
      intro i H22 lo22 hL22 i0 hFl l7q l7a l7b hm ls hl
      exact absurd hm (by omega)
    | succ n ih22 =>
      intro i H22 lo22 hL22 i0 hFl l7q l7a l7b hm ls hl
      refine lv_iload_n hx hb dX7_init_22 rfl (lv_at hl 0 rfl) ?_
      refine lv_aload_n hx hb dX7_init_23 rfl (lv_at hl 1 rfl) ?_
      refine j_get (ci := 7) (v := .ref sz) hx hb hts inX7_ hown hK l7q rfl 0 (by decide) lk4 (fun _ h9 => h9) rfl dX7_init_24 ?_
      refine j_alI hx hb hK l7a dX7_init_27 ?_
      refine j_re (y := 40) rfl ?_
      refine j_cge (tgt := 45) hx hb (by omega) (by omega) (by decide) (by decide) dX7_init_28 (by decide) (fun c28 => ?_) (fun c28 => ?_)
      · exact r_vE hx hb hr hlk (Nat.le_of_ble_eq_true rfl) (Nat.le_of_ble_eq_true rfl) rfl hL22 (⟨hFl, l7q, (eI_congr (fun j h1 h2 => by rw [if_pos (by omega)]) l7a), l7b⟩) dX7_init_45
      · refine lv_aload_n hx hb dX7_init_31 rfl (lv_at hl 1 rfl) ?_
        refine j_get (ci := 7) (v := .ref sz) hx hb hts inX7_ hown hK l7q rfl 0 (by decide) lk4 (fun _ h9 => h9) rfl dX7_init_32 ?_
        refine lv_iload_n hx hb dX7_init_35 rfl (lv_at hl 0 rfl) ?_
        refine j_bi hx hb dX7_init_36 (by decide +kernel) ?_
        refine j_iast (A := (fun x => (fun x => x = q) x ∨ sz ≤ x)) hx hb hK l7a (by omega) (by omega) (by decide) hL22 (Or.inr (by omega)) dX7_init_38 (fun H_29 lo_30 hc_31 hx_32 hL_33 => ?_)
        have hc_31 : At G H_29 sz (eI G 40 (uf (fun o => if o < i then -4 else 0) i ((-4)))) := hc_31
        have ce_34 : At G H_29 q (eO 7 [.ref sz, .ref (sz + 1), .int (J 0), .int (J 0), .int (J 0)]) := l7q.x hx_32 (by first | omega | assumption | (apply Ne.symm; assumption))
        have ce_35 : At G H_29 (sz + 1) (eI G 40 (fun _ => 0)) := l7b.x hx_32 (by first | omega | assumption | (apply Ne.symm; assumption))
        have hF_36 : Fr s.heap H_29 (fun x => x = q) 2 := hFl.x hx_32 (fun z => absurd z (by omega))
        refine lv_iinc (v := J (i + 1)) (lv' := [(1, .int (J (i + 1))), (0, .ref q)]) hx hb dX7_init_39 hl (k := 0) rfl (J_add _ _) (by decide) rfl (fun ls hl => ?_)
        refine lv_goto (tgt := 22) hx hb dX7_init_42 (by decide) ?_
        exact ih22 (i + 1) H_29 lo_30 hL_33 (by omega) hF_36 ce_34 ((eI_congr (fun j h1 h2 => by simp only [uf]; (repeat' split) <;> omega) hc_31)) ce_35 (by omega) _ (lv_sub hl [0, 1] rfl)
  exact lp22 41 0 H_21 lo_22 hL_25 (by omega) hF_28 hc_23 ((eI_congr (fun j h1 h2 => by rw [if_neg (by omega)]) ce_26)) ce_27 (by omega) _ (lv_sub hl [0, 1] rfl)

abbrev rmX7_putBilled : Room := { frames := 0, cells := 0, slots := 0, locals := 0 }
set_option maxHeartbeats 4000000 in
set_option maxRecDepth 100000 in
theorem c_X7_putBilled (l : Launch) (G : GG) (o y1 y2 : Nat) (b1 b2 b3 : Int) (g1 g2 : Int → Int) (z v : Int) (sz : Nat) (h_z : 0 ≤ z ∧ z < 40) (h_d : y1 ≠ o ∧ y2 ≠ o ∧ y1 ≠ y2) : ME l G yX7_putBilled wsX7_putBilled rmX7_putBilled [.ref o, .int (J z), .int (J v)] (fun H => H.size = sz ∧ (At G H o (eO 7 [.ref y1, .ref y2, .int (J b1), .int (J b2), .int (J b3)]) ∧ At G H y1 (eI G 40 g1) ∧ At G H y2 (eI G 40 g2))) (none : Option Value) (fun x => (fun x => x = y1) x ∨ sz ≤ x) (fun H H1 => Fr H H1 (fun x => x = y1) 0 ∧ At G H1 y1 (eI G 40 (uf g1 z v))) 0 0 := by
  refine ME.of (cc := cX7_putBilled) (maxL := 3) (ret := none) (by decide) rfl (Nat.le_of_ble_eq_true rfl) ?_
  intro p e s m below meth c hx hb hr hml hown hts hlk hin hK hP ls hl
  have hL0 : ∀ z9 ∈ ([] : List Loc), ((fun x => (fun x => x = y1) x ∨ sz ≤ x)) z9.base := fun z9 h => absurd h List.not_mem_nil
  have hown : s.vm.findClass RX7 = some m.cls := hown
  have hl : lv_has ls 3 [(0, .ref o), (1, .int (J z)), (2, .int (J v))] := hl
  have inX7_ : ∀ w ∈ u_ws RX7 TX7 5, w ∈ wsX7_putBilled := by decide +kernel
  have lk0 := hts (.fieldLink RX7 9 "RateBook$YearBook" "billed" "[I") (by decide +kernel)
  obtain ⟨hsz, hP⟩ := hP
  have hF0 : Fr s.heap s.heap (fun x => x = y1) 0 := Fr.rf
  have hlt_0 := (hP.1).lt
  have hlt_1 := (hP.2.1).lt
  have hlt_2 := (hP.2.2).lt
  refine lv_iload_n hx hb dX7_putBilled_0 rfl (lv_at hl 1 rfl) ?_
  refine j_lt0 (tgt := 20) hx hb (by omega) (by omega) dX7_putBilled_1 (by decide) (fun c1 => ?_) (fun c1 => ?_)
  · exact r_vE hx hb hr hlk (Nat.le_of_ble_eq_true rfl) (Nat.le_of_ble_eq_true rfl) rfl hL0 (absurd (True.intro) (by omega)) dX7_putBilled_20
  · refine lv_iload_n hx hb dX7_putBilled_4 rfl (lv_at hl 1 rfl) ?_
    refine lv_aload_n hx hb dX7_putBilled_5 rfl (lv_at hl 0 rfl) ?_
    refine j_get (ci := 7) (v := .ref y1) hx hb hts inX7_ hown hK hP.1 rfl 0 (by decide) lk0 (fun _ h9 => h9) rfl dX7_putBilled_6 ?_
    refine j_alI hx hb hK hP.2.1 dX7_putBilled_9 ?_
    refine j_re (y := 40) rfl ?_
    refine j_cge (tgt := 20) hx hb (by omega) (by omega) (by decide) (by decide) dX7_putBilled_10 (by decide) (fun c10 => ?_) (fun c10 => ?_)
    · exact r_vE hx hb hr hlk (Nat.le_of_ble_eq_true rfl) (Nat.le_of_ble_eq_true rfl) rfl hL0 (absurd (True.intro) (by omega)) dX7_putBilled_20
    · refine lv_aload_n hx hb dX7_putBilled_13 rfl (lv_at hl 0 rfl) ?_
      refine j_get (ci := 7) (v := .ref y1) hx hb hts inX7_ hown hK hP.1 rfl 0 (by decide) lk0 (fun _ h9 => h9) rfl dX7_putBilled_14 ?_
      refine lv_iload_n hx hb dX7_putBilled_17 rfl (lv_at hl 1 rfl) ?_
      refine lv_iload_n hx hb dX7_putBilled_18 rfl (lv_at hl 2 rfl) ?_
      refine j_iast (A := (fun x => (fun x => x = y1) x ∨ sz ≤ x)) hx hb hK hP.2.1 (by omega) (by omega) (by decide) hL0 (Or.inl rfl) dX7_putBilled_19 (fun H_1 lo_2 hc_3 hx_4 hL_5 => ?_)
      have hc_3 : At G H_1 y1 (eI G 40 (uf g1 z v)) := hc_3
      have ce_6 : At G H_1 o (eO 7 [.ref y1, .ref y2, .int (J b1), .int (J b2), .int (J b3)]) := hP.1.x hx_4 (by omega)
      have ce_7 : At G H_1 y2 (eI G 40 g2) := hP.2.2.x hx_4 (by omega)
      have hF_8 : Fr s.heap H_1 (fun x => x = y1) 0 := hF0.x hx_4 (fun _ => rfl)
      exact r_vE hx hb hr hlk (Nat.le_of_ble_eq_true rfl) (Nat.le_of_ble_eq_true rfl) rfl hL_5 (⟨hF_8, hc_3⟩) dX7_putBilled_20

abbrev rmX7_putPaid : Room := { frames := 0, cells := 0, slots := 0, locals := 0 }
set_option maxHeartbeats 4000000 in
set_option maxRecDepth 100000 in
theorem c_X7_putPaid (l : Launch) (G : GG) (o y1 y2 : Nat) (b1 b2 b3 : Int) (g1 g2 : Int → Int) (z v : Int) (sz : Nat) (h_z : 0 ≤ z ∧ z < 40) (h_d : y1 ≠ o ∧ y2 ≠ o ∧ y1 ≠ y2) : ME l G yX7_putPaid wsX7_putPaid rmX7_putPaid [.ref o, .int (J z), .int (J v)] (fun H => H.size = sz ∧ (At G H o (eO 7 [.ref y1, .ref y2, .int (J b1), .int (J b2), .int (J b3)]) ∧ At G H y1 (eI G 40 g1) ∧ At G H y2 (eI G 40 g2))) (none : Option Value) (fun x => (fun x => x = y2) x ∨ sz ≤ x) (fun H H1 => Fr H H1 (fun x => x = y2) 0 ∧ At G H1 y2 (eI G 40 (uf g2 z v))) 0 0 := by
  refine ME.of (cc := cX7_putPaid) (maxL := 3) (ret := none) (by decide) rfl (Nat.le_of_ble_eq_true rfl) ?_
  intro p e s m below meth c hx hb hr hml hown hts hlk hin hK hP ls hl
  have hL0 : ∀ z9 ∈ ([] : List Loc), ((fun x => (fun x => x = y2) x ∨ sz ≤ x)) z9.base := fun z9 h => absurd h List.not_mem_nil
  have hown : s.vm.findClass RX7 = some m.cls := hown
  have hl : lv_has ls 3 [(0, .ref o), (1, .int (J z)), (2, .int (J v))] := hl
  have inX7_ : ∀ w ∈ u_ws RX7 TX7 5, w ∈ wsX7_putPaid := by decide +kernel
  have lk0 := hts (.fieldLink RX7 15 "RateBook$YearBook" "payments" "[I") (by decide +kernel)
  obtain ⟨hsz, hP⟩ := hP
  have hF0 : Fr s.heap s.heap (fun x => x = y2) 0 := Fr.rf
  have hlt_0 := (hP.1).lt
  have hlt_1 := (hP.2.1).lt
  have hlt_2 := (hP.2.2).lt
  refine lv_iload_n hx hb dX7_putPaid_0 rfl (lv_at hl 1 rfl) ?_
  refine j_lt0 (tgt := 20) hx hb (by omega) (by omega) dX7_putPaid_1 (by decide) (fun c1 => ?_) (fun c1 => ?_)
  · exact r_vE hx hb hr hlk (Nat.le_of_ble_eq_true rfl) (Nat.le_of_ble_eq_true rfl) rfl hL0 (absurd (True.intro) (by omega)) dX7_putPaid_20
  · refine lv_iload_n hx hb dX7_putPaid_4 rfl (lv_at hl 1 rfl) ?_
    refine lv_aload_n hx hb dX7_putPaid_5 rfl (lv_at hl 0 rfl) ?_
    refine j_get (ci := 7) (v := .ref y2) hx hb hts inX7_ hown hK hP.1 rfl 1 (by decide) lk0 (fun _ h9 => h9) rfl dX7_putPaid_6 ?_
    refine j_alI hx hb hK hP.2.2 dX7_putPaid_9 ?_
    refine j_re (y := 40) rfl ?_
    refine j_cge (tgt := 20) hx hb (by omega) (by omega) (by decide) (by decide) dX7_putPaid_10 (by decide) (fun c10 => ?_) (fun c10 => ?_)
    · exact r_vE hx hb hr hlk (Nat.le_of_ble_eq_true rfl) (Nat.le_of_ble_eq_true rfl) rfl hL0 (absurd (True.intro) (by omega)) dX7_putPaid_20
    · refine lv_aload_n hx hb dX7_putPaid_13 rfl (lv_at hl 0 rfl) ?_
      refine j_get (ci := 7) (v := .ref y2) hx hb hts inX7_ hown hK hP.1 rfl 1 (by decide) lk0 (fun _ h9 => h9) rfl dX7_putPaid_14 ?_
      refine lv_iload_n hx hb dX7_putPaid_17 rfl (lv_at hl 1 rfl) ?_
      refine lv_iload_n hx hb dX7_putPaid_18 rfl (lv_at hl 2 rfl) ?_
      refine j_iast (A := (fun x => (fun x => x = y2) x ∨ sz ≤ x)) hx hb hK hP.2.2 (by omega) (by omega) (by decide) hL0 (Or.inl rfl) dX7_putPaid_19 (fun H_1 lo_2 hc_3 hx_4 hL_5 => ?_)
      have hc_3 : At G H_1 y2 (eI G 40 (uf g2 z v)) := hc_3
      have ce_6 : At G H_1 o (eO 7 [.ref y1, .ref y2, .int (J b1), .int (J b2), .int (J b3)]) := hP.1.x hx_4 (by omega)
      have ce_7 : At G H_1 y1 (eI G 40 g1) := hP.2.1.x hx_4 (by omega)
      have hF_8 : Fr s.heap H_1 (fun x => x = y2) 0 := hF0.x hx_4 (fun _ => rfl)
      exact r_vE hx hb hr hlk (Nat.le_of_ble_eq_true rfl) (Nat.le_of_ble_eq_true rfl) rfl hL_5 (⟨hF_8, hc_3⟩) dX7_putPaid_20
