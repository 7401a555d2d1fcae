abbrev rmX5_at : Room := { frames := 0, cells := 0, slots := 0, locals := 0 }
set_option maxHeartbeats 4000000 in
set_option maxRecDepth 100000 in
theorem c_X5_at (l : Launch) (G : GG) (tw hs : Nat) (ha ea : Int → Nat) (V : St) (z : Int) (g_z : -2147483648 ≤ z ∧ z < 2147483648) : MP l G yX5_at wsX5_at rmX5_at [.ref tw, .int (J z)] (fun H => Tn G H tw hs ha ea V) (va_rf (qN (V 0 0) ha z) : Value) := by
  refine MP.of (cc := cX5_at) (maxL := 2) (ret := (some (.object "RateBook$House"))) (by decide) rfl (Nat.le_of_ble_eq_true rfl) ?_
  intro p e s m below meth c hx hb hr hml hown hts hlk hK hP ls hl
  have hown : s.vm.findClass RX5 = some m.cls := hown
  have hl : lv_has ls 2 [(0, .ref tw), (1, .int (J z))] := hl
  have inX5_ : ∀ w ∈ u_ws RX5 TX5 2, w ∈ wsX5_at := by decide +kernel
  have lk0 := hts (.fieldLink RX5 11 "RateBook$Town" "houses" "[LRateBook$House;") (by decide +kernel)
  have hT : Tn G s.heap tw hs ha ea V := hP
  obtain ⟨hT1, hT2, hT3, hT4⟩ := id hT
  have hn := hT1.n
  refine lv_iload_n hx hb dX5_at_0 rfl (lv_at hl 1 rfl) ?_
  refine j_lt0 (tgt := 22) hx hb (by omega) (by omega) dX5_at_1 (by decide) (fun c1 => ?_) (fun c1 => ?_)
  · refine lv_null hx hb dX5_at_22 ?_
    exact r_a hx hb hr hlk (o := none) rfl (congrArg va_rf (show (none : Option Nat) = qN (V 0 0) ha z from (qN_n (by omega)).symm)) dX5_at_23
  · refine lv_iload_n hx hb dX5_at_4 rfl (lv_at hl 1 rfl) ?_
    refine lv_aload_n hx hb dX5_at_5 rfl (lv_at hl 0 rfl) ?_
    refine j_get (ci := 5) (v := .ref hs) hx hb hts inX5_ hown hK hT2 rfl 0 (by decide) lk0 (fun _ h9 => h9) rfl dX5_at_6 ?_
    refine j_alQ (C := RX2) hx hb hK hT3 rfl dX5_at_9 ?_
    refine j_re (y := 40) rfl ?_
    refine j_cge (tgt := 22) hx hb (by omega) (by omega) (by decide) (by decide) dX5_at_10 (by decide) (fun c10 => ?_) (fun c10 => ?_)
    · refine lv_null hx hb dX5_at_22 ?_
      exact r_a hx hb hr hlk (o := none) rfl (congrArg va_rf (show (none : Option Nat) = qN (V 0 0) ha z from (qN_n (by omega)).symm)) dX5_at_23
    · refine lv_aload_n hx hb dX5_at_13 rfl (lv_at hl 0 rfl) ?_
      refine j_get (ci := 5) (v := .ref hs) hx hb hts inX5_ hown hK hT2 rfl 0 (by decide) lk0 (fun _ h9 => h9) rfl dX5_at_14 ?_
      refine lv_iload_n hx hb dX5_at_17 rfl (lv_at hl 1 rfl) ?_
      refine j_aald (C := RX2) hx hb hK hT3 rfl (by omega) (by omega) (by decide) dX5_at_18 ?_
      refine lv_goto (tgt := 23) hx hb dX5_at_19 (by decide) ?_
      exact r_a hx hb hr hlk (o := (qN (V 0 0) ha) z) rfl (congrArg va_rf (show ((qN (V 0 0) ha) z : Option Nat) = qN (V 0 0) ha z from rfl)) dX5_at_23

abbrev rmX5_rentsOf : Room := { frames := 1, cells := 0, slots := 0, locals := 23 }
set_option maxHeartbeats 4000000 in
set_option maxRecDepth 100000 in
theorem c_X5_rentsOf (l : Launch) (G : GG) (tw hs : Nat) (ha ea : Int → Nat) (V : St) (ks st out : Int) (g_ks : -2147483648 ≤ ks ∧ ks < 2147483648) (g_st : -2147483648 ≤ st ∧ st < 2147483648) (g_out : -2147483648 ≤ out ∧ out < 2147483648) : MP l G yX5_rentsOf wsX5_rentsOf rmX5_rentsOf [.ref tw, .int (J ks), .int (J st), .int (J out)] (fun H => Tn G H tw hs ha ea V) (.int (J (among V ks st out)) : Value) := by
  refine MP.of (cc := cX5_rentsOf) (maxL := 7) (ret := (some .int)) (by decide) rfl (Nat.le_of_ble_eq_true rfl) ?_
  intro p e s m below meth c hx hb hr hml hown hts hlk hK hP ls hl
  have hown : s.vm.findClass RX5 = some m.cls := hown
  have hl : lv_has ls 7 [(0, .ref tw), (1, .int (J ks)), (2, .int (J st)), (3, .int (J out))] := hl
  have inX5_ : ∀ w ∈ u_ws RX5 TX5 2, w ∈ wsX5_rentsOf := by decide +kernel
  have lk0 := hts (.fieldLink RX5 11 "RateBook$Town" "houses" "[LRateBook$House;") (by decide +kernel)
  have hT : Tn G s.heap tw hs ha ea V := hP
  obtain ⟨hT1, hT2, hT3, hT4⟩ := id hT
  have hn := hT1.n
  refine j_const hx hb dX5_rentsOf_0 ?_
  refine lv_istore (lv' := [(4, .int (J 0)), (0, .ref tw), (1, .int (J ks)), (2, .int (J st)), (3, .int (J out))]) hx hb dX5_rentsOf_1 hl (by decide) rfl (fun ls hl => ?_)
  refine j_const hx hb dX5_rentsOf_3 ?_
  refine lv_istore (lv' := [(5, .int (J 0)), (4, .int (J 0)), (0, .ref tw), (1, .int (J ks)), (2, .int (J st)), (3, .int (J out))]) hx hb dX5_rentsOf_4 hl (by decide) rfl (fun ls hl => ?_)
  have lp6 : ∀ (n : Nat) (i : Int) (i0 : 0 ≤ i ∧ i ≤ 40) (hm : 40 - i < (n : Int)) (ls : Array Slot) (hl : lv_has ls 7 [(5, .int (J i)), (4, .int (J (lo (gd (V 0 0) (fun x h => x + pI (asked V ks st out h))) 0 i))), (0, .ref tw), (1, .int (J ks)), (2, .int (J st)), (3, .int (J out))]), W p l e (headSpec wsX5_rentsOf rmX5_rentsOf).room s m ([.ref tw, .int (J ks), .int (J st), .int (J out)] : List Value).toArray below meth c s.heap [] 0 0 (MQ below (k2_QcV (.int (J (among V ks st out)) : Value)) ([.ref tw, .int (J ks), .int (J st), .int (J out)] : List Value).toArray s 0 0 (fun _ => False)) (F0 m 6 ls []) := by
    intro n
    induction n with
    | zero =>
      intro i i0 hm ls hl
      exact absurd hm (by omega)
    | succ n ih6 =>
      intro i i0 hm ls hl
      refine lv_iload hx hb dX5_rentsOf_6 (lv_at hl 0 rfl) ?_
      refine lv_aload_n hx hb dX5_rentsOf_8 rfl (lv_at hl 2 rfl) ?_
      refine j_get (ci := 5) (v := .ref hs) hx hb hts inX5_ hown hK hT2 rfl 0 (by decide) lk0 (fun _ h9 => h9) rfl dX5_rentsOf_9 ?_
      refine j_alQ (C := RX2) hx hb hK hT3 rfl dX5_rentsOf_12 ?_
      refine j_re (y := 40) rfl ?_
      refine j_cge (tgt := 57) hx hb (by omega) (by omega) (by decide) (by decide) dX5_rentsOf_13 (by decide) (fun c13 => ?_) (fun c13 => ?_)
      · refine lv_iload hx hb dX5_rentsOf_57 (lv_at hl 1 rfl) ?_
        exact r_i hx hb hr hlk (congrArg (fun z => Value.int (J z)) (show (lo (gd (V 0 0) (fun x h => x + pI (asked V ks st out h))) 0 i : Int) = among V ks st out from by rw [show i = 40 by omega]; exact lo_gd hn.1 hn.2)) dX5_rentsOf_59
      · refine lv_aload_n hx hb dX5_rentsOf_16 rfl (lv_at hl 2 rfl) ?_
        refine j_get (ci := 5) (v := .ref hs) hx hb hts inX5_ hown hK hT2 rfl 0 (by decide) lk0 (fun _ h9 => h9) rfl dX5_rentsOf_17 ?_
        refine lv_iload hx hb dX5_rentsOf_20 (lv_at hl 0 rfl) ?_
        refine j_aald (C := RX2) hx hb hK hT3 rfl (by omega) (by omega) (by decide) dX5_rentsOf_22 ?_
        by_cases sp22 : 0 ≤ i ∧ i < V 0 0
        · refine j_qs (b := ha i) (qN_s sp22) ?_
          have hce_1 : At G s.heap (ha i) (eHo V (ea) i) := hT4 i sp22.1 sp22.2
          have hih_2 := hT1.h sp22.1 sp22.2
          refine lv_astore (lv' := [(6, .ref (ha i)), (5, .int (J i)), (4, .int (J (lo (gd (V 0 0) (fun x h => x + pI (asked V ks st out h))) 0 i))), (0, .ref tw), (1, .int (J ks)), (2, .int (J st)), (3, .int (J out))]) hx hb dX5_rentsOf_23 hl (by decide) rfl (fun ls hl => ?_)
          refine lv_iload hx hb dX5_rentsOf_25 (lv_at hl 2 rfl) ?_
          refine lv_aload hx hb dX5_rentsOf_27 (lv_at hl 0 rfl) ?_
          refine lv_ifnull hx hb dX5_rentsOf_29 ?_
          refine lv_aload hx hb dX5_rentsOf_32 (lv_at hl 0 rfl) ?_
          refine lv_iload_n hx hb dX5_rentsOf_34 rfl (lv_at hl 4 rfl) ?_
          refine lv_iload_n hx hb dX5_rentsOf_35 rfl (lv_at hl 5 rfl) ?_
          refine lv_iload_n hx hb dX5_rentsOf_36 rfl (lv_at hl 6 rfl) ?_
          refine k_V (ci := 2) (b := ha i) (As := [.int (J ks), .int (J st), .int (J out)]) (rest := [.int (J (lo (gd (V 0 0) (fun x h => x + pI (asked V ks st out h))) 0 i))]) (v := .int (J (pI (asked V ks st out i)))) hx hb hml hown hts hK hl.1 (c_X2_tells l G ha ea V i ks st out ((by omega)) hih_2 g_ks g_st g_out) (cwV 3 hts gX5_rentsOf_X2_tells rfl rfl rfl (by decide +kernel) ⟨Nat.le_of_ble_eq_true rfl, Nat.le_of_ble_eq_true rfl⟩) hce_1 rfl hce_1 rfl rfl (Nat.le_of_ble_eq_true rfl) dX5_rentsOf_37 ⟨Nat.zero_le _, Nat.zero_le _⟩ ?_
          refine j_eqP (tgt := 47) hx hb dX5_rentsOf_40 (by decide) (fun c40 => ?_) (fun c40 => ?_)
          · refine j_const hx hb dX5_rentsOf_47 ?_
            refine j_add hx hb dX5_rentsOf_48 ?_
            refine lv_istore (lv' := [(4, .int (J ((lo (gd (V 0 0) (fun x h => x + pI (asked V ks st out h))) 0 i) + 0))), (6, .ref (ha i)), (5, .int (J i)), (0, .ref tw), (1, .int (J ks)), (2, .int (J st)), (3, .int (J out))]) hx hb dX5_rentsOf_49 hl (by decide) rfl (fun ls hl => ?_)
            refine lv_iinc (v := J (i + 1)) (lv' := [(5, .int (J (i + 1))), (4, .int (J ((lo (gd (V 0 0) (fun x h => x + pI (asked V ks st out h))) 0 i) + 0))), (6, .ref (ha i)), (0, .ref tw), (1, .int (J ks)), (2, .int (J st)), (3, .int (J out))]) hx hb dX5_rentsOf_51 hl (k := 2) rfl (J_add _ _) (by decide) rfl (fun ls hl => ?_)
            refine lv_goto (tgt := 6) hx hb dX5_rentsOf_54 (by decide) ?_
            exact ih6 (i + 1) (by omega) (by omega) _ (lv_sub hl [0, 1, 3, 4, 5, 6] (by rw [show (lo (gd (V 0 0) (fun x h => x + pI (asked V ks st out h))) 0 (i + 1) : Int) = (lo (gd (V 0 0) (fun x h => x + pI (asked V ks st out h))) 0 i) + 0 from (by rw [lo_s _ _ (by omega)]; (try simp only [gd, pI]) <;> (repeat' split) <;> first | rfl | omega | (exfalso; omega) | (exfalso; contradiction) | (exfalso; simp_all))]; try rfl))
          · refine j_const hx hb dX5_rentsOf_43 ?_
            refine lv_goto (tgt := 48) hx hb dX5_rentsOf_44 (by decide) ?_
            refine j_add hx hb dX5_rentsOf_48 ?_
            refine lv_istore (lv' := [(4, .int (J ((lo (gd (V 0 0) (fun x h => x + pI (asked V ks st out h))) 0 i) + 1))), (6, .ref (ha i)), (5, .int (J i)), (0, .ref tw), (1, .int (J ks)), (2, .int (J st)), (3, .int (J out))]) hx hb dX5_rentsOf_49 hl (by decide) rfl (fun ls hl => ?_)
            refine lv_iinc (v := J (i + 1)) (lv' := [(5, .int (J (i + 1))), (4, .int (J ((lo (gd (V 0 0) (fun x h => x + pI (asked V ks st out h))) 0 i) + 1))), (6, .ref (ha i)), (0, .ref tw), (1, .int (J ks)), (2, .int (J st)), (3, .int (J out))]) hx hb dX5_rentsOf_51 hl (k := 2) rfl (J_add _ _) (by decide) rfl (fun ls hl => ?_)
            refine lv_goto (tgt := 6) hx hb dX5_rentsOf_54 (by decide) ?_
            exact ih6 (i + 1) (by omega) (by omega) _ (lv_sub hl [0, 1, 3, 4, 5, 6] (by rw [show (lo (gd (V 0 0) (fun x h => x + pI (asked V ks st out h))) 0 (i + 1) : Int) = (lo (gd (V 0 0) (fun x h => x + pI (asked V ks st out h))) 0 i) + 1 from (by rw [lo_s _ _ (by omega)]; (try simp only [gd, pI]) <;> (repeat' split) <;> first | rfl | omega | (exfalso; omega) | (exfalso; contradiction) | (exfalso; simp_all))]; try rfl))
        · refine j_qn (qN_n sp22) ?_
          refine lv_astoreN (lv' := [(6, .null), (5, .int (J i)), (4, .int (J (lo (gd (V 0 0) (fun x h => x + pI (asked V ks st out h))) 0 i))), (0, .ref tw), (1, .int (J ks)), (2, .int (J st)), (3, .int (J out))]) hx hb dX5_rentsOf_23 hl (by decide) rfl (fun ls hl => ?_)
          refine lv_iload hx hb dX5_rentsOf_25 (lv_at hl 2 rfl) ?_
          refine lv_aloadN hx hb dX5_rentsOf_27 (lv_at hl 0 rfl) ?_
          refine lv_ifnullN (tgt := 47) hx hb dX5_rentsOf_29 (by decide) ?_
          refine j_const hx hb dX5_rentsOf_47 ?_
          refine j_add hx hb dX5_rentsOf_48 ?_
          refine lv_istore (lv' := [(4, .int (J ((lo (gd (V 0 0) (fun x h => x + pI (asked V ks st out h))) 0 i) + 0))), (6, .null), (5, .int (J i)), (0, .ref tw), (1, .int (J ks)), (2, .int (J st)), (3, .int (J out))]) hx hb dX5_rentsOf_49 hl (by decide) rfl (fun ls hl => ?_)
          refine lv_iinc (v := J (i + 1)) (lv' := [(5, .int (J (i + 1))), (4, .int (J ((lo (gd (V 0 0) (fun x h => x + pI (asked V ks st out h))) 0 i) + 0))), (6, .null), (0, .ref tw), (1, .int (J ks)), (2, .int (J st)), (3, .int (J out))]) hx hb dX5_rentsOf_51 hl (k := 2) rfl (J_add _ _) (by decide) rfl (fun ls hl => ?_)
          refine lv_goto (tgt := 6) hx hb dX5_rentsOf_54 (by decide) ?_
          exact ih6 (i + 1) (by omega) (by omega) _ (lv_sub hl [0, 1, 3, 4, 5, 6] (by rw [show (lo (gd (V 0 0) (fun x h => x + pI (asked V ks st out h))) 0 (i + 1) : Int) = (lo (gd (V 0 0) (fun x h => x + pI (asked V ks st out h))) 0 i) + 0 from (by rw [lo_s _ _ (by omega)]; (try simp only [gd, pI]) <;> (repeat' split) <;> first | rfl | omega | (exfalso; omega) | (exfalso; contradiction) | (exfalso; simp_all))]; try rfl))
  exact lp6 41 0 (by omega) (by omega) _ (lv_sub hl [0, 1, 2, 3, 4, 5] (by rw [show (lo (gd (V 0 0) (fun x h => x + pI (asked V ks st out h))) 0 0 : Int) = 0 from (by rfl)]; try rfl))

abbrev rmX5_lesserThan : Room := { frames := 1, cells := 0, slots := 0, locals := 25 }
set_option maxHeartbeats 4000000 in
set_option maxRecDepth 100000 in
theorem c_X5_lesserThan (l : Launch) (G : GG) (tw hs : Nat) (ha ea : Int → Nat) (V : St) (j ks st out : Int) (h_j : 0 ≤ j ∧ j < V 0 0) (g_ks : -2147483648 ≤ ks ∧ ks < 2147483648) (g_st : -2147483648 ≤ st ∧ st < 2147483648) (g_out : -2147483648 ≤ out ∧ out < 2147483648) : MP l G yX5_lesserThan wsX5_lesserThan rmX5_lesserThan [.ref tw, .ref (ha j), .int (J ks), .int (J st), .int (J out)] (fun H => Tn G H tw hs ha ea V) (.int (J (rank V ks st out j)) : Value) := by
  refine MP.of (cc := cX5_lesserThan) (maxL := 8) (ret := (some .int)) (by decide) rfl (Nat.le_of_ble_eq_true rfl) ?_
  intro p e s m below meth c hx hb hr hml hown hts hlk hK hP ls hl
  have hown : s.vm.findClass RX5 = some m.cls := hown
  have hl : lv_has ls 8 [(0, .ref tw), (1, .ref (ha j)), (2, .int (J ks)), (3, .int (J st)), (4, .int (J out))] := hl
  have inX5_ : ∀ w ∈ u_ws RX5 TX5 2, w ∈ wsX5_lesserThan := by decide +kernel
  have lk0 := hts (.fieldLink RX5 11 "RateBook$Town" "houses" "[LRateBook$House;") (by decide +kernel)
  have hT : Tn G s.heap tw hs ha ea V := hP
  obtain ⟨hT1, hT2, hT3, hT4⟩ := id hT
  have hn := hT1.n
  have hJ := hT4 j h_j.1 h_j.2
  have hjh := hT1.h h_j.1 h_j.2
  refine j_const hx hb dX5_lesserThan_0 ?_
  refine lv_istore (lv' := [(5, .int (J 0)), (0, .ref tw), (1, .ref (ha j)), (2, .int (J ks)), (3, .int (J st)), (4, .int (J out))]) hx hb dX5_lesserThan_1 hl (by decide) rfl (fun ls hl => ?_)
  refine j_const hx hb dX5_lesserThan_3 ?_
  refine lv_istore (lv' := [(6, .int (J 0)), (5, .int (J 0)), (0, .ref tw), (1, .ref (ha j)), (2, .int (J ks)), (3, .int (J st)), (4, .int (J out))]) hx hb dX5_lesserThan_4 hl (by decide) rfl (fun ls hl => ?_)
  have lp6 : ∀ (n : Nat) (i : Int) (i0 : 0 ≤ i ∧ i ≤ 40) (hm : 40 - i < (n : Int)) (ls : Array Slot) (hl : lv_has ls 8 [(6, .int (J i)), (5, .int (J (lo (gd (V 0 0) (fun x o => x + pI (asked V ks st out o ∧ less V o j))) 0 i))), (0, .ref tw), (1, .ref (ha j)), (2, .int (J ks)), (3, .int (J st)), (4, .int (J out))]), W p l e (headSpec wsX5_lesserThan rmX5_lesserThan).room s m ([.ref tw, .ref (ha j), .int (J ks), .int (J st), .int (J out)] : List Value).toArray below meth c s.heap [] 0 0 (MQ below (k2_QcV (.int (J (rank V ks st out j)) : Value)) ([.ref tw, .ref (ha j), .int (J ks), .int (J st), .int (J out)] : List Value).toArray s 0 0 (fun _ => False)) (F0 m 6 ls []) := by
    intro n
    induction n with
    | zero =>
      intro i i0 hm ls hl
      exact absurd hm (by omega)
    | succ n ih6 =>
      intro i i0 hm ls hl
      refine lv_iload hx hb dX5_lesserThan_6 (lv_at hl 0 rfl) ?_
      refine lv_aload_n hx hb dX5_lesserThan_8 rfl (lv_at hl 2 rfl) ?_
      refine j_get (ci := 5) (v := .ref hs) hx hb hts inX5_ hown hK hT2 rfl 0 (by decide) lk0 (fun _ h9 => h9) rfl dX5_lesserThan_9 ?_
      refine j_alQ (C := RX2) hx hb hK hT3 rfl dX5_lesserThan_12 ?_
      refine j_re (y := 40) rfl ?_
      refine j_cge (tgt := 67) hx hb (by omega) (by omega) (by decide) (by decide) dX5_lesserThan_13 (by decide) (fun c13 => ?_) (fun c13 => ?_)
      · refine lv_iload hx hb dX5_lesserThan_67 (lv_at hl 1 rfl) ?_
        exact r_i hx hb hr hlk (congrArg (fun z => Value.int (J z)) (show (lo (gd (V 0 0) (fun x o => x + pI (asked V ks st out o ∧ less V o j))) 0 i : Int) = rank V ks st out j from by rw [show i = 40 by omega]; exact lo_gd hn.1 hn.2)) dX5_lesserThan_69
      · refine lv_aload_n hx hb dX5_lesserThan_16 rfl (lv_at hl 2 rfl) ?_
        refine j_get (ci := 5) (v := .ref hs) hx hb hts inX5_ hown hK hT2 rfl 0 (by decide) lk0 (fun _ h9 => h9) rfl dX5_lesserThan_17 ?_
        refine lv_iload hx hb dX5_lesserThan_20 (lv_at hl 0 rfl) ?_
        refine j_aald (C := RX2) hx hb hK hT3 rfl (by omega) (by omega) (by decide) dX5_lesserThan_22 ?_
        by_cases sp22 : 0 ≤ i ∧ i < V 0 0
        · refine j_qs (b := ha i) (qN_s sp22) ?_
          have hce_1 : At G s.heap (ha i) (eHo V (ea) i) := hT4 i sp22.1 sp22.2
          have hih_2 := hT1.h sp22.1 sp22.2
          refine lv_astore (lv' := [(7, .ref (ha i)), (6, .int (J i)), (5, .int (J (lo (gd (V 0 0) (fun x o => x + pI (asked V ks st out o ∧ less V o j))) 0 i))), (0, .ref tw), (1, .ref (ha j)), (2, .int (J ks)), (3, .int (J st)), (4, .int (J out))]) hx hb dX5_lesserThan_23 hl (by decide) rfl (fun ls hl => ?_)
          refine lv_iload hx hb dX5_lesserThan_25 (lv_at hl 2 rfl) ?_
          refine lv_aload hx hb dX5_lesserThan_27 (lv_at hl 0 rfl) ?_
          refine lv_ifnull hx hb dX5_lesserThan_29 ?_
          refine lv_aload hx hb dX5_lesserThan_32 (lv_at hl 0 rfl) ?_
          refine lv_iload_n hx hb dX5_lesserThan_34 rfl (lv_at hl 5 rfl) ?_
          refine lv_iload_n hx hb dX5_lesserThan_35 rfl (lv_at hl 6 rfl) ?_
          refine lv_iload hx hb dX5_lesserThan_36 (lv_at hl 7 rfl) ?_
          refine k_V (ci := 2) (b := ha i) (As := [.int (J ks), .int (J st), .int (J out)]) (rest := [.int (J (lo (gd (V 0 0) (fun x o => x + pI (asked V ks st out o ∧ less V o j))) 0 i))]) (v := .int (J (pI (asked V ks st out i)))) hx hb hml hown hts hK hl.1 (c_X2_tells l G ha ea V i ks st out ((by omega)) hih_2 g_ks g_st g_out) (cwV 3 hts gX5_lesserThan_X2_tells rfl rfl rfl (by decide +kernel) ⟨Nat.le_of_ble_eq_true rfl, Nat.le_of_ble_eq_true rfl⟩) hce_1 rfl hce_1 rfl rfl (Nat.le_of_ble_eq_true rfl) dX5_lesserThan_38 ⟨Nat.zero_le _, Nat.zero_le _⟩ ?_
          refine j_eqP (tgt := 57) hx hb dX5_lesserThan_41 (by decide) (fun c41 => ?_) (fun c41 => ?_)
          · refine j_const hx hb dX5_lesserThan_57 ?_
            refine j_add hx hb dX5_lesserThan_58 ?_
            refine lv_istore (lv' := [(5, .int (J ((lo (gd (V 0 0) (fun x o => x + pI (asked V ks st out o ∧ less V o j))) 0 i) + 0))), (7, .ref (ha i)), (6, .int (J i)), (0, .ref tw), (1, .ref (ha j)), (2, .int (J ks)), (3, .int (J st)), (4, .int (J out))]) hx hb dX5_lesserThan_59 hl (by decide) rfl (fun ls hl => ?_)
            refine lv_iinc (v := J (i + 1)) (lv' := [(6, .int (J (i + 1))), (5, .int (J ((lo (gd (V 0 0) (fun x o => x + pI (asked V ks st out o ∧ less V o j))) 0 i) + 0))), (7, .ref (ha i)), (0, .ref tw), (1, .ref (ha j)), (2, .int (J ks)), (3, .int (J st)), (4, .int (J out))]) hx hb dX5_lesserThan_61 hl (k := 2) rfl (J_add _ _) (by decide) rfl (fun ls hl => ?_)
            refine lv_goto (tgt := 6) hx hb dX5_lesserThan_64 (by decide) ?_
            exact ih6 (i + 1) (by omega) (by omega) _ (lv_sub hl [0, 1, 3, 4, 5, 6, 7] (by rw [show (lo (gd (V 0 0) (fun x o => x + pI (asked V ks st out o ∧ less V o j))) 0 (i + 1) : Int) = (lo (gd (V 0 0) (fun x o => x + pI (asked V ks st out o ∧ less V o j))) 0 i) + 0 from (by rw [lo_s _ _ (by omega)]; (try simp only [gd, pI]) <;> (repeat' split) <;> first | rfl | omega | (exfalso; omega) | (exfalso; contradiction) | (exfalso; simp_all))]; try rfl))
          · refine lv_aload hx hb dX5_lesserThan_44 (lv_at hl 0 rfl) ?_
            refine lv_aload_n hx hb dX5_lesserThan_46 rfl (lv_at hl 4 rfl) ?_
            refine k_V (ci := 2) (b := ha i) (As := [.ref (ha j)]) (rest := [.int (J (lo (gd (V 0 0) (fun x o => x + pI (asked V ks st out o ∧ less V o j))) 0 i))]) (v := .int (J (pI (less V i j)))) hx hb hml hown hts hK hl.1 (c_X2_hasLesserRent l G ha ea V i j ((by omega)) hih_2 ((by omega)) hjh) (cwV 1 hts gX5_lesserThan_X2_hasLesserRent rfl rfl rfl (by decide +kernel) ⟨Nat.le_of_ble_eq_true rfl, Nat.le_of_ble_eq_true rfl⟩) hce_1 rfl (⟨hce_1, hJ⟩) rfl rfl (Nat.le_of_ble_eq_true rfl) dX5_lesserThan_47 ⟨Nat.zero_le _, Nat.zero_le _⟩ ?_
            refine j_eqP (tgt := 57) hx hb dX5_lesserThan_50 (by decide) (fun c50 => ?_) (fun c50 => ?_)
            · refine j_const hx hb dX5_lesserThan_57 ?_
              refine j_add hx hb dX5_lesserThan_58 ?_
              refine lv_istore (lv' := [(5, .int (J ((lo (gd (V 0 0) (fun x o => x + pI (asked V ks st out o ∧ less V o j))) 0 i) + 0))), (7, .ref (ha i)), (6, .int (J i)), (0, .ref tw), (1, .ref (ha j)), (2, .int (J ks)), (3, .int (J st)), (4, .int (J out))]) hx hb dX5_lesserThan_59 hl (by decide) rfl (fun ls hl => ?_)
              refine lv_iinc (v := J (i + 1)) (lv' := [(6, .int (J (i + 1))), (5, .int (J ((lo (gd (V 0 0) (fun x o => x + pI (asked V ks st out o ∧ less V o j))) 0 i) + 0))), (7, .ref (ha i)), (0, .ref tw), (1, .ref (ha j)), (2, .int (J ks)), (3, .int (J st)), (4, .int (J out))]) hx hb dX5_lesserThan_61 hl (k := 2) rfl (J_add _ _) (by decide) rfl (fun ls hl => ?_)
              refine lv_goto (tgt := 6) hx hb dX5_lesserThan_64 (by decide) ?_
              exact ih6 (i + 1) (by omega) (by omega) _ (lv_sub hl [0, 1, 3, 4, 5, 6, 7] (by rw [show (lo (gd (V 0 0) (fun x o => x + pI (asked V ks st out o ∧ less V o j))) 0 (i + 1) : Int) = (lo (gd (V 0 0) (fun x o => x + pI (asked V ks st out o ∧ less V o j))) 0 i) + 0 from (by rw [lo_s _ _ (by omega)]; (try simp only [gd, pI]) <;> (repeat' split) <;> first | rfl | omega | (exfalso; omega) | (exfalso; contradiction) | (exfalso; simp_all))]; try rfl))
            · refine j_const hx hb dX5_lesserThan_53 ?_
              refine lv_goto (tgt := 58) hx hb dX5_lesserThan_54 (by decide) ?_
              refine j_add hx hb dX5_lesserThan_58 ?_
              refine lv_istore (lv' := [(5, .int (J ((lo (gd (V 0 0) (fun x o => x + pI (asked V ks st out o ∧ less V o j))) 0 i) + 1))), (7, .ref (ha i)), (6, .int (J i)), (0, .ref tw), (1, .ref (ha j)), (2, .int (J ks)), (3, .int (J st)), (4, .int (J out))]) hx hb dX5_lesserThan_59 hl (by decide) rfl (fun ls hl => ?_)
              refine lv_iinc (v := J (i + 1)) (lv' := [(6, .int (J (i + 1))), (5, .int (J ((lo (gd (V 0 0) (fun x o => x + pI (asked V ks st out o ∧ less V o j))) 0 i) + 1))), (7, .ref (ha i)), (0, .ref tw), (1, .ref (ha j)), (2, .int (J ks)), (3, .int (J st)), (4, .int (J out))]) hx hb dX5_lesserThan_61 hl (k := 2) rfl (J_add _ _) (by decide) rfl (fun ls hl => ?_)
              refine lv_goto (tgt := 6) hx hb dX5_lesserThan_64 (by decide) ?_
              exact ih6 (i + 1) (by omega) (by omega) _ (lv_sub hl [0, 1, 3, 4, 5, 6, 7] (by rw [show (lo (gd (V 0 0) (fun x o => x + pI (asked V ks st out o ∧ less V o j))) 0 (i + 1) : Int) = (lo (gd (V 0 0) (fun x o => x + pI (asked V ks st out o ∧ less V o j))) 0 i) + 1 from (by rw [lo_s _ _ (by omega)]; (try simp only [gd, pI]) <;> (repeat' split) <;> first | rfl | omega | (exfalso; omega) | (exfalso; contradiction) | (exfalso; simp_all))]; try rfl))
        · refine j_qn (qN_n sp22) ?_
          refine lv_astoreN (lv' := [(7, .null), (6, .int (J i)), (5, .int (J (lo (gd (V 0 0) (fun x o => x + pI (asked V ks st out o ∧ less V o j))) 0 i))), (0, .ref tw), (1, .ref (ha j)), (2, .int (J ks)), (3, .int (J st)), (4, .int (J out))]) hx hb dX5_lesserThan_23 hl (by decide) rfl (fun ls hl => ?_)
          refine lv_iload hx hb dX5_lesserThan_25 (lv_at hl 2 rfl) ?_
          refine lv_aloadN hx hb dX5_lesserThan_27 (lv_at hl 0 rfl) ?_
          refine lv_ifnullN (tgt := 57) hx hb dX5_lesserThan_29 (by decide) ?_
          refine j_const hx hb dX5_lesserThan_57 ?_
          refine j_add hx hb dX5_lesserThan_58 ?_
          refine lv_istore (lv' := [(5, .int (J ((lo (gd (V 0 0) (fun x o => x + pI (asked V ks st out o ∧ less V o j))) 0 i) + 0))), (7, .null), (6, .int (J i)), (0, .ref tw), (1, .ref (ha j)), (2, .int (J ks)), (3, .int (J st)), (4, .int (J out))]) hx hb dX5_lesserThan_59 hl (by decide) rfl (fun ls hl => ?_)
          refine lv_iinc (v := J (i + 1)) (lv' := [(6, .int (J (i + 1))), (5, .int (J ((lo (gd (V 0 0) (fun x o => x + pI (asked V ks st out o ∧ less V o j))) 0 i) + 0))), (7, .null), (0, .ref tw), (1, .ref (ha j)), (2, .int (J ks)), (3, .int (J st)), (4, .int (J out))]) hx hb dX5_lesserThan_61 hl (k := 2) rfl (J_add _ _) (by decide) rfl (fun ls hl => ?_)
          refine lv_goto (tgt := 6) hx hb dX5_lesserThan_64 (by decide) ?_
          exact ih6 (i + 1) (by omega) (by omega) _ (lv_sub hl [0, 1, 3, 4, 5, 6, 7] (by rw [show (lo (gd (V 0 0) (fun x o => x + pI (asked V ks st out o ∧ less V o j))) 0 (i + 1) : Int) = (lo (gd (V 0 0) (fun x o => x + pI (asked V ks st out o ∧ less V o j))) 0 i) + 0 from (by rw [lo_s _ _ (by omega)]; (try simp only [gd, pI]) <;> (repeat' split) <;> first | rfl | omega | (exfalso; omega) | (exfalso; contradiction) | (exfalso; simp_all))]; try rfl))
  exact lp6 41 0 (by omega) (by omega) _ (lv_sub hl [0, 1, 2, 3, 4, 5, 6] (by rw [show (lo (gd (V 0 0) (fun x o => x + pI (asked V ks st out o ∧ less V o j))) 0 0 : Int) = 0 from (by rfl)]; try rfl))

abbrev rmX5_middleOf : Room := { frames := 2, cells := 0, slots := 0, locals := 52 }
set_option maxHeartbeats 4000000 in
set_option maxRecDepth 100000 in
theorem c_X5_middleOf (l : Launch) (G : GG) (tw hs : Nat) (ha ea : Int → Nat) (V : St) (ks st out r : Int) (g_ks : -2147483648 ≤ ks ∧ ks < 2147483648) (g_st : -2147483648 ≤ st ∧ st < 2147483648) (g_out : -2147483648 ≤ out ∧ out < 2147483648) (g_r : -2147483648 ≤ r ∧ r < 2147483648) : MP l G yX5_middleOf wsX5_middleOf rmX5_middleOf [.ref tw, .int (J ks), .int (J st), .int (J out), .int (J r)] (fun H => Tn G H tw hs ha ea V) (va_rf (Option.map ha (mid V ks st out r)) : Value) := by
  refine MP.of (cc := cX5_middleOf) (maxL := 7) (ret := (some (.object "RateBook$House"))) (by decide) rfl (Nat.le_of_ble_eq_true rfl) ?_
  intro p e s m below meth c hx hb hr hml hown hts hlk hK hP ls hl
  have hown : s.vm.findClass RX5 = some m.cls := hown
  have hl : lv_has ls 7 [(0, .ref tw), (1, .int (J ks)), (2, .int (J st)), (3, .int (J out)), (4, .int (J r))] := hl
  have inX5_ : ∀ w ∈ u_ws RX5 TX5 2, w ∈ wsX5_middleOf := by decide +kernel
  have lk0 := hts (.fieldLink RX5 11 "RateBook$Town" "houses" "[LRateBook$House;") (by decide +kernel)
  have hT : Tn G s.heap tw hs ha ea V := hP
  obtain ⟨hT1, hT2, hT3, hT4⟩ := id hT
  have hn := hT1.n
  refine j_const hx hb dX5_middleOf_0 ?_
  refine lv_istore (lv' := [(5, .int (J 0)), (0, .ref tw), (1, .int (J ks)), (2, .int (J st)), (3, .int (J out)), (4, .int (J r))]) hx hb dX5_middleOf_1 hl (by decide) rfl (fun ls hl => ?_)
  have lp3 : ∀ (n : Nat) (i : Int) (i0 : 0 ≤ i ∧ i ≤ 40) (hno : lo (gd (V 0 0) (gMid V ks st out r)) none i = none) (hm : 40 - i < (n : Int)) (ls : Array Slot) (hl : lv_has ls 7 [(5, .int (J i)), (0, .ref tw), (1, .int (J ks)), (2, .int (J st)), (3, .int (J out)), (4, .int (J r))]), W p l e (headSpec wsX5_middleOf rmX5_middleOf).room s m ([.ref tw, .int (J ks), .int (J st), .int (J out), .int (J r)] : List Value).toArray below meth c s.heap [] 0 0 (MQ below (k2_QcV (va_rf (Option.map ha (mid V ks st out r)) : Value)) ([.ref tw, .int (J ks), .int (J st), .int (J out), .int (J r)] : List Value).toArray s 0 0 (fun _ => False)) (F0 m 3 ls []) := by
    intro n
    induction n with
    | zero =>
      intro i i0 hno hm ls hl
      exact absurd hm (by omega)
    | succ n ih3 =>
      intro i i0 hno hm ls hl
      refine lv_iload hx hb dX5_middleOf_3 (lv_at hl 0 rfl) ?_
      refine lv_aload_n hx hb dX5_middleOf_5 rfl (lv_at hl 1 rfl) ?_
      refine j_get (ci := 5) (v := .ref hs) hx hb hts inX5_ hown hK hT2 rfl 0 (by decide) lk0 (fun _ h9 => h9) rfl dX5_middleOf_6 ?_
      refine j_alQ (C := RX2) hx hb hK hT3 rfl dX5_middleOf_9 ?_
      refine j_re (y := 40) rfl ?_
      refine j_cge (tgt := 61) hx hb (by omega) (by omega) (by decide) (by decide) dX5_middleOf_10 (by decide) (fun c10 => ?_) (fun c10 => ?_)
      · refine lv_null hx hb dX5_middleOf_61 ?_
        exact r_a hx hb hr hlk (o := none) rfl (congrArg va_rf (show (none : Option Nat) = Option.map ha (mid V ks st out r) from by rw [mid_none hT1 (by omega) hno]; rfl)) dX5_middleOf_62
      · refine lv_aload_n hx hb dX5_middleOf_13 rfl (lv_at hl 1 rfl) ?_
        refine j_get (ci := 5) (v := .ref hs) hx hb hts inX5_ hown hK hT2 rfl 0 (by decide) lk0 (fun _ h9 => h9) rfl dX5_middleOf_14 ?_
        refine lv_iload hx hb dX5_middleOf_17 (lv_at hl 0 rfl) ?_
        refine j_aald (C := RX2) hx hb hK hT3 rfl (by omega) (by omega) (by decide) dX5_middleOf_19 ?_
        by_cases sp19 : 0 ≤ i ∧ i < V 0 0
        · refine j_qs (b := ha i) (qN_s sp19) ?_
          have hce_1 : At G s.heap (ha i) (eHo V (ea) i) := hT4 i sp19.1 sp19.2
          have hih_2 := hT1.h sp19.1 sp19.2
          refine lv_astore (lv' := [(6, .ref (ha i)), (5, .int (J i)), (0, .ref tw), (1, .int (J ks)), (2, .int (J st)), (3, .int (J out)), (4, .int (J r))]) hx hb dX5_middleOf_20 hl (by decide) rfl (fun ls hl => ?_)
          refine lv_aload hx hb dX5_middleOf_22 (lv_at hl 0 rfl) ?_
          refine lv_ifnull hx hb dX5_middleOf_24 ?_
          refine lv_aload hx hb dX5_middleOf_27 (lv_at hl 0 rfl) ?_
          refine lv_iload_n hx hb dX5_middleOf_29 rfl (lv_at hl 3 rfl) ?_
          refine lv_iload_n hx hb dX5_middleOf_30 rfl (lv_at hl 4 rfl) ?_
          refine lv_iload_n hx hb dX5_middleOf_31 rfl (lv_at hl 5 rfl) ?_
          refine k_V (ci := 2) (b := ha i) (As := [.int (J ks), .int (J st), .int (J out)]) (rest := []) (v := .int (J (pI (asked V ks st out i)))) hx hb hml hown hts hK hl.1 (c_X2_tells l G ha ea V i ks st out ((by omega)) hih_2 g_ks g_st g_out) (cwV 3 hts gX5_middleOf_X2_tells rfl rfl rfl (by decide +kernel) ⟨Nat.le_of_ble_eq_true rfl, Nat.le_of_ble_eq_true rfl⟩) hce_1 rfl hce_1 rfl rfl (Nat.le_of_ble_eq_true rfl) dX5_middleOf_32 ⟨Nat.zero_le _, Nat.zero_le _⟩ ?_
          refine j_eqP (tgt := 55) hx hb dX5_middleOf_35 (by decide) (fun c35 => ?_) (fun c35 => ?_)
          · refine lv_iinc (v := J (i + 1)) (lv' := [(5, .int (J (i + 1))), (6, .ref (ha i)), (0, .ref tw), (1, .int (J ks)), (2, .int (J st)), (3, .int (J out)), (4, .int (J r))]) hx hb dX5_middleOf_55 hl (k := 1) rfl (J_add _ _) (by decide) rfl (fun ls hl => ?_)
            refine lv_goto (tgt := 3) hx hb dX5_middleOf_58 (by decide) ?_
            exact ih3 (i + 1) (by omega) (by rw [lo_s _ _ (by omega), hno]; simp only [gd, gMid] <;> (repeat' split) <;> first | rfl | omega | (exfalso; omega) | (exfalso; contradiction) | (exfalso; simp_all)) (by omega) _ (lv_sub hl [0, 2, 3, 4, 5, 6] rfl)
          · refine lv_aload_n hx hb dX5_middleOf_38 rfl (lv_at hl 2 rfl) ?_
            refine lv_aload hx hb dX5_middleOf_39 (lv_at hl 0 rfl) ?_
            refine lv_iload_n hx hb dX5_middleOf_41 rfl (lv_at hl 3 rfl) ?_
            refine lv_iload_n hx hb dX5_middleOf_42 rfl (lv_at hl 4 rfl) ?_
            refine lv_iload_n hx hb dX5_middleOf_43 rfl (lv_at hl 5 rfl) ?_
            refine k_V (ci := 5) (b := tw) (As := [.ref (ha i), .int (J ks), .int (J st), .int (J out)]) (rest := []) (v := .int (J (rank V ks st out i))) hx hb hml hown hts hK hl.1 (c_X5_lesserThan l G tw hs ha ea V i ks st out ((by omega)) g_ks g_st g_out) (cwV 4 hts gX5_middleOf_X5_lesserThan rfl rfl rfl (by decide +kernel) ⟨Nat.le_of_ble_eq_true rfl, Nat.le_of_ble_eq_true rfl⟩) hT2 rfl hT rfl rfl (Nat.le_of_ble_eq_true rfl) dX5_middleOf_44 ⟨Nat.zero_le _, Nat.zero_le _⟩ ?_
            have hrk := rank_rng hT1 ks st out i
            refine lv_iload hx hb dX5_middleOf_47 (lv_at hl 6 rfl) ?_
            refine j_cne (tgt := 55) hx hb (by omega) (by omega) (by omega) (by omega) dX5_middleOf_49 (by decide) (fun c49 => ?_) (fun c49 => ?_)
            · refine lv_iinc (v := J (i + 1)) (lv' := [(5, .int (J (i + 1))), (6, .ref (ha i)), (0, .ref tw), (1, .int (J ks)), (2, .int (J st)), (3, .int (J out)), (4, .int (J r))]) hx hb dX5_middleOf_55 hl (k := 1) rfl (J_add _ _) (by decide) rfl (fun ls hl => ?_)
              refine lv_goto (tgt := 3) hx hb dX5_middleOf_58 (by decide) ?_
              exact ih3 (i + 1) (by omega) (by rw [lo_s _ _ (by omega), hno]; simp only [gd, gMid] <;> (repeat' split) <;> first | rfl | omega | (exfalso; omega) | (exfalso; contradiction) | (exfalso; simp_all)) (by omega) _ (lv_sub hl [0, 2, 3, 4, 5, 6] rfl)
            · refine lv_aload hx hb dX5_middleOf_52 (lv_at hl 0 rfl) ?_
              exact r_a hx hb hr hlk (o := some (ha i)) rfl (congrArg va_rf (show (some (ha i) : Option Nat) = Option.map ha (mid V ks st out r) from by rw [mid_hit (by omega) (by omega) hno ⟨by assumption, by omega⟩]; rfl)) dX5_middleOf_54
        · refine j_qn (qN_n sp19) ?_
          refine lv_astoreN (lv' := [(6, .null), (5, .int (J i)), (0, .ref tw), (1, .int (J ks)), (2, .int (J st)), (3, .int (J out)), (4, .int (J r))]) hx hb dX5_middleOf_20 hl (by decide) rfl (fun ls hl => ?_)
          refine lv_aloadN hx hb dX5_middleOf_22 (lv_at hl 0 rfl) ?_
          refine lv_ifnullN (tgt := 55) hx hb dX5_middleOf_24 (by decide) ?_
          refine lv_iinc (v := J (i + 1)) (lv' := [(5, .int (J (i + 1))), (6, .null), (0, .ref tw), (1, .int (J ks)), (2, .int (J st)), (3, .int (J out)), (4, .int (J r))]) hx hb dX5_middleOf_55 hl (k := 1) rfl (J_add _ _) (by decide) rfl (fun ls hl => ?_)
          refine lv_goto (tgt := 3) hx hb dX5_middleOf_58 (by decide) ?_
          exact ih3 (i + 1) (by omega) (by rw [lo_s _ _ (by omega), hno]; simp only [gd, gMid] <;> (repeat' split) <;> first | rfl | omega | (exfalso; omega) | (exfalso; contradiction) | (exfalso; simp_all)) (by omega) _ (lv_sub hl [0, 2, 3, 4, 5, 6] rfl)
  exact lp3 41 0 (by omega) rfl (by omega) _ (lv_sub hl [0, 1, 2, 3, 4, 5] rfl)

abbrev rmX5_isIn : Room := { frames := 1, cells := 0, slots := 0, locals := 21 }
set_option maxHeartbeats 4000000 in
set_option maxRecDepth 100000 in
theorem c_X5_isIn (l : Launch) (G : GG) (tw hs : Nat) (ha ea : Int → Nat) (V : St) (z w_ : Int) (g_z : -2147483648 ≤ z ∧ z < 2147483648) (g_w_ : -2147483648 ≤ w_ ∧ w_ < 2147483648) : MP l G yX5_isIn wsX5_isIn rmX5_isIn [.ref tw, .int (J z), .int (J w_)] (fun H => Tn G H tw hs ha ea V) (.int (J (pI ((0 ≤ z ∧ z < V 0 0) ∧ (w_ = -1 ∨ V 1 z = w_)))) : Value) := by
  refine MP.of (cc := cX5_isIn) (maxL := 4) (ret := (some .boolean)) (by decide) rfl (Nat.le_of_ble_eq_true rfl) ?_
  intro p e s m below meth c hx hb hr hml hown hts hlk hK hP ls hl
  have hown : s.vm.findClass RX5 = some m.cls := hown
  have hl : lv_has ls 4 [(0, .ref tw), (1, .int (J z)), (2, .int (J w_))] := hl
  have inX2_ : ∀ w ∈ u_ws RX2 TX2 7, w ∈ wsX5_isIn := by decide +kernel
  have lk0 := hts (.fieldLink RX5 28 "RateBook$House" "ward" "I") (by decide +kernel)
  have hT : Tn G s.heap tw hs ha ea V := hP
  obtain ⟨hT1, hT2, hT3, hT4⟩ := id hT
  have hn := hT1.n
  refine lv_aload_n hx hb dX5_isIn_0 rfl (lv_at hl 0 rfl) ?_
  refine lv_iload_n hx hb dX5_isIn_1 rfl (lv_at hl 1 rfl) ?_
  refine k_V (ci := 5) (b := tw) (As := [.int (J z)]) (rest := []) (v := va_rf (qN (V 0 0) ha z)) hx hb hml hown hts hK hl.1 (c_X5_at l G tw hs ha ea V z ((by omega))) (cwV 1 hts gX5_isIn_X5_at rfl rfl rfl (by decide +kernel) ⟨Nat.le_of_ble_eq_true rfl, Nat.le_of_ble_eq_true rfl⟩) hT2 rfl hT rfl rfl (Nat.le_of_ble_eq_true rfl) dX5_isIn_2 ⟨Nat.zero_le _, Nat.zero_le _⟩ ?_
  by_cases sp2 : 0 ≤ z ∧ z < V 0 0
  · refine j_qs (b := ha z) (qN_s sp2) ?_
    have hce_1 : At G s.heap (ha z) (eHo V (ea) z) := hT4 z sp2.1 sp2.2
    have hih_2 := hT1.h sp2.1 sp2.2
    refine lv_astore_n (lv' := [(3, .ref (ha z)), (0, .ref tw), (1, .int (J z)), (2, .int (J w_))]) hx hb dX5_isIn_5 rfl hl (by decide) rfl (fun ls hl => ?_)
    refine lv_aload_n hx hb dX5_isIn_6 rfl (lv_at hl 0 rfl) ?_
    refine lv_ifnull hx hb dX5_isIn_7 ?_
    refine lv_iload_n hx hb dX5_isIn_10 rfl (lv_at hl 3 rfl) ?_
    refine j_const hx hb dX5_isIn_11 ?_
    refine j_ceq (tgt := 23) hx hb (by omega) (by omega) (by decide) (by decide) dX5_isIn_12 (by decide) (fun c12 => ?_) (fun c12 => ?_)
    · refine j_const hx hb dX5_isIn_23 ?_
      refine lv_goto (tgt := 28) hx hb dX5_isIn_24 (by decide) ?_
      exact r_z hx hb hr hlk rfl (congrArg (fun z => Value.int (J z)) (show (1 : Int) = pI ((0 ≤ z ∧ z < V 0 0) ∧ (w_ = -1 ∨ V 1 z = w_)) from (pI_t (by omega)).symm)) dX5_isIn_28
    · refine lv_aload_n hx hb dX5_isIn_15 rfl (lv_at hl 0 rfl) ?_
      refine j_get (ci := 2) (v := .int (J (V 1 z))) hx hb hts inX2_ hown hK hce_1 rfl 1 (by decide) lk0 (fun _ h9 => h9) rfl dX5_isIn_16 ?_
      refine lv_iload_n hx hb dX5_isIn_19 rfl (lv_at hl 3 rfl) ?_
      refine j_cne (tgt := 27) hx hb (by omega) (by omega) (by omega) (by omega) dX5_isIn_20 (by decide) (fun c20 => ?_) (fun c20 => ?_)
      · refine j_const hx hb dX5_isIn_27 ?_
        exact r_z hx hb hr hlk rfl (congrArg (fun z => Value.int (J z)) (show (0 : Int) = pI ((0 ≤ z ∧ z < V 0 0) ∧ (w_ = -1 ∨ V 1 z = w_)) from (pI_f (by omega)).symm)) dX5_isIn_28
      · refine j_const hx hb dX5_isIn_23 ?_
        refine lv_goto (tgt := 28) hx hb dX5_isIn_24 (by decide) ?_
        exact r_z hx hb hr hlk rfl (congrArg (fun z => Value.int (J z)) (show (1 : Int) = pI ((0 ≤ z ∧ z < V 0 0) ∧ (w_ = -1 ∨ V 1 z = w_)) from (pI_t (by omega)).symm)) dX5_isIn_28
  · refine j_qn (qN_n sp2) ?_
    refine lv_astore_nN (lv' := [(3, .null), (0, .ref tw), (1, .int (J z)), (2, .int (J w_))]) hx hb dX5_isIn_5 rfl hl (by decide) rfl (fun ls hl => ?_)
    refine lv_aload_nN hx hb dX5_isIn_6 rfl (lv_at hl 0 rfl) ?_
    refine lv_ifnullN (tgt := 27) hx hb dX5_isIn_7 (by decide) ?_
    refine j_const hx hb dX5_isIn_27 ?_
    exact r_z hx hb hr hlk rfl (congrArg (fun z => Value.int (J z)) (show (0 : Int) = pI ((0 ≤ z ∧ z < V 0 0) ∧ (w_ = -1 ∨ V 1 z = w_)) from (pI_f (by omega)).symm)) dX5_isIn_28

abbrev rmX5_rentsKnown : Room := { frames := 0, cells := 0, slots := 0, locals := 0 }
set_option maxHeartbeats 4000000 in
set_option maxRecDepth 100000 in
theorem c_X5_rentsKnown (l : Launch) (G : GG) (tw hs : Nat) (ha ea : Int → Nat) (V : St) : MP l G yX5_rentsKnown wsX5_rentsKnown rmX5_rentsKnown [.ref tw] (fun H => Tn G H tw hs ha ea V) (.int (J (rkO V)) : Value) := by
  refine MP.of (cc := cX5_rentsKnown) (maxL := 4) (ret := (some .int)) (by decide) rfl (Nat.le_of_ble_eq_true rfl) ?_
  intro p e s m below meth c hx hb hr hml hown hts hlk hK hP ls hl
  have hown : s.vm.findClass RX5 = some m.cls := hown
  have hl : lv_has ls 4 [(0, .ref tw)] := hl
  have inX2_ : ∀ w ∈ u_ws RX2 TX2 7, w ∈ wsX5_rentsKnown := by decide +kernel
  have inX5_ : ∀ w ∈ u_ws RX5 TX5 2, w ∈ wsX5_rentsKnown := by decide +kernel
  have lk0 := hts (.fieldLink RX5 11 "RateBook$Town" "houses" "[LRateBook$House;") (by decide +kernel)
  have lk1 := hts (.fieldLink RX5 40 "RateBook$House" "rent" "I") (by decide +kernel)
  have hT : Tn G s.heap tw hs ha ea V := hP
  obtain ⟨hT1, hT2, hT3, hT4⟩ := id hT
  have hn := hT1.n
  refine j_const hx hb dX5_rentsKnown_0 ?_
  refine lv_istore_n (lv' := [(1, .int (J 0)), (0, .ref tw)]) hx hb dX5_rentsKnown_1 rfl hl (by decide) rfl (fun ls hl => ?_)
  refine j_const hx hb dX5_rentsKnown_2 ?_
  refine lv_istore_n (lv' := [(2, .int (J 0)), (1, .int (J 0)), (0, .ref tw)]) hx hb dX5_rentsKnown_3 rfl hl (by decide) rfl (fun ls hl => ?_)
  have lp4 : ∀ (n : Nat) (i : Int) (i0 : 0 ≤ i ∧ i ≤ 40) (hm : 40 - i < (n : Int)) (ls : Array Slot) (hl : lv_has ls 4 [(2, .int (J i)), (1, .int (J (lo (gd (V 0 0) (fun x o => x + pI (0 < V 5 o))) 0 i))), (0, .ref tw)]), W p l e (headSpec wsX5_rentsKnown rmX5_rentsKnown).room s m ([.ref tw] : List Value).toArray below meth c s.heap [] 0 0 (MQ below (k2_QcV (.int (J (rkO V)) : Value)) ([.ref tw] : List Value).toArray s 0 0 (fun _ => False)) (F0 m 4 ls []) := by
    intro n
    induction n with
    | zero =>
      intro i i0 hm ls hl
      exact absurd hm (by omega)
    | succ n ih4 =>
      intro i i0 hm ls hl
      refine lv_iload_n hx hb dX5_rentsKnown_4 rfl (lv_at hl 0 rfl) ?_
      refine lv_aload_n hx hb dX5_rentsKnown_5 rfl (lv_at hl 2 rfl) ?_
      refine j_get (ci := 5) (v := .ref hs) hx hb hts inX5_ hown hK hT2 rfl 0 (by decide) lk0 (fun _ h9 => h9) rfl dX5_rentsKnown_6 ?_
      refine j_alQ (C := RX2) hx hb hK hT3 rfl dX5_rentsKnown_9 ?_
      refine j_re (y := 40) rfl ?_
      refine j_cge (tgt := 45) hx hb (by omega) (by omega) (by decide) (by decide) dX5_rentsKnown_10 (by decide) (fun c10 => ?_) (fun c10 => ?_)
      · refine lv_iload_n hx hb dX5_rentsKnown_45 rfl (lv_at hl 1 rfl) ?_
        exact r_i hx hb hr hlk (congrArg (fun z => Value.int (J z)) (show (lo (gd (V 0 0) (fun x o => x + pI (0 < V 5 o))) 0 i : Int) = rkO V from by rw [show i = 40 by omega]; exact lo_gd hn.1 hn.2)) dX5_rentsKnown_46
      · refine lv_aload_n hx hb dX5_rentsKnown_13 rfl (lv_at hl 2 rfl) ?_
        refine j_get (ci := 5) (v := .ref hs) hx hb hts inX5_ hown hK hT2 rfl 0 (by decide) lk0 (fun _ h9 => h9) rfl dX5_rentsKnown_14 ?_
        refine lv_iload_n hx hb dX5_rentsKnown_17 rfl (lv_at hl 0 rfl) ?_
        refine j_aald (C := RX2) hx hb hK hT3 rfl (by omega) (by omega) (by decide) dX5_rentsKnown_18 ?_
        by_cases sp18 : 0 ≤ i ∧ i < V 0 0
        · refine j_qs (b := ha i) (qN_s sp18) ?_
          have hce_1 : At G s.heap (ha i) (eHo V (ea) i) := hT4 i sp18.1 sp18.2
          have hih_2 := hT1.h sp18.1 sp18.2
          refine lv_astore_n (lv' := [(3, .ref (ha i)), (2, .int (J i)), (1, .int (J (lo (gd (V 0 0) (fun x o => x + pI (0 < V 5 o))) 0 i))), (0, .ref tw)]) hx hb dX5_rentsKnown_19 rfl hl (by decide) rfl (fun ls hl => ?_)
          refine lv_iload_n hx hb dX5_rentsKnown_20 rfl (lv_at hl 2 rfl) ?_
          refine lv_aload_n hx hb dX5_rentsKnown_21 rfl (lv_at hl 0 rfl) ?_
          refine lv_ifnull hx hb dX5_rentsKnown_22 ?_
          refine lv_aload_n hx hb dX5_rentsKnown_25 rfl (lv_at hl 0 rfl) ?_
          refine j_get (ci := 2) (v := .int (J (V 5 i))) hx hb hts inX2_ hown hK hce_1 rfl 6 (by decide) lk1 (fun _ h9 => h9) rfl dX5_rentsKnown_26 ?_
          refine j_le0 (tgt := 36) hx hb (by omega) (by omega) dX5_rentsKnown_29 (by decide) (fun c29 => ?_) (fun c29 => ?_)
          · refine j_const hx hb dX5_rentsKnown_36 ?_
            refine j_add hx hb dX5_rentsKnown_37 ?_
            refine lv_istore_n (lv' := [(1, .int (J ((lo (gd (V 0 0) (fun x o => x + pI (0 < V 5 o))) 0 i) + 0))), (3, .ref (ha i)), (2, .int (J i)), (0, .ref tw)]) hx hb dX5_rentsKnown_38 rfl hl (by decide) rfl (fun ls hl => ?_)
            refine lv_iinc (v := J (i + 1)) (lv' := [(2, .int (J (i + 1))), (1, .int (J ((lo (gd (V 0 0) (fun x o => x + pI (0 < V 5 o))) 0 i) + 0))), (3, .ref (ha i)), (0, .ref tw)]) hx hb dX5_rentsKnown_39 hl (k := 2) rfl (J_add _ _) (by decide) rfl (fun ls hl => ?_)
            refine lv_goto (tgt := 4) hx hb dX5_rentsKnown_42 (by decide) ?_
            exact ih4 (i + 1) (by omega) (by omega) _ (lv_sub hl [0, 1, 3] (by rw [show (lo (gd (V 0 0) (fun x o => x + pI (0 < V 5 o))) 0 (i + 1) : Int) = (lo (gd (V 0 0) (fun x o => x + pI (0 < V 5 o))) 0 i) + 0 from (by rw [lo_s _ _ (by omega)]; (try simp only [gd, pI]) <;> (repeat' split) <;> first | rfl | omega | (exfalso; omega) | (exfalso; contradiction) | (exfalso; simp_all))]; try rfl))
          · refine j_const hx hb dX5_rentsKnown_32 ?_
            refine lv_goto (tgt := 37) hx hb dX5_rentsKnown_33 (by decide) ?_
            refine j_add hx hb dX5_rentsKnown_37 ?_
            refine lv_istore_n (lv' := [(1, .int (J ((lo (gd (V 0 0) (fun x o => x + pI (0 < V 5 o))) 0 i) + 1))), (3, .ref (ha i)), (2, .int (J i)), (0, .ref tw)]) hx hb dX5_rentsKnown_38 rfl hl (by decide) rfl (fun ls hl => ?_)
            refine lv_iinc (v := J (i + 1)) (lv' := [(2, .int (J (i + 1))), (1, .int (J ((lo (gd (V 0 0) (fun x o => x + pI (0 < V 5 o))) 0 i) + 1))), (3, .ref (ha i)), (0, .ref tw)]) hx hb dX5_rentsKnown_39 hl (k := 2) rfl (J_add _ _) (by decide) rfl (fun ls hl => ?_)
            refine lv_goto (tgt := 4) hx hb dX5_rentsKnown_42 (by decide) ?_
            exact ih4 (i + 1) (by omega) (by omega) _ (lv_sub hl [0, 1, 3] (by rw [show (lo (gd (V 0 0) (fun x o => x + pI (0 < V 5 o))) 0 (i + 1) : Int) = (lo (gd (V 0 0) (fun x o => x + pI (0 < V 5 o))) 0 i) + 1 from (by rw [lo_s _ _ (by omega)]; (try simp only [gd, pI]) <;> (repeat' split) <;> first | rfl | omega | (exfalso; omega) | (exfalso; contradiction) | (exfalso; simp_all))]; try rfl))
        · refine j_qn (qN_n sp18) ?_
          refine lv_astore_nN (lv' := [(3, .null), (2, .int (J i)), (1, .int (J (lo (gd (V 0 0) (fun x o => x + pI (0 < V 5 o))) 0 i))), (0, .ref tw)]) hx hb dX5_rentsKnown_19 rfl hl (by decide) rfl (fun ls hl => ?_)
          refine lv_iload_n hx hb dX5_rentsKnown_20 rfl (lv_at hl 2 rfl) ?_
          refine lv_aload_nN hx hb dX5_rentsKnown_21 rfl (lv_at hl 0 rfl) ?_
          refine lv_ifnullN (tgt := 36) hx hb dX5_rentsKnown_22 (by decide) ?_
          refine j_const hx hb dX5_rentsKnown_36 ?_
          refine j_add hx hb dX5_rentsKnown_37 ?_
          refine lv_istore_n (lv' := [(1, .int (J ((lo (gd (V 0 0) (fun x o => x + pI (0 < V 5 o))) 0 i) + 0))), (3, .null), (2, .int (J i)), (0, .ref tw)]) hx hb dX5_rentsKnown_38 rfl hl (by decide) rfl (fun ls hl => ?_)
          refine lv_iinc (v := J (i + 1)) (lv' := [(2, .int (J (i + 1))), (1, .int (J ((lo (gd (V 0 0) (fun x o => x + pI (0 < V 5 o))) 0 i) + 0))), (3, .null), (0, .ref tw)]) hx hb dX5_rentsKnown_39 hl (k := 2) rfl (J_add _ _) (by decide) rfl (fun ls hl => ?_)
          refine lv_goto (tgt := 4) hx hb dX5_rentsKnown_42 (by decide) ?_
          exact ih4 (i + 1) (by omega) (by omega) _ (lv_sub hl [0, 1, 3] (by rw [show (lo (gd (V 0 0) (fun x o => x + pI (0 < V 5 o))) 0 (i + 1) : Int) = (lo (gd (V 0 0) (fun x o => x + pI (0 < V 5 o))) 0 i) + 0 from (by rw [lo_s _ _ (by omega)]; (try simp only [gd, pI]) <;> (repeat' split) <;> first | rfl | omega | (exfalso; omega) | (exfalso; contradiction) | (exfalso; simp_all))]; try rfl))
  exact lp4 41 0 (by omega) (by omega) _ (lv_sub hl [0, 1, 2] (by rw [show (lo (gd (V 0 0) (fun x o => x + pI (0 < V 5 o))) 0 0 : Int) = 0 from (by rfl)]; try rfl))

abbrev rmX5_eventsTold : Room := { frames := 0, cells := 0, slots := 0, locals := 0 }
set_option maxHeartbeats 4000000 in
set_option maxRecDepth 100000 in
theorem c_X5_eventsTold (l : Launch) (G : GG) (tw hs : Nat) (ha ea : Int → Nat) (V : St) (eb : Int → Nat) (L : Int → List EvT) (h_L : ∀ h, 0 ≤ h → h < V 0 0 → ((L h).length : Int) = V 6 h) : MP l G yX5_eventsTold wsX5_eventsTold rmX5_eventsTold [.ref tw] (fun H => Tn G H tw hs ha ea V ∧ ∀ h, 0 ≤ h → h < V 0 0 → Evs G H (ea h) (eb h) (L h)) (.int (J (evO V)) : Value) := by
  refine MP.of (cc := cX5_eventsTold) (maxL := 4) (ret := (some .int)) (by decide) rfl (Nat.le_of_ble_eq_true rfl) ?_
  intro p e s m below meth c hx hb hr hml hown hts hlk hK hP ls hl
  have hown : s.vm.findClass RX5 = some m.cls := hown
  have hl : lv_has ls 4 [(0, .ref tw)] := hl
  have inX1_ : ∀ w ∈ u_ws RX1 TX1 2, w ∈ wsX5_eventsTold := by decide +kernel
  have inX2_ : ∀ w ∈ u_ws RX2 TX2 7, w ∈ wsX5_eventsTold := by decide +kernel
  have inX5_ : ∀ w ∈ u_ws RX5 TX5 2, w ∈ wsX5_eventsTold := by decide +kernel
  have lk0 := hts (.fieldLink RX5 11 "RateBook$Town" "houses" "[LRateBook$House;") (by decide +kernel)
  have lk1 := hts (.fieldLink RX5 31 "RateBook$House" "events" "LRateBook$Events;") (by decide +kernel)
  obtain ⟨hP, hEs⟩ := hP
  have hT : Tn G s.heap tw hs ha ea V := hP
  obtain ⟨hT1, hT2, hT3, hT4⟩ := id hT
  have hn := hT1.n
  refine j_const hx hb dX5_eventsTold_0 ?_
  refine lv_istore_n (lv' := [(1, .int (J 0)), (0, .ref tw)]) hx hb dX5_eventsTold_1 rfl hl (by decide) rfl (fun ls hl => ?_)
  refine j_const hx hb dX5_eventsTold_2 ?_
  refine lv_istore_n (lv' := [(2, .int (J 0)), (1, .int (J 0)), (0, .ref tw)]) hx hb dX5_eventsTold_3 rfl hl (by decide) rfl (fun ls hl => ?_)
  have lp4 : ∀ (n : Nat) (i : Int) (i0 : 0 ≤ i ∧ i ≤ 40) (hm : 40 - i < (n : Int)) (ls : Array Slot) (hl : lv_has ls 4 [(2, .int (J i)), (1, .int (J (lo (gd (V 0 0) (fun x o => x + V 6 o)) 0 i))), (0, .ref tw)]), W p l e (headSpec wsX5_eventsTold rmX5_eventsTold).room s m ([.ref tw] : List Value).toArray below meth c s.heap [] 0 0 (MQ below (k2_QcV (.int (J (evO V)) : Value)) ([.ref tw] : List Value).toArray s 0 0 (fun _ => False)) (F0 m 4 ls []) := by
    intro n
    induction n with
    | zero =>
      intro i i0 hm ls hl
      exact absurd hm (by omega)
    | succ n ih4 =>
      intro i i0 hm ls hl
      refine lv_iload_n hx hb dX5_eventsTold_4 rfl (lv_at hl 0 rfl) ?_
      refine lv_aload_n hx hb dX5_eventsTold_5 rfl (lv_at hl 2 rfl) ?_
      refine j_get (ci := 5) (v := .ref hs) hx hb hts inX5_ hown hK hT2 rfl 0 (by decide) lk0 (fun _ h9 => h9) rfl dX5_eventsTold_6 ?_
      refine j_alQ (C := RX2) hx hb hK hT3 rfl dX5_eventsTold_9 ?_
      refine j_re (y := 40) rfl ?_
      refine j_cge (tgt := 44) hx hb (by omega) (by omega) (by decide) (by decide) dX5_eventsTold_10 (by decide) (fun c10 => ?_) (fun c10 => ?_)
      · refine lv_iload_n hx hb dX5_eventsTold_44 rfl (lv_at hl 1 rfl) ?_
        exact r_i hx hb hr hlk (congrArg (fun z => Value.int (J z)) (show (lo (gd (V 0 0) (fun x o => x + V 6 o)) 0 i : Int) = evO V from by rw [show i = 40 by omega]; exact lo_gd hn.1 hn.2)) dX5_eventsTold_45
      · refine lv_aload_n hx hb dX5_eventsTold_13 rfl (lv_at hl 2 rfl) ?_
        refine j_get (ci := 5) (v := .ref hs) hx hb hts inX5_ hown hK hT2 rfl 0 (by decide) lk0 (fun _ h9 => h9) rfl dX5_eventsTold_14 ?_
        refine lv_iload_n hx hb dX5_eventsTold_17 rfl (lv_at hl 0 rfl) ?_
        refine j_aald (C := RX2) hx hb hK hT3 rfl (by omega) (by omega) (by decide) dX5_eventsTold_18 ?_
        by_cases sp18 : 0 ≤ i ∧ i < V 0 0
        · refine j_qs (b := ha i) (qN_s sp18) ?_
          have hce_1 : At G s.heap (ha i) (eHo V (ea) i) := hT4 i sp18.1 sp18.2
          have hih_2 := hT1.h sp18.1 sp18.2
          refine lv_astore_n (lv' := [(3, .ref (ha i)), (2, .int (J i)), (1, .int (J (lo (gd (V 0 0) (fun x o => x + V 6 o)) 0 i))), (0, .ref tw)]) hx hb dX5_eventsTold_19 rfl hl (by decide) rfl (fun ls hl => ?_)
          refine lv_iload_n hx hb dX5_eventsTold_20 rfl (lv_at hl 2 rfl) ?_
          refine lv_aload_n hx hb dX5_eventsTold_21 rfl (lv_at hl 0 rfl) ?_
          refine lv_ifnonnull (tgt := 29) hx hb dX5_eventsTold_22 (by decide) ?_
          refine lv_aload_n hx hb dX5_eventsTold_29 rfl (lv_at hl 0 rfl) ?_
          refine j_get (ci := 2) (v := .ref (ea i)) hx hb hts inX2_ hown hK hce_1 rfl 5 (by decide) lk1 (fun _ h9 => h9) rfl dX5_eventsTold_30 ?_
          have ce_3 : At G s.heap (ea i) (eO 1 [.ref (eb i), .int (J (((L i).length : Int)))]) := (hEs i sp18.1 sp18.2).1
          refine j_getN (ci := 1) (v := .int (J (((L i).length : Int)))) hx hb hts inX1_ hown hK ce_3 rfl 1 (by decide) hK.2.1.2.2.2.1 (fun _ h9 => h9) rfl dX5_eventsTold_33 ?_
          refine j_re (y := V 6 i) (h_L i sp18.1 sp18.2) ?_
          refine j_add hx hb dX5_eventsTold_36 ?_
          refine lv_istore_n (lv' := [(1, .int (J ((lo (gd (V 0 0) (fun x o => x + V 6 o)) 0 i) + (V 6 i)))), (3, .ref (ha i)), (2, .int (J i)), (0, .ref tw)]) hx hb dX5_eventsTold_37 rfl hl (by decide) rfl (fun ls hl => ?_)
          refine lv_iinc (v := J (i + 1)) (lv' := [(2, .int (J (i + 1))), (1, .int (J ((lo (gd (V 0 0) (fun x o => x + V 6 o)) 0 i) + (V 6 i)))), (3, .ref (ha i)), (0, .ref tw)]) hx hb dX5_eventsTold_38 hl (k := 2) rfl (J_add _ _) (by decide) rfl (fun ls hl => ?_)
          refine lv_goto (tgt := 4) hx hb dX5_eventsTold_41 (by decide) ?_
          exact ih4 (i + 1) (by omega) (by omega) _ (lv_sub hl [0, 1, 3] (by rw [show (lo (gd (V 0 0) (fun x o => x + V 6 o)) 0 (i + 1) : Int) = (lo (gd (V 0 0) (fun x o => x + V 6 o)) 0 i) + (V 6 i) from (by rw [lo_s _ _ (by omega)]; (try simp only [gd, pI]) <;> (repeat' split) <;> first | rfl | omega | (exfalso; omega) | (exfalso; contradiction) | (exfalso; simp_all))]; try rfl))
        · refine j_qn (qN_n sp18) ?_
          refine lv_astore_nN (lv' := [(3, .null), (2, .int (J i)), (1, .int (J (lo (gd (V 0 0) (fun x o => x + V 6 o)) 0 i))), (0, .ref tw)]) hx hb dX5_eventsTold_19 rfl hl (by decide) rfl (fun ls hl => ?_)
          refine lv_iload_n hx hb dX5_eventsTold_20 rfl (lv_at hl 2 rfl) ?_
          refine lv_aload_nN hx hb dX5_eventsTold_21 rfl (lv_at hl 0 rfl) ?_
          refine lv_ifnonnullN hx hb dX5_eventsTold_22 ?_
          refine j_const hx hb dX5_eventsTold_25 ?_
          refine lv_goto (tgt := 36) hx hb dX5_eventsTold_26 (by decide) ?_
          refine j_add hx hb dX5_eventsTold_36 ?_
          refine lv_istore_n (lv' := [(1, .int (J ((lo (gd (V 0 0) (fun x o => x + V 6 o)) 0 i) + 0))), (3, .null), (2, .int (J i)), (0, .ref tw)]) hx hb dX5_eventsTold_37 rfl hl (by decide) rfl (fun ls hl => ?_)
          refine lv_iinc (v := J (i + 1)) (lv' := [(2, .int (J (i + 1))), (1, .int (J ((lo (gd (V 0 0) (fun x o => x + V 6 o)) 0 i) + 0))), (3, .null), (0, .ref tw)]) hx hb dX5_eventsTold_38 hl (k := 2) rfl (J_add _ _) (by decide) rfl (fun ls hl => ?_)
          refine lv_goto (tgt := 4) hx hb dX5_eventsTold_41 (by decide) ?_
          exact ih4 (i + 1) (by omega) (by omega) _ (lv_sub hl [0, 1, 3] (by rw [show (lo (gd (V 0 0) (fun x o => x + V 6 o)) 0 (i + 1) : Int) = (lo (gd (V 0 0) (fun x o => x + V 6 o)) 0 i) + 0 from (by rw [lo_s _ _ (by omega)]; (try simp only [gd, pI]) <;> (repeat' split) <;> first | rfl | omega | (exfalso; omega) | (exfalso; contradiction) | (exfalso; simp_all))]; try rfl))
  exact lp4 41 0 (by omega) (by omega) _ (lv_sub hl [0, 1, 2] (by rw [show (lo (gd (V 0 0) (fun x o => x + V 6 o)) 0 0 : Int) = 0 from (by rfl)]; try rfl))

abbrev rmX3_at : Room := { frames := 0, cells := 0, slots := 0, locals := 0 }
set_option maxHeartbeats 4000000 in
set_option maxRecDepth 100000 in
theorem c_X3_at (l : Launch) (G : GG) (li lr : Nat) (rl ru un : Int → Nat) (uc ud : Int → Int) (V : St) (z : Int) (g_z : -2147483648 ≤ z ∧ z < 2147483648) : MP l G yX3_at wsX3_at rmX3_at [.ref li, .int (J z)] (fun H => Li G H li lr rl ru un uc ud V) (va_rf (qN (V 0 1) rl z) : Value) := by
  refine MP.of (cc := cX3_at) (maxL := 2) (ret := (some (.object "RateBook$RateList"))) (by decide) rfl (Nat.le_of_ble_eq_true rfl) ?_
  intro p e s m below meth c hx hb hr hml hown hts hlk hK hP ls hl
  have hown : s.vm.findClass RX3 = some m.cls := hown
  have hl : lv_has ls 2 [(0, .ref li), (1, .int (J z))] := hl
  have inX3_ : ∀ w ∈ u_ws RX3 TX3 2, w ∈ wsX3_at := by decide +kernel
  have lk0 := hts (.fieldLink RX3 11 "RateBook$Lists" "byDay" "[LRateBook$RateList;") (by decide +kernel)
  have hL : Li G s.heap li lr rl ru un uc ud V := hP
  obtain ⟨hL1, hL2, hL3, hL4, hL5, hL6⟩ := id hL
  have hnl := hL1.l
  refine lv_iload_n hx hb dX3_at_0 rfl (lv_at hl 1 rfl) ?_
  refine j_lt0 (tgt := 22) hx hb (by omega) (by omega) dX3_at_1 (by decide) (fun c1 => ?_) (fun c1 => ?_)
  · refine lv_null hx hb dX3_at_22 ?_
    exact r_a hx hb hr hlk (o := none) rfl (congrArg va_rf (show (none : Option Nat) = qN (V 0 1) rl z from (qN_n (by omega)).symm)) dX3_at_23
  · refine lv_iload_n hx hb dX3_at_4 rfl (lv_at hl 1 rfl) ?_
    refine lv_aload_n hx hb dX3_at_5 rfl (lv_at hl 0 rfl) ?_
    refine j_get (ci := 3) (v := .ref lr) hx hb hts inX3_ hown hK hL2 rfl 0 (by decide) lk0 (fun _ h9 => h9) rfl dX3_at_6 ?_
    refine j_alQ (C := RX4) hx hb hK hL3 rfl dX3_at_9 ?_
    refine j_re (y := 10) rfl ?_
    refine j_cge (tgt := 22) hx hb (by omega) (by omega) (by decide) (by decide) dX3_at_10 (by decide) (fun c10 => ?_) (fun c10 => ?_)
    · refine lv_null hx hb dX3_at_22 ?_
      exact r_a hx hb hr hlk (o := none) rfl (congrArg va_rf (show (none : Option Nat) = qN (V 0 1) rl z from (qN_n (by omega)).symm)) dX3_at_23
    · refine lv_aload_n hx hb dX3_at_13 rfl (lv_at hl 0 rfl) ?_
      refine j_get (ci := 3) (v := .ref lr) hx hb hts inX3_ hown hK hL2 rfl 0 (by decide) lk0 (fun _ h9 => h9) rfl dX3_at_14 ?_
      refine lv_iload_n hx hb dX3_at_17 rfl (lv_at hl 1 rfl) ?_
      refine j_aald (C := RX4) hx hb hK hL3 rfl (by omega) (by omega) (by decide) dX3_at_18 ?_
      refine lv_goto (tgt := 23) hx hb dX3_at_19 (by decide) ?_
      exact r_a hx hb hr hlk (o := (qN (V 0 1) rl) z) rfl (congrArg va_rf (show ((qN (V 0 1) rl) z : Option Nat) = qN (V 0 1) rl z from rfl)) dX3_at_23

abbrev rmX3_isFull : Room := { frames := 0, cells := 0, slots := 0, locals := 0 }
set_option maxHeartbeats 4000000 in
set_option maxRecDepth 100000 in
theorem c_X3_isFull (l : Launch) (G : GG) (li lr : Nat) (rl ru un : Int → Nat) (uc ud : Int → Int) (V : St) : MP l G yX3_isFull wsX3_isFull rmX3_isFull [.ref li] (fun H => Li G H li lr rl ru un uc ud V) (.int (J (pI (10 ≤ V 0 1))) : Value) := by
  refine MP.of (cc := cX3_isFull) (maxL := 1) (ret := (some .boolean)) (by decide) rfl (Nat.le_of_ble_eq_true rfl) ?_
  intro p e s m below meth c hx hb hr hml hown hts hlk hK hP ls hl
  have hown : s.vm.findClass RX3 = some m.cls := hown
  have hl : lv_has ls 1 [(0, .ref li)] := hl
  have inX3_ : ∀ w ∈ u_ws RX3 TX3 2, w ∈ wsX3_isFull := by decide +kernel
  have lk0 := hts (.fieldLink RX3 17 "RateBook$Lists" "made" "I") (by decide +kernel)
  have lk1 := hts (.fieldLink RX3 11 "RateBook$Lists" "byDay" "[LRateBook$RateList;") (by decide +kernel)
  have hL : Li G s.heap li lr rl ru un uc ud V := hP
  obtain ⟨hL1, hL2, hL3, hL4, hL5, hL6⟩ := id hL
  have hnl := hL1.l
  refine lv_aload_n hx hb dX3_isFull_0 rfl (lv_at hl 0 rfl) ?_
  refine j_get (ci := 3) (v := .int (J (V 0 1))) hx hb hts inX3_ hown hK hL2 rfl 1 (by decide) lk0 (fun _ h9 => h9) rfl dX3_isFull_1 ?_
  refine lv_aload_n hx hb dX3_isFull_4 rfl (lv_at hl 0 rfl) ?_
  refine j_get (ci := 3) (v := .ref lr) hx hb hts inX3_ hown hK hL2 rfl 0 (by decide) lk1 (fun _ h9 => h9) rfl dX3_isFull_5 ?_
  refine j_alQ (C := RX4) hx hb hK hL3 rfl dX3_isFull_8 ?_
  refine j_re (y := 10) rfl ?_
  refine j_clt (tgt := 16) hx hb (by omega) (by omega) (by decide) (by decide) dX3_isFull_9 (by decide) (fun c9 => ?_) (fun c9 => ?_)
  · refine j_const hx hb dX3_isFull_16 ?_
    exact r_z hx hb hr hlk rfl (congrArg (fun z => Value.int (J z)) (show (0 : Int) = pI (10 ≤ V 0 1) from (pI_f (by omega)).symm)) dX3_isFull_17
  · refine j_const hx hb dX3_isFull_12 ?_
    refine lv_goto (tgt := 17) hx hb dX3_isFull_13 (by decide) ?_
    exact r_z hx hb hr hlk rfl (congrArg (fun z => Value.int (J z)) (show (1 : Int) = pI (10 ≤ V 0 1) from (pI_t (by omega)).symm)) dX3_isFull_17

abbrev rmX3_reach : Room := { frames := 1, cells := 0, slots := 0, locals := 21 }
set_option maxHeartbeats 4000000 in
set_option maxRecDepth 100000 in
theorem c_X3_reach (l : Launch) (G : GG) (li lr : Nat) (rl ru un : Int → Nat) (uc ud : Int → Int) (V : St) (d : Int) (g_d : -2147483648 ≤ d ∧ d < 2147483648) : MP l G yX3_reach wsX3_reach rmX3_reach [.ref li, .int (J d)] (fun H => Li G H li lr rl ru un uc ud V) (.int (J (pI (0 < V 0 1 ∧ d ≤ V 10 (V 0 1 - 1)))) : Value) := by
  refine MP.of (cc := cX3_reach) (maxL := 3) (ret := (some .boolean)) (by decide) rfl (Nat.le_of_ble_eq_true rfl) ?_
  intro p e s m below meth c hx hb hr hml hown hts hlk hK hP ls hl
  have hown : s.vm.findClass RX3 = some m.cls := hown
  have hl : lv_has ls 3 [(0, .ref li), (1, .int (J d))] := hl
  have inX3_ : ∀ w ∈ u_ws RX3 TX3 2, w ∈ wsX3_reach := by decide +kernel
  have inX4_ : ∀ w ∈ u_ws RX4 TX4 2, w ∈ wsX3_reach := by decide +kernel
  have lk0 := hts (.fieldLink RX3 17 "RateBook$Lists" "made" "I") (by decide +kernel)
  have lk1 := hts (.fieldLink RX3 25 "RateBook$RateList" "day" "I") (by decide +kernel)
  have hL : Li G s.heap li lr rl ru un uc ud V := hP
  obtain ⟨hL1, hL2, hL3, hL4, hL5, hL6⟩ := id hL
  have hnl := hL1.l
  refine lv_aload_n hx hb dX3_reach_0 rfl (lv_at hl 0 rfl) ?_
  refine lv_aload_n hx hb dX3_reach_1 rfl (lv_at hl 0 rfl) ?_
  refine j_get (ci := 3) (v := .int (J (V 0 1))) hx hb hts inX3_ hown hK hL2 rfl 1 (by decide) lk0 (fun _ h9 => h9) rfl dX3_reach_2 ?_
  refine j_const hx hb dX3_reach_5 ?_
  refine j_sub hx hb dX3_reach_6 ?_
  refine k_V (ci := 3) (b := li) (As := [.int (J ((V 0 1) - 1))]) (rest := []) (v := va_rf (qN (V 0 1) rl ((V 0 1) - 1))) hx hb hml hown hts hK hl.1 (c_X3_at l G li lr rl ru un uc ud V ((V 0 1) - 1) ((by omega))) (cwV 1 hts gX3_reach_X3_at rfl rfl rfl (by decide +kernel) ⟨Nat.le_of_ble_eq_true rfl, Nat.le_of_ble_eq_true rfl⟩) hL2 rfl hL rfl rfl (Nat.le_of_ble_eq_true rfl) dX3_reach_7 ⟨Nat.zero_le _, Nat.zero_le _⟩ ?_
  by_cases sp7 : 0 ≤ V 0 1 - 1 ∧ V 0 1 - 1 < V 0 1
  · refine j_qs (b := rl (V 0 1 - 1)) (qN_s sp7) ?_
    have hce_1 := hL4 (V 0 1 - 1) sp7.1 sp7.2
    have hdr := hL1.d sp7.1 sp7.2
    refine lv_astore_n (lv' := [(2, .ref (rl (V 0 1 - 1))), (0, .ref li), (1, .int (J d))]) hx hb dX3_reach_10 rfl hl (by decide) rfl (fun ls hl => ?_)
    refine lv_aload_n hx hb dX3_reach_11 rfl (lv_at hl 0 rfl) ?_
    refine lv_ifnull hx hb dX3_reach_12 ?_
    refine lv_aload_n hx hb dX3_reach_15 rfl (lv_at hl 0 rfl) ?_
    refine j_get (ci := 4) (v := .int (J (V 10 (V 0 1 - 1)))) hx hb hts inX4_ hown hK hce_1 rfl 0 (by decide) lk1 (fun _ h9 => h9) rfl dX3_reach_16 ?_
    refine lv_iload_n hx hb dX3_reach_19 rfl (lv_at hl 2 rfl) ?_
    refine j_clt (tgt := 27) hx hb (by omega) (by omega) (by omega) (by omega) dX3_reach_20 (by decide) (fun c20 => ?_) (fun c20 => ?_)
    · refine j_const hx hb dX3_reach_27 ?_
      exact r_z hx hb hr hlk rfl (congrArg (fun z => Value.int (J z)) (show (0 : Int) = pI (0 < V 0 1 ∧ d ≤ V 10 (V 0 1 - 1)) from (pI_f (by omega)).symm)) dX3_reach_28
    · refine j_const hx hb dX3_reach_23 ?_
      refine lv_goto (tgt := 28) hx hb dX3_reach_24 (by decide) ?_
      exact r_z hx hb hr hlk rfl (congrArg (fun z => Value.int (J z)) (show (1 : Int) = pI (0 < V 0 1 ∧ d ≤ V 10 (V 0 1 - 1)) from (pI_t (by omega)).symm)) dX3_reach_28
  · refine j_qn (qN_n sp7) ?_
    refine lv_astore_nN (lv' := [(2, .null), (0, .ref li), (1, .int (J d))]) hx hb dX3_reach_10 rfl hl (by decide) rfl (fun ls hl => ?_)
    refine lv_aload_nN hx hb dX3_reach_11 rfl (lv_at hl 0 rfl) ?_
    refine lv_ifnullN (tgt := 27) hx hb dX3_reach_12 (by decide) ?_
    refine j_const hx hb dX3_reach_27 ?_
    exact r_z hx hb hr hlk rfl (congrArg (fun z => Value.int (J z)) (show (0 : Int) = pI (0 < V 0 1 ∧ d ≤ V 10 (V 0 1 - 1)) from (pI_f (by omega)).symm)) dX3_reach_28

abbrev rmX3_standingOn : Room := { frames := 0, cells := 0, slots := 0, locals := 0 }
set_option maxHeartbeats 4000000 in
set_option maxRecDepth 100000 in
theorem c_X3_standingOn (l : Launch) (G : GG) (li lr : Nat) (rl ru un : Int → Nat) (uc ud : Int → Int) (V : St) (d : Int) (g_d : -2147483648 ≤ d ∧ d < 2147483648) : MP l G yX3_standingOn wsX3_standingOn rmX3_standingOn [.ref li, .int (J d)] (fun H => Li G H li lr rl ru un uc ud V) (.int (J (stO V d)) : Value) := by
  refine MP.of (cc := cX3_standingOn) (maxL := 5) (ret := (some .int)) (by decide) rfl (Nat.le_of_ble_eq_true rfl) ?_
  intro p e s m below meth c hx hb hr hml hown hts hlk hK hP ls hl
  have hown : s.vm.findClass RX3 = some m.cls := hown
  have hl : lv_has ls 5 [(0, .ref li), (1, .int (J d))] := hl
  have inX3_ : ∀ w ∈ u_ws RX3 TX3 2, w ∈ wsX3_standingOn := by decide +kernel
  have inX4_ : ∀ w ∈ u_ws RX4 TX4 2, w ∈ wsX3_standingOn := by decide +kernel
  have lk0 := hts (.fieldLink RX3 11 "RateBook$Lists" "byDay" "[LRateBook$RateList;") (by decide +kernel)
  have lk1 := hts (.fieldLink RX3 25 "RateBook$RateList" "day" "I") (by decide +kernel)
  have hL : Li G s.heap li lr rl ru un uc ud V := hP
  obtain ⟨hL1, hL2, hL3, hL4, hL5, hL6⟩ := id hL
  have hnl := hL1.l
  refine j_bi hx hb dX3_standingOn_0 (by decide +kernel) ?_
  refine lv_istore_n (lv' := [(2, .int (J ((-4)))), (0, .ref li), (1, .int (J d))]) hx hb dX3_standingOn_2 rfl hl (by decide) rfl (fun ls hl => ?_)
  refine j_const hx hb dX3_standingOn_3 ?_
  refine lv_istore_n (lv' := [(3, .int (J 0)), (2, .int (J ((-4)))), (0, .ref li), (1, .int (J d))]) hx hb dX3_standingOn_4 rfl hl (by decide) rfl (fun ls hl => ?_)
  have lp5 : ∀ (n : Nat) (i : Int) (i0 : 0 ≤ i ∧ i ≤ 10) (hm : 10 - i < (n : Int)) (ls : Array Slot) (hl : lv_has ls 5 [(3, .int (J i)), (2, .int (J (lo (gd (V 0 1) (fun x o => if V 10 o ≤ d then o else x)) (-4) i))), (0, .ref li), (1, .int (J d))]), W p l e (headSpec wsX3_standingOn rmX3_standingOn).room s m ([.ref li, .int (J d)] : List Value).toArray below meth c s.heap [] 0 0 (MQ below (k2_QcV (.int (J (stO V d)) : Value)) ([.ref li, .int (J d)] : List Value).toArray s 0 0 (fun _ => False)) (F0 m 5 ls []) := by
    intro n
    induction n with
    | zero =>
      intro i i0 hm ls hl
      exact absurd hm (by omega)
    | succ n ih5 =>
      intro i i0 hm ls hl
      refine lv_iload_n hx hb dX3_standingOn_5 rfl (lv_at hl 0 rfl) ?_
      refine lv_aload_n hx hb dX3_standingOn_6 rfl (lv_at hl 2 rfl) ?_
      refine j_get (ci := 3) (v := .ref lr) hx hb hts inX3_ hown hK hL2 rfl 0 (by decide) lk0 (fun _ h9 => h9) rfl dX3_standingOn_7 ?_
      refine j_alQ (C := RX4) hx hb hK hL3 rfl dX3_standingOn_10 ?_
      refine j_re (y := 10) rfl ?_
      refine j_cge (tgt := 44) hx hb (by omega) (by omega) (by decide) (by decide) dX3_standingOn_11 (by decide) (fun c11 => ?_) (fun c11 => ?_)
      · refine lv_iload_n hx hb dX3_standingOn_44 rfl (lv_at hl 1 rfl) ?_
        exact r_i hx hb hr hlk (congrArg (fun z => Value.int (J z)) (show (lo (gd (V 0 1) (fun x o => if V 10 o ≤ d then o else x)) (-4) i : Int) = stO V d from by rw [show i = 10 by omega]; exact lo_gd hnl.1 hnl.2)) dX3_standingOn_45
      · refine lv_aload_n hx hb dX3_standingOn_14 rfl (lv_at hl 2 rfl) ?_
        refine j_get (ci := 3) (v := .ref lr) hx hb hts inX3_ hown hK hL2 rfl 0 (by decide) lk0 (fun _ h9 => h9) rfl dX3_standingOn_15 ?_
        refine lv_iload_n hx hb dX3_standingOn_18 rfl (lv_at hl 0 rfl) ?_
        refine j_aald (C := RX4) hx hb hK hL3 rfl (by omega) (by omega) (by decide) dX3_standingOn_19 ?_
        by_cases sp19 : 0 ≤ i ∧ i < V 0 1
        · refine j_qs (b := rl i) (qN_s sp19) ?_
          have hce_1 := hL4 i sp19.1 sp19.2
          have hdr := hL1.d sp19.1 sp19.2
          refine lv_astore (lv' := [(4, .ref (rl i)), (3, .int (J i)), (2, .int (J (lo (gd (V 0 1) (fun x o => if V 10 o ≤ d then o else x)) (-4) i))), (0, .ref li), (1, .int (J d))]) hx hb dX3_standingOn_20 hl (by decide) rfl (fun ls hl => ?_)
          refine lv_aload hx hb dX3_standingOn_22 (lv_at hl 0 rfl) ?_
          refine lv_ifnull hx hb dX3_standingOn_24 ?_
          refine lv_aload hx hb dX3_standingOn_27 (lv_at hl 0 rfl) ?_
          refine j_get (ci := 4) (v := .int (J (V 10 i))) hx hb hts inX4_ hown hK hce_1 rfl 0 (by decide) lk1 (fun _ h9 => h9) rfl dX3_standingOn_29 ?_
          refine lv_iload_n hx hb dX3_standingOn_32 rfl (lv_at hl 4 rfl) ?_
          refine j_cgt (tgt := 38) hx hb (by omega) (by omega) (by omega) (by omega) dX3_standingOn_33 (by decide) (fun c33 => ?_) (fun c33 => ?_)
          · refine lv_iinc (v := J (i + 1)) (lv' := [(3, .int (J (i + 1))), (4, .ref (rl i)), (2, .int (J (lo (gd (V 0 1) (fun x o => if V 10 o ≤ d then o else x)) (-4) i))), (0, .ref li), (1, .int (J d))]) hx hb dX3_standingOn_38 hl (k := 1) rfl (J_add _ _) (by decide) rfl (fun ls hl => ?_)
            refine lv_goto (tgt := 5) hx hb dX3_standingOn_41 (by decide) ?_
            exact ih5 (i + 1) (by omega) (by omega) _ (lv_sub hl [0, 2, 3, 4] (by rw [show (lo (gd (V 0 1) (fun x o => if V 10 o ≤ d then o else x)) (-4) (i + 1) : Int) = lo (gd (V 0 1) (fun x o => if V 10 o ≤ d then o else x)) (-4) i from (by rw [lo_s _ _ (by omega)]; (try simp only [gd]) <;> (repeat' split) <;> first | rfl | omega | (exfalso; omega) | (exfalso; contradiction) | (exfalso; simp_all))]; try rfl))
          · refine lv_iload_n hx hb dX3_standingOn_36 rfl (lv_at hl 1 rfl) ?_
            refine lv_istore_n (lv' := [(2, .int (J i)), (4, .ref (rl i)), (3, .int (J i)), (0, .ref li), (1, .int (J d))]) hx hb dX3_standingOn_37 rfl hl (by decide) rfl (fun ls hl => ?_)
            refine lv_iinc (v := J (i + 1)) (lv' := [(3, .int (J (i + 1))), (2, .int (J i)), (4, .ref (rl i)), (0, .ref li), (1, .int (J d))]) hx hb dX3_standingOn_38 hl (k := 2) rfl (J_add _ _) (by decide) rfl (fun ls hl => ?_)
            refine lv_goto (tgt := 5) hx hb dX3_standingOn_41 (by decide) ?_
            exact ih5 (i + 1) (by omega) (by omega) _ (lv_sub hl [0, 1, 3, 4] (by rw [show (lo (gd (V 0 1) (fun x o => if V 10 o ≤ d then o else x)) (-4) (i + 1) : Int) = i from (by rw [lo_s _ _ (by omega)]; (try simp only [gd]) <;> (repeat' split) <;> first | rfl | omega | (exfalso; omega) | (exfalso; contradiction) | (exfalso; simp_all))]; try rfl))
        · refine j_qn (qN_n sp19) ?_
          refine lv_astoreN (lv' := [(4, .null), (3, .int (J i)), (2, .int (J (lo (gd (V 0 1) (fun x o => if V 10 o ≤ d then o else x)) (-4) i))), (0, .ref li), (1, .int (J d))]) hx hb dX3_standingOn_20 hl (by decide) rfl (fun ls hl => ?_)
          refine lv_aloadN hx hb dX3_standingOn_22 (lv_at hl 0 rfl) ?_
          refine lv_ifnullN (tgt := 38) hx hb dX3_standingOn_24 (by decide) ?_
          refine lv_iinc (v := J (i + 1)) (lv' := [(3, .int (J (i + 1))), (4, .null), (2, .int (J (lo (gd (V 0 1) (fun x o => if V 10 o ≤ d then o else x)) (-4) i))), (0, .ref li), (1, .int (J d))]) hx hb dX3_standingOn_38 hl (k := 1) rfl (J_add _ _) (by decide) rfl (fun ls hl => ?_)
          refine lv_goto (tgt := 5) hx hb dX3_standingOn_41 (by decide) ?_
          exact ih5 (i + 1) (by omega) (by omega) _ (lv_sub hl [0, 2, 3, 4] (by rw [show (lo (gd (V 0 1) (fun x o => if V 10 o ≤ d then o else x)) (-4) (i + 1) : Int) = lo (gd (V 0 1) (fun x o => if V 10 o ≤ d then o else x)) (-4) i from (by rw [lo_s _ _ (by omega)]; (try simp only [gd]) <;> (repeat' split) <;> first | rfl | omega | (exfalso; omega) | (exfalso; contradiction) | (exfalso; simp_all))]; try rfl))
  exact lp5 11 0 (by omega) (by omega) _ (lv_sub hl [0, 1, 2, 3] (by rw [show (lo (gd (V 0 1) (fun x o => if V 10 o ≤ d then o else x)) (-4) 0 : Int) = (-4) from (by rfl)]; try rfl))

abbrev rmX3_nextChange : Room := { frames := 1, cells := 0, slots := 0, locals := 22 }
set_option maxHeartbeats 4000000 in
set_option maxRecDepth 100000 in
theorem c_X3_nextChange (l : Launch) (G : GG) (li lr : Nat) (rl ru un : Int → Nat) (uc ud : Int → Int) (V : St) (d nx : Int) (h_d : 0 ≤ d ∧ d < nx) (h_n : nx ≤ 3650) : MP l G yX3_nextChange wsX3_nextChange rmX3_nextChange [.ref li, .int (J d), .int (J nx)] (fun H => Li G H li lr rl ru un uc ud V) (.int (J (nxL V d nx)) : Value) := by
  refine MP.of (cc := cX3_nextChange) (maxL := 6) (ret := (some .int)) (by decide) rfl (Nat.le_of_ble_eq_true rfl) ?_
  intro p e s m below meth c hx hb hr hml hown hts hlk hK hP ls hl
  have hown : s.vm.findClass RX3 = some m.cls := hown
  have hl : lv_has ls 6 [(0, .ref li), (1, .int (J d)), (2, .int (J nx))] := hl
  have inX3_ : ∀ w ∈ u_ws RX3 TX3 2, w ∈ wsX3_nextChange := by decide +kernel
  have inX4_ : ∀ w ∈ u_ws RX4 TX4 2, w ∈ wsX3_nextChange := by decide +kernel
  have lk0 := hts (.fieldLink RX3 11 "RateBook$Lists" "byDay" "[LRateBook$RateList;") (by decide +kernel)
  have lk1 := hts (.fieldLink RX3 25 "RateBook$RateList" "day" "I") (by decide +kernel)
  have lk2 := hts (.initialized RX8) (by decide +kernel)
  have lk3 := hts (.static yX8_sooner) (by decide +kernel)
  have hL : Li G s.heap li lr rl ru un uc ud V := hP
  obtain ⟨hL1, hL2, hL3, hL4, hL5, hL6⟩ := id hL
  have hnl := hL1.l
  refine lv_iload_n hx hb dX3_nextChange_0 rfl (lv_at hl 2 rfl) ?_
  refine lv_istore_n (lv' := [(3, .int (J nx)), (0, .ref li), (1, .int (J d)), (2, .int (J nx))]) hx hb dX3_nextChange_1 rfl hl (by decide) rfl (fun ls hl => ?_)
  refine j_const hx hb dX3_nextChange_2 ?_
  refine lv_istore (lv' := [(4, .int (J 0)), (3, .int (J nx)), (0, .ref li), (1, .int (J d)), (2, .int (J nx))]) hx hb dX3_nextChange_3 hl (by decide) rfl (fun ls hl => ?_)
  have lp5 : ∀ (n : Nat) (i : Int) (i0 : 0 ≤ i ∧ i ≤ 10) (hm : 10 - i < (n : Int)) (ls : Array Slot) (hl : lv_has ls 6 [(4, .int (J i)), (3, .int (J (lo (gd (V 0 1) (fun x o => snr (V 10 o) d x)) nx i))), (0, .ref li), (1, .int (J d)), (2, .int (J nx))]), W p l e (headSpec wsX3_nextChange rmX3_nextChange).room s m ([.ref li, .int (J d), .int (J nx)] : List Value).toArray below meth c s.heap [] 0 0 (MQ below (k2_QcV (.int (J (nxL V d nx)) : Value)) ([.ref li, .int (J d), .int (J nx)] : List Value).toArray s 0 0 (fun _ => False)) (F0 m 5 ls []) := by
    intro n
    induction n with
    | zero =>
      intro i i0 hm ls hl
      exact absurd hm (by omega)
    | succ n ih5 =>
      intro i i0 hm ls hl
      have hrg := gd_nxL_rng (V := V) (n := V 0 1) h_d.2 i0.1
      refine lv_iload hx hb dX3_nextChange_5 (lv_at hl 0 rfl) ?_
      refine lv_aload_n hx hb dX3_nextChange_7 rfl (lv_at hl 2 rfl) ?_
      refine j_get (ci := 3) (v := .ref lr) hx hb hts inX3_ hown hK hL2 rfl 0 (by decide) lk0 (fun _ h9 => h9) rfl dX3_nextChange_8 ?_
      refine j_alQ (C := RX4) hx hb hK hL3 rfl dX3_nextChange_11 ?_
      refine j_re (y := 10) rfl ?_
      refine j_cge (tgt := 46) hx hb (by omega) (by omega) (by decide) (by decide) dX3_nextChange_12 (by decide) (fun c12 => ?_) (fun c12 => ?_)
      · refine lv_iload_n hx hb dX3_nextChange_46 rfl (lv_at hl 1 rfl) ?_
        exact r_i hx hb hr hlk (congrArg (fun z => Value.int (J z)) (show (lo (gd (V 0 1) (fun x o => snr (V 10 o) d x)) nx i : Int) = nxL V d nx from by rw [show i = 10 by omega]; exact lo_gd hnl.1 hnl.2)) dX3_nextChange_47
      · refine lv_aload_n hx hb dX3_nextChange_15 rfl (lv_at hl 2 rfl) ?_
        refine j_get (ci := 3) (v := .ref lr) hx hb hts inX3_ hown hK hL2 rfl 0 (by decide) lk0 (fun _ h9 => h9) rfl dX3_nextChange_16 ?_
        refine lv_iload hx hb dX3_nextChange_19 (lv_at hl 0 rfl) ?_
        refine j_aald (C := RX4) hx hb hK hL3 rfl (by omega) (by omega) (by decide) dX3_nextChange_21 ?_
        by_cases sp21 : 0 ≤ i ∧ i < V 0 1
        · refine j_qs (b := rl i) (qN_s sp21) ?_
          have hce_1 := hL4 i sp21.1 sp21.2
          have hdr := hL1.d sp21.1 sp21.2
          refine lv_astore (lv' := [(5, .ref (rl i)), (4, .int (J i)), (3, .int (J (lo (gd (V 0 1) (fun x o => snr (V 10 o) d x)) nx i))), (0, .ref li), (1, .int (J d)), (2, .int (J nx))]) hx hb dX3_nextChange_22 hl (by decide) rfl (fun ls hl => ?_)
          refine lv_aload hx hb dX3_nextChange_24 (lv_at hl 0 rfl) ?_
          refine lv_ifnull hx hb dX3_nextChange_26 ?_
          refine lv_aload hx hb dX3_nextChange_29 (lv_at hl 0 rfl) ?_
          refine j_get (ci := 4) (v := .int (J (V 10 i))) hx hb hts inX4_ hown hK hce_1 rfl 0 (by decide) lk1 (fun _ h9 => h9) rfl dX3_nextChange_31 ?_
          refine lv_iload_n hx hb dX3_nextChange_34 rfl (lv_at hl 4 rfl) ?_
          refine lv_iload_n hx hb dX3_nextChange_35 rfl (lv_at hl 2 rfl) ?_
          refine k_SN (As := [.int (J (V 10 i)), .int (J d), .int (J (lo (gd (V 0 1) (fun x o => snr (V 10 o) d x)) nx i))]) (rest := []) (v := .int (J (snr (V 10 i) d (lo (gd (V 0 1) (fun x o => snr (V 10 o) d x)) nx i)))) hx hb hml hown hts hK hl.1 (c_X8_sooner l G (V 10 i) d (lo (gd (V 0 1) (fun x o => snr (V 10 o) d x)) nx i) ((by omega)) ((by omega)) ((by omega))) (va_cnB 3 hts gX3_nextChange_X8_sooner_n31 rfl rfl rfl hK.2.1.2.2.2.2.2 lk2 (by decide +kernel) ⟨Nat.le_of_ble_eq_true rfl, Nat.le_of_ble_eq_true rfl⟩) lk3 trivial rfl rfl (Nat.le_of_ble_eq_true rfl) dX3_nextChange_36 ⟨Nat.zero_le _, Nat.zero_le _⟩ ?_
          refine lv_istore_n (lv' := [(3, .int (J (snr (V 10 i) d (lo (gd (V 0 1) (fun x o => snr (V 10 o) d x)) nx i)))), (5, .ref (rl i)), (4, .int (J i)), (0, .ref li), (1, .int (J d)), (2, .int (J nx))]) hx hb dX3_nextChange_39 rfl hl (by decide) rfl (fun ls hl => ?_)
          refine lv_iinc (v := J (i + 1)) (lv' := [(4, .int (J (i + 1))), (3, .int (J (snr (V 10 i) d (lo (gd (V 0 1) (fun x o => snr (V 10 o) d x)) nx i)))), (5, .ref (rl i)), (0, .ref li), (1, .int (J d)), (2, .int (J nx))]) hx hb dX3_nextChange_40 hl (k := 2) rfl (J_add _ _) (by decide) rfl (fun ls hl => ?_)
          refine lv_goto (tgt := 5) hx hb dX3_nextChange_43 (by decide) ?_
          exact ih5 (i + 1) (by omega) (by omega) _ (lv_sub hl [0, 1, 3, 4, 5] (by rw [show (lo (gd (V 0 1) (fun x o => snr (V 10 o) d x)) nx (i + 1) : Int) = snr (V 10 i) d (lo (gd (V 0 1) (fun x o => snr (V 10 o) d x)) nx i) from (by rw [lo_s _ _ (by omega)]; (try simp only [gd]) <;> (repeat' split) <;> first | rfl | omega | (exfalso; omega) | (exfalso; contradiction) | (exfalso; simp_all))]; try rfl))
        · refine j_qn (qN_n sp21) ?_
          refine lv_astoreN (lv' := [(5, .null), (4, .int (J i)), (3, .int (J (lo (gd (V 0 1) (fun x o => snr (V 10 o) d x)) nx i))), (0, .ref li), (1, .int (J d)), (2, .int (J nx))]) hx hb dX3_nextChange_22 hl (by decide) rfl (fun ls hl => ?_)
          refine lv_aloadN hx hb dX3_nextChange_24 (lv_at hl 0 rfl) ?_
          refine lv_ifnullN (tgt := 40) hx hb dX3_nextChange_26 (by decide) ?_
          refine lv_iinc (v := J (i + 1)) (lv' := [(4, .int (J (i + 1))), (5, .null), (3, .int (J (lo (gd (V 0 1) (fun x o => snr (V 10 o) d x)) nx i))), (0, .ref li), (1, .int (J d)), (2, .int (J nx))]) hx hb dX3_nextChange_40 hl (k := 1) rfl (J_add _ _) (by decide) rfl (fun ls hl => ?_)
          refine lv_goto (tgt := 5) hx hb dX3_nextChange_43 (by decide) ?_
          exact ih5 (i + 1) (by omega) (by omega) _ (lv_sub hl [0, 2, 3, 4, 5] (by rw [show (lo (gd (V 0 1) (fun x o => snr (V 10 o) d x)) nx (i + 1) : Int) = lo (gd (V 0 1) (fun x o => snr (V 10 o) d x)) nx i from (by rw [lo_s _ _ (by omega)]; (try simp only [gd]) <;> (repeat' split) <;> first | rfl | omega | (exfalso; omega) | (exfalso; contradiction) | (exfalso; simp_all))]; try rfl))
  exact lp5 11 0 (by omega) (by omega) _ (lv_sub hl [0, 1, 2, 3, 4] (by rw [show (lo (gd (V 0 1) (fun x o => snr (V 10 o) d x)) nx 0 : Int) = nx from (by rfl)]; try rfl))

abbrev rmX4_unitFor : Room := { frames := 0, cells := 0, slots := 0, locals := 0 }
set_option maxHeartbeats 4000000 in
set_option maxRecDepth 100000 in
theorem c_X4_unitFor (l : Launch) (G : GG) (li lr : Nat) (rl ru un : Int → Nat) (uc ud : Int → Int) (V : St) (i k s_ : Int) (h_i : 0 ≤ i ∧ i < V 0 1) (h_k : 0 ≤ k ∧ k ≤ 2) (h_s : 0 ≤ s_ ∧ s_ ≤ 5) : MP l G yX4_unitFor wsX4_unitFor rmX4_unitFor [.ref (rl i), .int (J k), .int (J s_)] (fun H => Li G H li lr rl ru un uc ud V) (va_rf (some (un (18 * i + (k * 6 + s_)))) : Value) := by
  refine MP.of (cc := cX4_unitFor) (maxL := 4) (ret := (some (.object "RateBook$Unit"))) (by decide) rfl (Nat.le_of_ble_eq_true rfl) ?_
  intro p e s m below meth c hx hb hr hml hown hts hlk hK hP ls hl
  have hown : s.vm.findClass RX4 = some m.cls := hown
  have hl : lv_has ls 4 [(0, .ref (rl i)), (1, .int (J k)), (2, .int (J s_))] := hl
  have inX4_ : ∀ w ∈ u_ws RX4 TX4 2, w ∈ wsX4_unitFor := by decide +kernel
  have lk0 := hts (.fieldLink RX4 17 "RateBook$RateList" "units" "[LRateBook$Unit;") (by decide +kernel)
  have hL : Li G s.heap li lr rl ru un uc ud V := hP
  obtain ⟨hL1, hL2, hL3, hL4, hL5, hL6⟩ := id hL
  have hnl := hL1.l
  have hR := hL4 i h_i.1 h_i.2
  have hU := hL5 i h_i.1 h_i.2
  refine lv_iload_n hx hb dX4_unitFor_0 rfl (lv_at hl 1 rfl) ?_
  refine j_bi hx hb dX4_unitFor_1 (by decide +kernel) ?_
  refine j_mul hx hb dX4_unitFor_3 ?_
  refine lv_iload_n hx hb dX4_unitFor_4 rfl (lv_at hl 2 rfl) ?_
  refine j_add hx hb dX4_unitFor_5 ?_
  refine lv_istore_n (lv' := [(3, .int (J ((k * 6) + s_))), (0, .ref (rl i)), (1, .int (J k)), (2, .int (J s_))]) hx hb dX4_unitFor_6 rfl hl (by decide) rfl (fun ls hl => ?_)
  refine lv_iload_n hx hb dX4_unitFor_7 rfl (lv_at hl 0 rfl) ?_
  refine j_lt0 (tgt := 29) hx hb (by omega) (by omega) dX4_unitFor_8 (by decide) (fun c8 => ?_) (fun c8 => ?_)
  · refine lv_null hx hb dX4_unitFor_29 ?_
    exact r_a hx hb hr hlk (o := none) rfl (congrArg va_rf (show (none : Option Nat) = some (un (18 * i + (k * 6 + s_))) from (by omega))) dX4_unitFor_30
  · refine lv_iload_n hx hb dX4_unitFor_11 rfl (lv_at hl 0 rfl) ?_
    refine lv_aload_n hx hb dX4_unitFor_12 rfl (lv_at hl 1 rfl) ?_
    refine j_get (ci := 4) (v := .ref (ru i)) hx hb hts inX4_ hown hK hR rfl 1 (by decide) lk0 (fun _ h9 => h9) rfl dX4_unitFor_13 ?_
    refine j_alQ (C := RX6) hx hb hK hU rfl dX4_unitFor_16 ?_
    refine j_re (y := 18) rfl ?_
    refine j_cge (tgt := 29) hx hb (by omega) (by omega) (by decide) (by decide) dX4_unitFor_17 (by decide) (fun c17 => ?_) (fun c17 => ?_)
    · refine lv_null hx hb dX4_unitFor_29 ?_
      exact r_a hx hb hr hlk (o := none) rfl (congrArg va_rf (show (none : Option Nat) = some (un (18 * i + (k * 6 + s_))) from (by omega))) dX4_unitFor_30
    · refine lv_aload_n hx hb dX4_unitFor_20 rfl (lv_at hl 1 rfl) ?_
      refine j_get (ci := 4) (v := .ref (ru i)) hx hb hts inX4_ hown hK hR rfl 1 (by decide) lk0 (fun _ h9 => h9) rfl dX4_unitFor_21 ?_
      refine lv_iload_n hx hb dX4_unitFor_24 rfl (lv_at hl 0 rfl) ?_
      refine j_aald (C := RX6) hx hb hK hU rfl (by omega) (by omega) (by decide) dX4_unitFor_25 ?_
      refine j_qs (b := un (18 * i + ((k * 6) + s_))) rfl ?_
      refine lv_goto (tgt := 30) hx hb dX4_unitFor_26 (by decide) ?_
      exact r_a hx hb hr hlk (o := some (un (18 * i + ((k * 6) + s_)))) rfl (congrArg va_rf (show (some (un (18 * i + ((k * 6) + s_))) : Option Nat) = some (un (18 * i + (k * 6 + s_))) from rfl)) dX4_unitFor_30

abbrev rmX6_times : Room := { frames := 0, cells := 0, slots := 0, locals := 0 }
set_option maxHeartbeats 4000000 in
set_option maxRecDepth 100000 in
theorem c_X6_times (l : Launch) (G : GG) (q : Nat) (b1 b2 b3 b4 z : Int) (h_1 : 1 ≤ b1 ∧ b1 ≤ 100000) (h_2 : 1 ≤ b2 ∧ b2 ≤ 500) (h_z : 1 ≤ z ∧ z ≤ 500) : MP l G yX6_times wsX6_times rmX6_times [.ref q, .int (J z)] (fun H => At G H q (eO 6 [.int (J b1), .int (J b2), .int (J b3), .int (J b4)])) (.long (JL (z * b1 / b2)) : Value) := by
  refine MP.of (cc := cX6_times) (maxL := 2) (ret := (some .long)) (by decide) rfl (Nat.le_of_ble_eq_true rfl) ?_
  intro p e s m below meth c hx hb hr hml hown hts hlk hK hP ls hl
  have hown : s.vm.findClass RX6 = some m.cls := hown
  have hl : lv_has ls 2 [(0, .ref q), (1, .int (J z))] := hl
  have inX6_ : ∀ w ∈ u_ws RX6 TX6 4, w ∈ wsX6_times := by decide +kernel
  have lk0 := hts (.fieldLink RX6 13 "RateBook$Unit" "below" "I") (by decide +kernel)
  have lk1 := hts (.fieldLink RX6 7 "RateBook$Unit" "above" "I") (by decide +kernel)
  have hm := mulb (a := z) (b := b1) (A := 500) (B := 100000) (by omega) (by omega) (by omega) (by omega)
  refine lv_aload_n hx hb dX6_times_0 rfl (lv_at hl 0 rfl) ?_
  refine j_get (ci := 6) (v := .int (J b2)) hx hb hts inX6_ hown hK hP rfl 1 (by decide) lk0 (fun _ h9 => h9) rfl dX6_times_1 ?_
  refine j_gt0 (tgt := 11) hx hb (by omega) (by omega) dX6_times_4 (by decide) (fun c4 => ?_) (fun c4 => ?_)
  · refine lv_iload_n hx hb dX6_times_11 rfl (lv_at hl 1 rfl) ?_
    refine j_i2l hx hb (by omega) (by omega) dX6_times_12 ?_
    refine lv_aload_n hx hb dX6_times_13 rfl (lv_at hl 0 rfl) ?_
    refine j_get (ci := 6) (v := .int (J b1)) hx hb hts inX6_ hown hK hP rfl 0 (by decide) lk1 (fun _ h9 => h9) rfl dX6_times_14 ?_
    refine j_i2l hx hb (by omega) (by omega) dX6_times_17 ?_
    refine j_lmul hx hb dX6_times_18 ?_
    refine lv_aload_n hx hb dX6_times_19 rfl (lv_at hl 0 rfl) ?_
    refine j_get (ci := 6) (v := .int (J b2)) hx hb hts inX6_ hown hK hP rfl 1 (by decide) lk0 (fun _ h9 => h9) rfl dX6_times_20 ?_
    refine j_i2l hx hb (by omega) (by omega) dX6_times_23 ?_
    refine j_ldiv hx hb (by omega) (by omega) (by omega) (by omega) dX6_times_24 ?_
    exact r_l hx hb hr hlk (congrArg (fun z => Value.long (JL z)) (show ((z * b1) / b2 : Int) = z * b1 / b2 from by omega)) dX6_times_25
  · refine j_lconst hx hb (z := 0) dX6_times_7 rfl ?_
    refine lv_goto (tgt := 25) hx hb dX6_times_8 (by decide) ?_
    exact r_l hx hb hr hlk (congrArg (fun z => Value.long (JL z)) (show (0 : Int) = z * b1 / b2 from by omega)) dX6_times_25

abbrev rmX7_billedTo : Room := { frames := 0, cells := 0, slots := 0, locals := 0 }
set_option maxHeartbeats 4000000 in
set_option maxRecDepth 100000 in
theorem c_X7_billedTo (l : Launch) (G : GG) (yb yl yp : Int → Nat) (V : St) (y : Int) (z : Int) (h_z : 0 ≤ z ∧ z < 40) : MP l G yX7_billedTo wsX7_billedTo rmX7_billedTo [.ref (yb y), .int (J z)] (fun H => Bk G H yb yl yp V y) (.int (J (blF V y z)) : Value) := by
  refine MP.of (cc := cX7_billedTo) (maxL := 2) (ret := (some .int)) (by decide) rfl (Nat.le_of_ble_eq_true rfl) ?_
  intro p e s m below meth c hx hb hr hml hown hts hlk hK hP ls hl
  have hown : s.vm.findClass RX7 = some m.cls := hown
  have hl : lv_has ls 2 [(0, .ref (yb y)), (1, .int (J z))] := hl
  have inX7_ : ∀ w ∈ u_ws RX7 TX7 5, w ∈ wsX7_billedTo := by decide +kernel
  have lk0 := hts (.fieldLink RX7 9 "RateBook$YearBook" "billed" "[I") (by decide +kernel)
  have hB : Bk G s.heap yb yl yp V y := hP
  obtain ⟨hB1, hB2, hB3, hB4⟩ := id hB
  refine lv_iload_n hx hb dX7_billedTo_0 rfl (lv_at hl 1 rfl) ?_
  refine j_lt0 (tgt := 22) hx hb (by omega) (by omega) dX7_billedTo_1 (by decide) (fun c1 => ?_) (fun c1 => ?_)
  · refine j_bi hx hb dX7_billedTo_22 (by decide +kernel) ?_
    exact r_i hx hb hr hlk (congrArg (fun z => Value.int (J z)) (show ((-4) : Int) = blF V y z from by omega)) dX7_billedTo_24
  · refine lv_iload_n hx hb dX7_billedTo_4 rfl (lv_at hl 1 rfl) ?_
    refine lv_aload_n hx hb dX7_billedTo_5 rfl (lv_at hl 0 rfl) ?_
    refine j_get (ci := 7) (v := .ref (yl y)) hx hb hts inX7_ hown hK hB2 rfl 0 (by decide) lk0 (fun _ h9 => h9) rfl dX7_billedTo_6 ?_
    refine j_alI hx hb hK hB3 dX7_billedTo_9 ?_
    refine j_re (y := 40) rfl ?_
    refine j_cge (tgt := 22) hx hb (by omega) (by omega) (by decide) (by decide) dX7_billedTo_10 (by decide) (fun c10 => ?_) (fun c10 => ?_)
    · refine j_bi hx hb dX7_billedTo_22 (by decide +kernel) ?_
      exact r_i hx hb hr hlk (congrArg (fun z => Value.int (J z)) (show ((-4) : Int) = blF V y z from by omega)) dX7_billedTo_24
    · refine lv_aload_n hx hb dX7_billedTo_13 rfl (lv_at hl 0 rfl) ?_
      refine j_get (ci := 7) (v := .ref (yl y)) hx hb hts inX7_ hown hK hB2 rfl 0 (by decide) lk0 (fun _ h9 => h9) rfl dX7_billedTo_14 ?_
      refine lv_iload_n hx hb dX7_billedTo_17 rfl (lv_at hl 1 rfl) ?_
      refine j_iald hx hb hK hB3 (by omega) (by omega) (by decide) dX7_billedTo_18 ?_
      refine lv_goto (tgt := 24) hx hb dX7_billedTo_19 (by decide) ?_
      exact r_i hx hb hr hlk (congrArg (fun z => Value.int (J z)) (show ((blF V y) z : Int) = blF V y z from by omega)) dX7_billedTo_24

abbrev rmX7_paidBy : Room := { frames := 0, cells := 0, slots := 0, locals := 0 }
set_option maxHeartbeats 4000000 in
set_option maxRecDepth 100000 in
theorem c_X7_paidBy (l : Launch) (G : GG) (yb yl yp : Int → Nat) (V : St) (y : Int) (z : Int) (h_z : 0 ≤ z ∧ z < 40) : MP l G yX7_paidBy wsX7_paidBy rmX7_paidBy [.ref (yb y), .int (J z)] (fun H => Bk G H yb yl yp V y) (.int (J (pdF V y z)) : Value) := by
  refine MP.of (cc := cX7_paidBy) (maxL := 2) (ret := (some .int)) (by decide) rfl (Nat.le_of_ble_eq_true rfl) ?_
  intro p e s m below meth c hx hb hr hml hown hts hlk hK hP ls hl
  have hown : s.vm.findClass RX7 = some m.cls := hown
  have hl : lv_has ls 2 [(0, .ref (yb y)), (1, .int (J z))] := hl
  have inX7_ : ∀ w ∈ u_ws RX7 TX7 5, w ∈ wsX7_paidBy := by decide +kernel
  have lk0 := hts (.fieldLink RX7 15 "RateBook$YearBook" "payments" "[I") (by decide +kernel)
  have hB : Bk G s.heap yb yl yp V y := hP
  obtain ⟨hB1, hB2, hB3, hB4⟩ := id hB
  refine lv_iload_n hx hb dX7_paidBy_0 rfl (lv_at hl 1 rfl) ?_
  refine j_lt0 (tgt := 22) hx hb (by omega) (by omega) dX7_paidBy_1 (by decide) (fun c1 => ?_) (fun c1 => ?_)
  · refine j_const hx hb dX7_paidBy_22 ?_
    exact r_i hx hb hr hlk (congrArg (fun z => Value.int (J z)) (show (0 : Int) = pdF V y z from by omega)) dX7_paidBy_23
  · refine lv_iload_n hx hb dX7_paidBy_4 rfl (lv_at hl 1 rfl) ?_
    refine lv_aload_n hx hb dX7_paidBy_5 rfl (lv_at hl 0 rfl) ?_
    refine j_get (ci := 7) (v := .ref (yp y)) hx hb hts inX7_ hown hK hB2 rfl 1 (by decide) lk0 (fun _ h9 => h9) rfl dX7_paidBy_6 ?_
    refine j_alI hx hb hK hB4 dX7_paidBy_9 ?_
    refine j_re (y := 40) rfl ?_
    refine j_cge (tgt := 22) hx hb (by omega) (by omega) (by decide) (by decide) dX7_paidBy_10 (by decide) (fun c10 => ?_) (fun c10 => ?_)
    · refine j_const hx hb dX7_paidBy_22 ?_
      exact r_i hx hb hr hlk (congrArg (fun z => Value.int (J z)) (show (0 : Int) = pdF V y z from by omega)) dX7_paidBy_23
    · refine lv_aload_n hx hb dX7_paidBy_13 rfl (lv_at hl 0 rfl) ?_
      refine j_get (ci := 7) (v := .ref (yp y)) hx hb hts inX7_ hown hK hB2 rfl 1 (by decide) lk0 (fun _ h9 => h9) rfl dX7_paidBy_14 ?_
      refine lv_iload_n hx hb dX7_paidBy_17 rfl (lv_at hl 1 rfl) ?_
      refine j_iald hx hb hK hB4 (by omega) (by omega) (by decide) dX7_paidBy_18 ?_
      refine lv_goto (tgt := 23) hx hb dX7_paidBy_19 (by decide) ?_
      exact r_i hx hb hr hlk (congrArg (fun z => Value.int (J z)) (show ((pdF V y) z : Int) = pdF V y z from by omega)) dX7_paidBy_23
