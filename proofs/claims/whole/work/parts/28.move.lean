abbrev rmX5_unitOf : Room := { frames := 3, cells := 1, slots := 4, locals := 78 }
set_option maxHeartbeats 4000000 in
set_option maxRecDepth 100000 in
theorem c_X5_unitOf (l : Launch) (G : GG) (tw hs : Nat) (ha ea : Int → Nat) (V : St) (ks st out : Int) (sz : Nat) (g_ks : -2147483648 ≤ ks ∧ ks < 2147483648) (g_st : -2147483648 ≤ st ∧ st < 2147483648) (g_out : -2147483648 ≤ out ∧ out < 2147483648) : ME l G yX5_unitOf wsX5_unitOf rmX5_unitOf [.ref tw, .int (J ks), .int (J st), .int (J out)] (fun H => H.size = sz ∧ (Tn G H tw hs ha ea V)) (some (.ref sz) : Option Value) (fun x => (fun _ => False) x ∨ sz ≤ x) (fun H H1 => Fr H H1 (fun _ => False) 1 ∧ At G H1 sz (eUn V ks st out)) 1 4 := by
  refine ME.of (cc := cX5_unitOf) (maxL := 7) (ret := (some (.object "RateBook$Unit"))) (by decide) rfl (Nat.le_of_ble_eq_true rfl) ?_
  intro p e s m below meth c hx hb hr hml hown hts hlk hin hK hP ls hl
  have hL0 : ∀ z9 ∈ ([] : List Loc), (fun x => (fun _ => False) x ∨ sz ≤ x) z9.base := fun z9 h => absurd h List.not_mem_nil
  have hown : s.vm.findClass RX5 = some m.cls := hown
  have hl : lv_has ls 7 [(0, .ref tw), (1, .int (J ks)), (2, .int (J st)), (3, .int (J out))] := hl
  have inX2_ : ∀ w ∈ u_ws RX2 TX2 7, w ∈ wsX5_unitOf := by decide +kernel
  have inX6_ : ∀ w ∈ u_ws RX6 TX6 4, w ∈ wsX5_unitOf := by decide +kernel
  have lk0 := hts (.classLink RX5 51 RX6) (by decide +kernel)
  have lk1 := hts (.instantiable RX6 4) (by decide +kernel)
  have lk2 := hts (.initialized RX6) (by decide +kernel)
  have lk3 := hts (.methodLink RX5 53 yX6_init) (by decide +kernel)
  have lk4 := hts (.instanceMethod yX6_init) (by decide +kernel)
  have lk5 := hts (.fieldLink RX5 40 "RateBook$House" "rent" "I") (by decide +kernel)
  have lk6 := hts (.fieldLink RX5 56 "RateBook$House" "size" "I") (by decide +kernel)
  have lk7 := hts (.fieldLink RX5 57 "RateBook$House" "number" "I") (by decide +kernel)
  obtain ⟨hsz, hP⟩ := hP
  have hF0 : Fr s.heap s.heap (fun _ => False) 0 := Fr.rf
  have hT : Tn G s.heap tw hs ha ea V := hP
  obtain ⟨hT1, hT2, hT3, hT4⟩ := id hT
  have hn := hT1.n
  have hlt_0 := (hT2).lt
  have hlt_1 := (hT3).lt
  refine lv_aload_n hx hb dX5_unitOf_0 rfl (lv_at hl 0 rfl) ?_
  refine lv_iload_n hx hb dX5_unitOf_1 rfl (lv_at hl 1 rfl) ?_
  refine lv_iload_n hx hb dX5_unitOf_2 rfl (lv_at hl 2 rfl) ?_
  refine lv_iload_n hx hb dX5_unitOf_3 rfl (lv_at hl 3 rfl) ?_
  refine k_V (ci := 5) (b := tw) (As := [.int (J ks), .int (J st), .int (J out)]) (rest := []) (v := .int (J (among V ks st out))) hx hb hml hown hts hK hl.1 (c_X5_rentsOf l G tw hs ha ea V ks st out g_ks g_st g_out) (cwV 3 hts gX5_unitOf_X5_rentsOf rfl rfl rfl (by decide +kernel) ⟨Nat.le_of_ble_eq_true rfl, Nat.le_of_ble_eq_true rfl⟩) hT2 rfl hT rfl rfl (Nat.le_of_ble_eq_true rfl) dX5_unitOf_4 ⟨Nat.zero_le _, Nat.zero_le _⟩ ?_
  refine lv_istore (lv' := [(4, .int (J (among V ks st out))), (0, .ref tw), (1, .int (J ks)), (2, .int (J st)), (3, .int (J out))]) hx hb dX5_unitOf_7 hl (by decide) rfl (fun ls hl => ?_)
  refine lv_iload_n hx hb dX5_unitOf_9 rfl (lv_at hl 3 rfl) ?_
  refine lv_istore (lv' := [(5, .int (J st)), (4, .int (J (among V ks st out))), (0, .ref tw), (1, .int (J ks)), (2, .int (J st)), (3, .int (J out))]) hx hb dX5_unitOf_10 hl (by decide) rfl (fun ls hl => ?_)
  refine lv_iload hx hb dX5_unitOf_12 (lv_at hl 1 rfl) ?_
  have hrb := among_rng hT1 ks st out
  refine j_ne0 (tgt := 29) hx hb (by omega) (by omega) dX5_unitOf_14 (by decide) (fun c14 => ?_) (fun c14 => ?_)
  · have hra := among_rng hT1 ks st out
    have htd := tdv (x := among V ks st out - 1) (by omega)
    refine lv_aload_n hx hb dX5_unitOf_29 rfl (lv_at hl 2 rfl) ?_
    refine lv_iload_n hx hb dX5_unitOf_30 rfl (lv_at hl 3 rfl) ?_
    refine lv_iload hx hb dX5_unitOf_31 (lv_at hl 0 rfl) ?_
    refine lv_iload_n hx hb dX5_unitOf_33 rfl (lv_at hl 5 rfl) ?_
    refine lv_iload hx hb dX5_unitOf_34 (lv_at hl 1 rfl) ?_
    refine j_const hx hb dX5_unitOf_36 ?_
    refine j_sub hx hb dX5_unitOf_37 ?_
    refine j_const hx hb dX5_unitOf_38 ?_
    refine j_tdiv hx hb (by omega) (by omega) (by decide) (by decide) dX5_unitOf_39 ?_
    refine k_V (ci := 5) (b := tw) (As := [.int (J ks), .int (J st), .int (J out), .int (J (((among V ks st out) - 1).tdiv 2))]) (rest := []) (v := va_rf (Option.map ha (mid V ks st out (((among V ks st out) - 1).tdiv 2)))) hx hb hml hown hts hK hl.1 (c_X5_middleOf l G tw hs ha ea V ks st out (((among V ks st out) - 1).tdiv 2) g_ks (by omega) g_out (by omega)) (cwV 4 hts gX5_unitOf_X5_middleOf rfl rfl rfl (by decide +kernel) ⟨Nat.le_of_ble_eq_true rfl, Nat.le_of_ble_eq_true rfl⟩) hT2 rfl hT rfl rfl (Nat.le_of_ble_eq_true rfl) dX5_unitOf_40 ⟨Nat.zero_le _, Nat.zero_le _⟩ ?_
    rcases hm : mid V ks st out (((among V ks st out) - 1).tdiv 2) with _ | i
    · refine j_qn rfl ?_
      have hU := unM_1 c14
      have hUn := eUn_n (hU.1.trans hm)
      refine lv_astoreN (lv' := [(6, .null), (5, .int (J st)), (4, .int (J (among V ks st out))), (0, .ref tw), (1, .int (J ks)), (2, .int (J st)), (3, .int (J out))]) hx hb dX5_unitOf_43 hl (by decide) rfl (fun ls hl => ?_)
      refine lv_aloadN hx hb dX5_unitOf_45 (lv_at hl 0 rfl) ?_
      refine lv_ifnonnullN hx hb dX5_unitOf_47 ?_
      refine j_new (ci := 6) (fs := [.int (J 0), .int (J 0), .int (J 0), .int (J 0)]) hx hb hts inX6_ tyX6 tyX6_ok hown lk0 lk1 lk2 hK rfl (fun j hj => by rcases (show j = 0 ∨ j = 1 ∨ j = 2 ∨ j = 3 by omega) with rfl | rfl | rfl | rfl <;> rfl) (Nat.le_of_ble_eq_true rfl) (Nat.le_of_ble_eq_true rfl) dX5_unitOf_50 (fun q_2 H_1 hc_3 hn_4 => ?_)
      have hc_3 : At G H_1 q_2 (eO 6 [.int (J 0), .int (J 0), .int (J 0), .int (J 0)]) := hc_3
      have ce_5 : At G H_1 tw (eO 5 [.ref hs, .int (J (V 0 0))]) := hT2.n hn_4
      have ce_6 : At G H_1 hs (eQ G 4 40 (qN (V 0 0) ha)) := hT3.n hn_4
      obtain rfl : sz = q_2 := by have z1 := hn_4.1; have z2 := hF0.1; omega
      have hF_7 : Fr s.heap H_1 (fun _ => False) 1 := hF0.n hn_4
      refine lv_dup hx hb dX5_unitOf_53 rfl ?_
      refine j_bi hx hb dX5_unitOf_54 (by decide +kernel) ?_
      refine j_const hx hb dX5_unitOf_56 ?_
      refine j_const hx hb dX5_unitOf_57 ?_
      refine j_bi hx hb dX5_unitOf_58 (by decide +kernel) ?_
      refine e_I (A := (fun x => (fun _ => False) x ∨ sz ≤ x)) (b := sz) (As := [.int (J 10), .int (J 1), .int (J 0), .int (J (-4))]) (rest := [.ref sz]) hx hb hml hown hts hK hl.1 (c_X6_init l G sz 10 1 0 (-4) (sz + 1)) (cwI 4 hts gX5_unitOf_X6_init rfl rfl rfl lk2 lk3 lk4 rfl (by decide +kernel) ⟨Nat.le_of_ble_eq_true rfl, Nat.le_of_ble_eq_true rfl⟩) (⟨by have z1 := hF_7.1; omega, hc_3⟩) rfl rfl (Nat.le_of_ble_eq_true rfl) dX5_unitOf_60 ⟨Nat.le_of_ble_eq_true rfl, Nat.le_of_ble_eq_true rfl⟩ hL0 (fun x hx => hx.elim (fun z => by rw [z]; exact (Or.inr (by omega))) (fun z => Or.inr (by omega))) (fun H_8 lo_9 hp_10 hL_11 => ?_)
      show W p l e (headSpec wsX5_unitOf rmX5_unitOf).room s m ([.ref tw, .int (J ks), .int (J st), .int (J out)] : List Value).toArray below meth c H_8 lo_9 (1 + 0) (4 + 0) (MQ below (QE (some (.ref sz) : Option Value) (fun H H1 => Fr H H1 (fun _ => False) 1 ∧ At G H1 sz (eUn V ks st out))) ([.ref tw, .int (J ks), .int (J st), .int (J out)] : List Value).toArray s 1 4 (fun x => (fun _ => False) x ∨ sz ≤ x)) (F0 m 63 ls [.ref sz])
      have hf_13 : Fr H_1 H_8 (fun x => x = sz) 0 := hp_10.1
      have hF_12 : Fr s.heap H_8 (fun _ => False) 1 := hF_7.f hf_13 (fun x hx z => by subst z; exact (fun z => absurd z (by omega)) hx)
      have ce_14 : At G H_8 tw (eO 5 [.ref hs, .int (J (V 0 0))]) := ce_5.f hf_13 (fun z => absurd z (by omega))
      have ce_15 : At G H_8 hs (eQ G 4 40 (qN (V 0 0) ha)) := ce_6.f hf_13 (fun z => absurd z (by omega))
      have hun := hp_10.2
      exact r_aE hx hb hr hlk (Nat.le_of_ble_eq_true rfl) (Nat.le_of_ble_eq_true rfl) rfl hL_11 (⟨hF_12, by rw [hUn]; exact hun⟩) dX5_unitOf_63
    · refine j_qs (b := ha i) rfl ?_
      have hU := unM_1 c14
      have hUn := eUn_s (hU.1.trans hm)
      have hmr := mid_rng hT1 hm
      have hHo : At G s.heap (ha i) (eHo V ea i) := hT4 i hmr.1.1 hmr.1.2
      have hlt_h := hHo.lt
      refine lv_astore (lv' := [(6, .ref (ha i)), (5, .int (J st)), (4, .int (J (among V ks st out))), (0, .ref tw), (1, .int (J ks)), (2, .int (J st)), (3, .int (J out))]) hx hb dX5_unitOf_43 hl (by decide) rfl (fun ls hl => ?_)
      refine lv_aload hx hb dX5_unitOf_45 (lv_at hl 0 rfl) ?_
      refine lv_ifnonnull (tgt := 64) hx hb dX5_unitOf_47 (by decide) ?_
      refine j_new (ci := 6) (fs := [.int (J 0), .int (J 0), .int (J 0), .int (J 0)]) hx hb hts inX6_ tyX6 tyX6_ok hown lk0 lk1 lk2 hK rfl (fun j hj => by rcases (show j = 0 ∨ j = 1 ∨ j = 2 ∨ j = 3 by omega) with rfl | rfl | rfl | rfl <;> rfl) (Nat.le_of_ble_eq_true rfl) (Nat.le_of_ble_eq_true rfl) dX5_unitOf_64 (fun q_17 H_16 hc_18 hn_19 => ?_)
      have hc_18 : At G H_16 q_17 (eO 6 [.int (J 0), .int (J 0), .int (J 0), .int (J 0)]) := hc_18
      have ce_20 : At G H_16 tw (eO 5 [.ref hs, .int (J (V 0 0))]) := hT2.n hn_19
      have ce_21 : At G H_16 hs (eQ G 4 40 (qN (V 0 0) ha)) := hT3.n hn_19
      have ce_22 : At G H_16 (ha i) (eO 2 [.int (J i), .int (J (V 1 i)), .int (J (V 2 i)), .int (J (V 3 i)), .int (J (V 4 i)), .ref (ea i), .int (J (V 5 i))]) := hHo.n hn_19
      obtain rfl : sz = q_17 := by have z1 := hn_19.1; have z2 := hF0.1; omega
      have hF_23 : Fr s.heap H_16 (fun _ => False) 1 := hF0.n hn_19
      refine lv_dup hx hb dX5_unitOf_67 rfl ?_
      refine lv_aload hx hb dX5_unitOf_68 (lv_at hl 0 rfl) ?_
      refine j_get (ci := 2) (v := .int (J (V 5 i))) hx hb hts inX2_ hown hK ce_22 rfl 6 (by decide) lk5 (fun _ h9 => h9) rfl dX5_unitOf_70 ?_
      refine lv_aload hx hb dX5_unitOf_73 (lv_at hl 0 rfl) ?_
      refine j_get (ci := 2) (v := .int (J (V 4 i))) hx hb hts inX2_ hown hK ce_22 rfl 4 (by decide) lk6 (fun _ h9 => h9) rfl dX5_unitOf_75 ?_
      refine lv_iload hx hb dX5_unitOf_78 (lv_at hl 2 rfl) ?_
      refine lv_aload hx hb dX5_unitOf_80 (lv_at hl 0 rfl) ?_
      refine j_get (ci := 2) (v := .int (J i)) hx hb hts inX2_ hown hK ce_22 rfl 0 (by decide) lk7 (fun _ h9 => h9) rfl dX5_unitOf_82 ?_
      refine e_I (A := (fun x => (fun _ => False) x ∨ sz ≤ x)) (b := sz) (As := [.int (J (V 5 i)), .int (J (V 4 i)), .int (J (among V ks st out)), .int (J i)]) (rest := [.ref sz]) hx hb hml hown hts hK hl.1 (c_X6_init l G sz (V 5 i) (V 4 i) (among V ks st out) i (sz + 1)) (cwI 4 hts gX5_unitOf_X6_init rfl rfl rfl lk2 lk3 lk4 rfl (by decide +kernel) ⟨Nat.le_of_ble_eq_true rfl, Nat.le_of_ble_eq_true rfl⟩) (⟨by have z1 := hF_23.1; omega, hc_18⟩) rfl rfl (Nat.le_of_ble_eq_true rfl) dX5_unitOf_85 ⟨Nat.le_of_ble_eq_true rfl, Nat.le_of_ble_eq_true rfl⟩ hL0 (fun x hx => hx.elim (fun z => by rw [z]; exact (Or.inr (by omega))) (fun z => Or.inr (by omega))) (fun H_24 lo_25 hp_26 hL_27 => ?_)
      show W p l e (headSpec wsX5_unitOf rmX5_unitOf).room s m ([.ref tw, .int (J ks), .int (J st), .int (J out)] : List Value).toArray below meth c H_24 lo_25 (1 + 0) (4 + 0) (MQ below (QE (some (.ref sz) : Option Value) (fun H H1 => Fr H H1 (fun _ => False) 1 ∧ At G H1 sz (eUn V ks st out))) ([.ref tw, .int (J ks), .int (J st), .int (J out)] : List Value).toArray s 1 4 (fun x => (fun _ => False) x ∨ sz ≤ x)) (F0 m 88 ls [.ref sz])
      have hf_29 : Fr H_16 H_24 (fun x => x = sz) 0 := hp_26.1
      have hF_28 : Fr s.heap H_24 (fun _ => False) 1 := hF_23.f hf_29 (fun x hx z => by subst z; exact (fun z => absurd z (by omega)) hx)
      have ce_30 : At G H_24 tw (eO 5 [.ref hs, .int (J (V 0 0))]) := ce_20.f hf_29 (fun z => absurd z (by omega))
      have ce_31 : At G H_24 hs (eQ G 4 40 (qN (V 0 0) ha)) := ce_21.f hf_29 (fun z => absurd z (by omega))
      have ce_32 : At G H_24 (ha i) (eO 2 [.int (J i), .int (J (V 1 i)), .int (J (V 2 i)), .int (J (V 3 i)), .int (J (V 4 i)), .ref (ea i), .int (J (V 5 i))]) := ce_22.f hf_29 (fun z => absurd z (by omega))
      have hun := hp_26.2
      exact r_aE hx hb hr hlk (Nat.le_of_ble_eq_true rfl) (Nat.le_of_ble_eq_true rfl) rfl hL_27 (⟨hF_28, by rw [hUn, hU.2]; exact hun⟩) dX5_unitOf_88
  · refine j_const hx hb dX5_unitOf_17 ?_
    refine lv_istore (lv' := [(5, .int (J (-1))), (4, .int (J (among V ks st out))), (0, .ref tw), (1, .int (J ks)), (2, .int (J st)), (3, .int (J out))]) hx hb dX5_unitOf_18 hl (by decide) rfl (fun ls hl => ?_)
    refine lv_aload_n hx hb dX5_unitOf_20 rfl (lv_at hl 2 rfl) ?_
    refine lv_iload_n hx hb dX5_unitOf_21 rfl (lv_at hl 3 rfl) ?_
    refine j_const hx hb dX5_unitOf_22 ?_
    refine lv_iload_n hx hb dX5_unitOf_23 rfl (lv_at hl 5 rfl) ?_
    refine k_V (ci := 5) (b := tw) (As := [.int (J ks), .int (J (-1)), .int (J out)]) (rest := []) (v := .int (J (among V ks (-1) out))) hx hb hml hown hts hK hl.1 (c_X5_rentsOf l G tw hs ha ea V ks (-1) out g_ks (by omega) g_out) (cwV 3 hts gX5_unitOf_X5_rentsOf rfl rfl rfl (by decide +kernel) ⟨Nat.le_of_ble_eq_true rfl, Nat.le_of_ble_eq_true rfl⟩) hT2 rfl hT rfl rfl (Nat.le_of_ble_eq_true rfl) dX5_unitOf_24 ⟨Nat.zero_le _, Nat.zero_le _⟩ ?_
    refine lv_istore (lv' := [(4, .int (J (among V ks (-1) out))), (5, .int (J (-1))), (0, .ref tw), (1, .int (J ks)), (2, .int (J st)), (3, .int (J out))]) hx hb dX5_unitOf_27 hl (by decide) rfl (fun ls hl => ?_)
    have c14z : among V ks st out = 0 := c14
    have hra := among_rng hT1 ks (-1) out
    have htd := tdv (x := among V ks (-1) out - 1) (by omega)
    refine lv_aload_n hx hb dX5_unitOf_29 rfl (lv_at hl 2 rfl) ?_
    refine lv_iload_n hx hb dX5_unitOf_30 rfl (lv_at hl 3 rfl) ?_
    refine lv_iload hx hb dX5_unitOf_31 (lv_at hl 1 rfl) ?_
    refine lv_iload_n hx hb dX5_unitOf_33 rfl (lv_at hl 5 rfl) ?_
    refine lv_iload hx hb dX5_unitOf_34 (lv_at hl 0 rfl) ?_
    refine j_const hx hb dX5_unitOf_36 ?_
    refine j_sub hx hb dX5_unitOf_37 ?_
    refine j_const hx hb dX5_unitOf_38 ?_
    refine j_tdiv hx hb (by omega) (by omega) (by decide) (by decide) dX5_unitOf_39 ?_
    refine k_V (ci := 5) (b := tw) (As := [.int (J ks), .int (J (-1)), .int (J out), .int (J (((among V ks (-1) out) - 1).tdiv 2))]) (rest := []) (v := va_rf (Option.map ha (mid V ks (-1) out (((among V ks (-1) out) - 1).tdiv 2)))) hx hb hml hown hts hK hl.1 (c_X5_middleOf l G tw hs ha ea V ks (-1) out (((among V ks (-1) out) - 1).tdiv 2) g_ks (by omega) g_out (by omega)) (cwV 4 hts gX5_unitOf_X5_middleOf rfl rfl rfl (by decide +kernel) ⟨Nat.le_of_ble_eq_true rfl, Nat.le_of_ble_eq_true rfl⟩) hT2 rfl hT rfl rfl (Nat.le_of_ble_eq_true rfl) dX5_unitOf_40 ⟨Nat.zero_le _, Nat.zero_le _⟩ ?_
    rcases hm : mid V ks (-1) out (((among V ks (-1) out) - 1).tdiv 2) with _ | i
    · refine j_qn rfl ?_
      have hU := unM_0 c14z
      have hUn := eUn_n (hU.1.trans hm)
      refine lv_astoreN (lv' := [(6, .null), (4, .int (J (among V ks (-1) out))), (5, .int (J (-1))), (0, .ref tw), (1, .int (J ks)), (2, .int (J st)), (3, .int (J out))]) hx hb dX5_unitOf_43 hl (by decide) rfl (fun ls hl => ?_)
      refine lv_aloadN hx hb dX5_unitOf_45 (lv_at hl 0 rfl) ?_
      refine lv_ifnonnullN hx hb dX5_unitOf_47 ?_
      refine j_new (ci := 6) (fs := [.int (J 0), .int (J 0), .int (J 0), .int (J 0)]) hx hb hts inX6_ tyX6 tyX6_ok hown lk0 lk1 lk2 hK rfl (fun j hj => by rcases (show j = 0 ∨ j = 1 ∨ j = 2 ∨ j = 3 by omega) with rfl | rfl | rfl | rfl <;> rfl) (Nat.le_of_ble_eq_true rfl) (Nat.le_of_ble_eq_true rfl) dX5_unitOf_50 (fun q_34 H_33 hc_35 hn_36 => ?_)
      have hc_35 : At G H_33 q_34 (eO 6 [.int (J 0), .int (J 0), .int (J 0), .int (J 0)]) := hc_35
      have ce_37 : At G H_33 tw (eO 5 [.ref hs, .int (J (V 0 0))]) := hT2.n hn_36
      have ce_38 : At G H_33 hs (eQ G 4 40 (qN (V 0 0) ha)) := hT3.n hn_36
      obtain rfl : sz = q_34 := by have z1 := hn_36.1; have z2 := hF0.1; omega
      have hF_39 : Fr s.heap H_33 (fun _ => False) 1 := hF0.n hn_36
      refine lv_dup hx hb dX5_unitOf_53 rfl ?_
      refine j_bi hx hb dX5_unitOf_54 (by decide +kernel) ?_
      refine j_const hx hb dX5_unitOf_56 ?_
      refine j_const hx hb dX5_unitOf_57 ?_
      refine j_bi hx hb dX5_unitOf_58 (by decide +kernel) ?_
      refine e_I (A := (fun x => (fun _ => False) x ∨ sz ≤ x)) (b := sz) (As := [.int (J 10), .int (J 1), .int (J 0), .int (J (-4))]) (rest := [.ref sz]) hx hb hml hown hts hK hl.1 (c_X6_init l G sz 10 1 0 (-4) (sz + 1)) (cwI 4 hts gX5_unitOf_X6_init rfl rfl rfl lk2 lk3 lk4 rfl (by decide +kernel) ⟨Nat.le_of_ble_eq_true rfl, Nat.le_of_ble_eq_true rfl⟩) (⟨by have z1 := hF_39.1; omega, hc_35⟩) rfl rfl (Nat.le_of_ble_eq_true rfl) dX5_unitOf_60 ⟨Nat.le_of_ble_eq_true rfl, Nat.le_of_ble_eq_true rfl⟩ hL0 (fun x hx => hx.elim (fun z => by rw [z]; exact (Or.inr (by omega))) (fun z => Or.inr (by omega))) (fun H_40 lo_41 hp_42 hL_43 => ?_)
      show W p l e (headSpec wsX5_unitOf rmX5_unitOf).room s m ([.ref tw, .int (J ks), .int (J st), .int (J out)] : List Value).toArray below meth c H_40 lo_41 (1 + 0) (4 + 0) (MQ below (QE (some (.ref sz) : Option Value) (fun H H1 => Fr H H1 (fun _ => False) 1 ∧ At G H1 sz (eUn V ks st out))) ([.ref tw, .int (J ks), .int (J st), .int (J out)] : List Value).toArray s 1 4 (fun x => (fun _ => False) x ∨ sz ≤ x)) (F0 m 63 ls [.ref sz])
      have hf_45 : Fr H_33 H_40 (fun x => x = sz) 0 := hp_42.1
      have hF_44 : Fr s.heap H_40 (fun _ => False) 1 := hF_39.f hf_45 (fun x hx z => by subst z; exact (fun z => absurd z (by omega)) hx)
      have ce_46 : At G H_40 tw (eO 5 [.ref hs, .int (J (V 0 0))]) := ce_37.f hf_45 (fun z => absurd z (by omega))
      have ce_47 : At G H_40 hs (eQ G 4 40 (qN (V 0 0) ha)) := ce_38.f hf_45 (fun z => absurd z (by omega))
      have hun := hp_42.2
      exact r_aE hx hb hr hlk (Nat.le_of_ble_eq_true rfl) (Nat.le_of_ble_eq_true rfl) rfl hL_43 (⟨hF_44, by rw [hUn]; exact hun⟩) dX5_unitOf_63
    · refine j_qs (b := ha i) rfl ?_
      have hU := unM_0 c14z
      have hUn := eUn_s (hU.1.trans hm)
      have hmr := mid_rng hT1 hm
      have hHo : At G s.heap (ha i) (eHo V ea i) := hT4 i hmr.1.1 hmr.1.2
      have hlt_h := hHo.lt
      refine lv_astore (lv' := [(6, .ref (ha i)), (4, .int (J (among V ks (-1) out))), (5, .int (J (-1))), (0, .ref tw), (1, .int (J ks)), (2, .int (J st)), (3, .int (J out))]) hx hb dX5_unitOf_43 hl (by decide) rfl (fun ls hl => ?_)
      refine lv_aload hx hb dX5_unitOf_45 (lv_at hl 0 rfl) ?_
      refine lv_ifnonnull (tgt := 64) hx hb dX5_unitOf_47 (by decide) ?_
      refine j_new (ci := 6) (fs := [.int (J 0), .int (J 0), .int (J 0), .int (J 0)]) hx hb hts inX6_ tyX6 tyX6_ok hown lk0 lk1 lk2 hK rfl (fun j hj => by rcases (show j = 0 ∨ j = 1 ∨ j = 2 ∨ j = 3 by omega) with rfl | rfl | rfl | rfl <;> rfl) (Nat.le_of_ble_eq_true rfl) (Nat.le_of_ble_eq_true rfl) dX5_unitOf_64 (fun q_49 H_48 hc_50 hn_51 => ?_)
      have hc_50 : At G H_48 q_49 (eO 6 [.int (J 0), .int (J 0), .int (J 0), .int (J 0)]) := hc_50
      have ce_52 : At G H_48 tw (eO 5 [.ref hs, .int (J (V 0 0))]) := hT2.n hn_51
      have ce_53 : At G H_48 hs (eQ G 4 40 (qN (V 0 0) ha)) := hT3.n hn_51
      have ce_54 : At G H_48 (ha i) (eO 2 [.int (J i), .int (J (V 1 i)), .int (J (V 2 i)), .int (J (V 3 i)), .int (J (V 4 i)), .ref (ea i), .int (J (V 5 i))]) := hHo.n hn_51
      obtain rfl : sz = q_49 := by have z1 := hn_51.1; have z2 := hF0.1; omega
      have hF_55 : Fr s.heap H_48 (fun _ => False) 1 := hF0.n hn_51
      refine lv_dup hx hb dX5_unitOf_67 rfl ?_
      refine lv_aload hx hb dX5_unitOf_68 (lv_at hl 0 rfl) ?_
      refine j_get (ci := 2) (v := .int (J (V 5 i))) hx hb hts inX2_ hown hK ce_54 rfl 6 (by decide) lk5 (fun _ h9 => h9) rfl dX5_unitOf_70 ?_
      refine lv_aload hx hb dX5_unitOf_73 (lv_at hl 0 rfl) ?_
      refine j_get (ci := 2) (v := .int (J (V 4 i))) hx hb hts inX2_ hown hK ce_54 rfl 4 (by decide) lk6 (fun _ h9 => h9) rfl dX5_unitOf_75 ?_
      refine lv_iload hx hb dX5_unitOf_78 (lv_at hl 1 rfl) ?_
      refine lv_aload hx hb dX5_unitOf_80 (lv_at hl 0 rfl) ?_
      refine j_get (ci := 2) (v := .int (J i)) hx hb hts inX2_ hown hK ce_54 rfl 0 (by decide) lk7 (fun _ h9 => h9) rfl dX5_unitOf_82 ?_
      refine e_I (A := (fun x => (fun _ => False) x ∨ sz ≤ x)) (b := sz) (As := [.int (J (V 5 i)), .int (J (V 4 i)), .int (J (among V ks (-1) out)), .int (J i)]) (rest := [.ref sz]) hx hb hml hown hts hK hl.1 (c_X6_init l G sz (V 5 i) (V 4 i) (among V ks (-1) out) i (sz + 1)) (cwI 4 hts gX5_unitOf_X6_init rfl rfl rfl lk2 lk3 lk4 rfl (by decide +kernel) ⟨Nat.le_of_ble_eq_true rfl, Nat.le_of_ble_eq_true rfl⟩) (⟨by have z1 := hF_55.1; omega, hc_50⟩) rfl rfl (Nat.le_of_ble_eq_true rfl) dX5_unitOf_85 ⟨Nat.le_of_ble_eq_true rfl, Nat.le_of_ble_eq_true rfl⟩ hL0 (fun x hx => hx.elim (fun z => by rw [z]; exact (Or.inr (by omega))) (fun z => Or.inr (by omega))) (fun H_56 lo_57 hp_58 hL_59 => ?_)
      show W p l e (headSpec wsX5_unitOf rmX5_unitOf).room s m ([.ref tw, .int (J ks), .int (J st), .int (J out)] : List Value).toArray below meth c H_56 lo_57 (1 + 0) (4 + 0) (MQ below (QE (some (.ref sz) : Option Value) (fun H H1 => Fr H H1 (fun _ => False) 1 ∧ At G H1 sz (eUn V ks st out))) ([.ref tw, .int (J ks), .int (J st), .int (J out)] : List Value).toArray s 1 4 (fun x => (fun _ => False) x ∨ sz ≤ x)) (F0 m 88 ls [.ref sz])
      have hf_61 : Fr H_48 H_56 (fun x => x = sz) 0 := hp_58.1
      have hF_60 : Fr s.heap H_56 (fun _ => False) 1 := hF_55.f hf_61 (fun x hx z => by subst z; exact (fun z => absurd z (by omega)) hx)
      have ce_62 : At G H_56 tw (eO 5 [.ref hs, .int (J (V 0 0))]) := ce_52.f hf_61 (fun z => absurd z (by omega))
      have ce_63 : At G H_56 hs (eQ G 4 40 (qN (V 0 0) ha)) := ce_53.f hf_61 (fun z => absurd z (by omega))
      have ce_64 : At G H_56 (ha i) (eO 2 [.int (J i), .int (J (V 1 i)), .int (J (V 2 i)), .int (J (V 3 i)), .int (J (V 4 i)), .ref (ea i), .int (J (V 5 i))]) := ce_54.f hf_61 (fun z => absurd z (by omega))
      have hun := hp_58.2
      exact r_aE hx hb hr hlk (Nat.le_of_ble_eq_true rfl) (Nat.le_of_ble_eq_true rfl) rfl hL_59 (⟨hF_60, by rw [hUn, hU.2]; exact hun⟩) dX5_unitOf_88

abbrev rmX4_init : Room := { frames := 4, cells := 19, slots := 90, locals := 104 }
set_option maxHeartbeats 4000000 in
set_option maxRecDepth 100000 in
theorem c_X4_init (l : Launch) (G : GG) (q : Nat) (d : Int) (tw hs : Nat) (ha ea : Int → Nat) (V : St) (sz : Nat) (hd : q ≠ tw ∧ q ≠ hs ∧ ∀ i, 0 ≤ i → i < V 0 0 → q ≠ ha i) : ME l G yX4_init wsX4_init rmX4_init [.ref q, .int (J d), .ref tw] (fun H => H.size = sz ∧ (At G H q (eO 4 [.int (J 0), .null]) ∧ Tn G H tw hs ha ea V)) (none : Option Value) (fun x => (fun x => x = q) x ∨ sz ≤ x) (fun H H1 => Fr H H1 (fun x => x = q) 19 ∧ At G H1 q (eO 4 [.int (J d), .ref sz]) ∧ At G H1 sz (eQ G 6 18 (fun j => some (sz + (1 + j.toNat)))) ∧ ∀ j : Int, 0 ≤ j → j < 18 → At G H1 (sz + (1 + j.toNat)) (eUn V (j / 6) (j % 6) (-1))) 19 90 := by
  refine ME.of (cc := cX4_init) (maxL := 4) (ret := none) (by decide) rfl (Nat.le_of_ble_eq_true rfl) ?_
  intro p e s m below meth c hx hb hr hml hown hts hlk hin hK hP ls hl
  have hL0 : ∀ z9 ∈ ([] : List Loc), (fun x => (fun x => x = q) x ∨ sz ≤ x) z9.base := fun z9 h => absurd h List.not_mem_nil
  have hown : s.vm.findClass RX4 = some m.cls := hown
  have hl : lv_has ls 4 [(0, .ref q), (1, .int (J d)), (2, .ref tw)] := hl
  have inX4_ : ∀ w ∈ u_ws RX4 TX4 2, w ∈ wsX4_init := by decide +kernel
  have lk0 := hts (.methodLink RX4 3 objectInit) (by decide +kernel)
  have lk1 := hts (.instanceMethod objectInit) (by decide +kernel)
  have lk2 := hts (.code objectInit ⟨#[0xb1]⟩ 1 none) (by decide +kernel)
  have lk3 := hts (.fieldLink RX4 9 "RateBook$RateList" "day" "I") (by decide +kernel)
  have lk4 := hts (.classLink RX4 15 RX6) (by decide +kernel)
  have lk5 := hts (.fieldLink RX4 17 "RateBook$RateList" "units" "[LRateBook$Unit;") (by decide +kernel)
  obtain ⟨hsz, hP⟩ := hP
  have hF0 : Fr s.heap s.heap (fun x => x = q) 0 := Fr.rf
  obtain ⟨hQ, hT⟩ := id hP
  have htw := hT.2.1.lt
  have hlt_0 := (hP.1).lt
  refine lv_aload_n hx hb dX4_init_0 rfl (lv_at hl 0 rfl) ?_
  refine W.objInit hx hb hown lk0 lk1 lk2 rfl (by rw [hml]; exact hl.1) rfl dX4_init_1 (Nat.le_of_ble_eq_true rfl) (Nat.le_of_ble_eq_true rfl) ?_
  refine W.eq (g2 := F0 m 4 ls []) rfl ?_
  refine lv_aload_n hx hb dX4_init_4 rfl (lv_at hl 0 rfl) ?_
  refine lv_iload_n hx hb dX4_init_5 rfl (lv_at hl 1 rfl) ?_
  refine j_putF (ci := 4) (A := (fun x => (fun x => x = q) x ∨ sz ≤ x)) (ty := .int) hx hb hts inX4_ tyX4 tyX4_ok nmX4 hown hK hP.1 rfl 0 (by decide) lk3 (fun _ h9 => h9) rfl hin rfl (by decide +kernel) rfl rfl (Nat.le_of_ble_eq_true rfl) hL0 (Or.inl rfl) dX4_init_6 (fun H_1 lo_2 hc_3 hx_4 hL_5 => ?_)
  have hc_3 : At G H_1 q (eO 4 [.int (J d), .null]) := hc_3
  have hF_6 : Fr s.heap H_1 (fun x => x = q) 0 := hF0.x hx_4 (fun _ => rfl)
  refine lv_aload_n hx hb dX4_init_9 rfl (lv_at hl 0 rfl) ?_
  refine j_bi hx hb dX4_init_10 (by decide +kernel) ?_
  refine j_newQ (k := 6) (C := RX6) (n := 18) hx hb hown lk4 hK.2.2.2.2.2.1 hK rfl rfl (by decide) (Nat.le_of_ble_eq_true rfl) (Nat.le_of_ble_eq_true rfl) dX4_init_12 (fun q_8 H_7 hc_9 hn_10 => ?_)
  have hc_9 : At G H_7 q_8 (eQ G 6 18 (fun _ => none)) := hc_9
  have ce_11 : At G H_7 q (eO 4 [.int (J d), .null]) := hc_3.n hn_10
  obtain rfl : sz = q_8 := by have z1 := hn_10.1; have z2 := hF_6.1; omega
  have hF_12 : Fr s.heap H_7 (fun x => x = q) 1 := hF_6.n hn_10
  refine j_putF (ci := 4) (A := (fun x => (fun x => x = q) x ∨ sz ≤ x)) (ty := (.array (.object "RateBook$Unit"))) hx hb hts inX4_ tyX4 tyX4_ok nmX4 hown hK ce_11 rfl 1 (by decide) lk5 (fun _ h9 => h9) rfl hin rfl (by decide +kernel) rfl rfl (Nat.le_of_ble_eq_true rfl) hL_5 (Or.inl rfl) dX4_init_15 (fun H_13 lo_14 hc_15 hx_16 hL_17 => ?_)
  have hc_15 : At G H_13 q (eO 4 [.int (J d), .ref sz]) := hc_15
  have ce_18 : At G H_13 sz (eQ G 6 18 (fun _ => none)) := hc_9.x hx_16 (by first | omega | assumption | (apply Ne.symm; assumption))
  have hF_19 : Fr s.heap H_13 (fun x => x = q) 1 := hF_12.x hx_16 (fun _ => rfl)
  refine j_const hx hb dX4_init_18 ?_
  refine lv_istore_n (lv' := [(3, .int (J 0)), (0, .ref q), (1, .int (J d)), (2, .ref tw)]) hx hb dX4_init_19 rfl hl (by decide) rfl (fun ls hl => ?_)
  have lp20 : ∀ (n : Nat) (i : Int) (H20 : Heap) (lo20 : List Loc) (hL20 : ∀ z9 ∈ lo20, (fun x => (fun x => x = q) x ∨ sz ≤ x) z9.base) (i0 : 0 ≤ i ∧ i ≤ 18) (hFl : Fr s.heap H20 (fun x => x = q) (1 + i.toNat)) (l4q : At G H20 q (eO 4 [.int (J d), .ref sz])) (l4a : At G H20 sz (eQ G 6 18 (fun j => if j < i then some (sz + (1 + j.toNat)) else none))) (hus : ∀ j : Int, 0 ≤ j → j < i → At G H20 (sz + (1 + j.toNat)) (eUn V (j / 6) (j % 6) (-1))) (hm : 18 - i < (n : Int)) (ls : Array Slot) (hl : lv_has ls 4 [(3, .int (J i)), (0, .ref q), (1, .int (J d)), (2, .ref tw)]), W p l e (headSpec wsX4_init rmX4_init).room s m ([.ref q, .int (J d), .ref tw] : List Value).toArray below meth c H20 lo20 (1 + i.toNat) (18 + 4 * i.toNat) (MQ below (QE (none : Option Value) (fun H H1 => Fr H H1 (fun x => x = q) 19 ∧ At G H1 q (eO 4 [.int (J d), .ref sz]) ∧ At G H1 sz (eQ G 6 18 (fun j => some (sz + (1 + j.toNat)))) ∧ ∀ j : Int, 0 ≤ j → j < 18 → At G H1 (sz + (1 + j.toNat)) (eUn V (j / 6) (j % 6) (-1)))) ([.ref q, .int (J d), .ref tw] : List Value).toArray s 19 90 (fun x => (fun x => x = q) x ∨ sz ≤ x)) (F0 m 20 ls []) := by
    intro n
    induction n with
    | zero =>
      intro i H20 lo20 hL20 i0 hFl l4q l4a hus hm ls hl
      exact absurd hm (by omega)
    | succ n ih20 =>
      intro i H20 lo20 hL20 i0 hFl l4q l4a hus hm ls hl
      refine lv_iload_n hx hb dX4_init_20 rfl (lv_at hl 0 rfl) ?_
      refine lv_aload_n hx hb dX4_init_21 rfl (lv_at hl 1 rfl) ?_
      refine j_get (ci := 4) (v := .ref sz) hx hb hts inX4_ hown hK l4q rfl 1 (by decide) lk5 (fun _ h9 => h9) rfl dX4_init_22 ?_
      refine j_alQ (C := RX6) hx hb hK l4a rfl dX4_init_25 ?_
      refine j_re (y := 18) rfl ?_
      refine j_cge (tgt := 54) hx hb (by omega) (by omega) (by decide) (by decide) dX4_init_26 (by decide) (fun c26 => ?_) (fun c26 => ?_)
      · exact r_vE hx hb hr hlk (by omega) (by omega) rfl hL20 (⟨(show 1 + i.toNat = 19 by omega) ▸ hFl, l4q, eQ_congr (fun j h1 h2 => by rw [if_pos (by omega)]) l4a, fun j z1 z2 => hus j z1 (by omega)⟩) dX4_init_54
      · refine lv_aload_n hx hb dX4_init_29 rfl (lv_at hl 1 rfl) ?_
        refine j_get (ci := 4) (v := .ref sz) hx hb hts inX4_ hown hK l4q rfl 1 (by decide) lk5 (fun _ h9 => h9) rfl dX4_init_30 ?_
        refine lv_iload_n hx hb dX4_init_33 rfl (lv_at hl 0 rfl) ?_
        refine lv_aload_n hx hb dX4_init_34 rfl (lv_at hl 3 rfl) ?_
        refine lv_iload_n hx hb dX4_init_35 rfl (lv_at hl 0 rfl) ?_
        refine j_bi hx hb dX4_init_36 (by decide +kernel) ?_
        refine j_div hx hb (by omega) (by omega) (by decide) (by decide) dX4_init_38 ?_
        refine lv_iload_n hx hb dX4_init_39 rfl (lv_at hl 0 rfl) ?_
        refine j_bi hx hb dX4_init_40 (by decide +kernel) ?_
        refine j_rem hx hb (by omega) (by omega) (by decide) (by decide) dX4_init_42 ?_
        refine j_const hx hb dX4_init_43 ?_
        have ce_24 : At G H20 tw (eO 5 [.ref hs, .int (J (V 0 0))]) := (hT.2.1.f hFl (fun z => hd.1 z.symm))
        refine e_V (A := (fun x => (fun x => x = q) x ∨ sz ≤ x)) (ci := 5) (b := tw) (As := [.int (J (i / 6)), .int (J (i % 6)), .int (J (-1))]) (rest := [.int (J i), .ref sz]) hx hb hml hown hts hK hl.1 (c_X5_unitOf l G tw hs ha ea V (i / 6) (i % 6) (-1) (sz + (1 + i.toNat)) (by omega) (by omega) (by omega)) (cwV 3 hts gX4_init_X5_unitOf rfl rfl rfl (by decide +kernel) ⟨Nat.le_of_ble_eq_true rfl, Nat.le_of_ble_eq_true rfl⟩) ce_24 rfl (⟨by have z1 := hFl.1; omega, hT.f hFl (fun z => hd.1 z.symm) (fun z => hd.2.1 z.symm) (fun i z1 z2 z => hd.2.2 i z1 z2 z.symm)⟩) rfl rfl (Nat.le_of_ble_eq_true rfl) dX4_init_44 ⟨by show 1 + i.toNat + 1 ≤ 19; omega, by show 18 + 4 * i.toNat + 4 ≤ 90; omega⟩ hL20 (fun x hx => hx.elim (fun z => z.elim) (fun z => Or.inr (by omega))) (fun H_20 lo_21 hp_22 hL_23 => ?_)
        show W p l e (headSpec wsX4_init rmX4_init).room s m ([.ref q, .int (J d), .ref tw] : List Value).toArray below meth c H_20 lo_21 ((1 + i.toNat) + 1) ((18 + 4 * i.toNat) + 4) (MQ below (QE (none : Option Value) (fun H H1 => Fr H H1 (fun x => x = q) 19 ∧ At G H1 q (eO 4 [.int (J d), .ref sz]) ∧ At G H1 sz (eQ G 6 18 (fun j => some (sz + (1 + j.toNat)))) ∧ ∀ j : Int, 0 ≤ j → j < 18 → At G H1 (sz + (1 + j.toNat)) (eUn V (j / 6) (j % 6) (-1)))) ([.ref q, .int (J d), .ref tw] : List Value).toArray s 19 90 (fun x => (fun x => x = q) x ∨ sz ≤ x)) (F0 m 47 ls [.ref (sz + (1 + i.toNat)), .int (J i), .ref sz])
        have hf_26 : Fr H20 H_20 (fun _ => False) 1 := hp_22.1
        have hF_25 : Fr s.heap H_20 (fun x => x = q) (1 + i.toNat + 1) := hFl.f hf_26 (fun x hx z => z.elim)
        have ce_27 : At G H_20 q (eO 4 [.int (J d), .ref sz]) := l4q.f hf_26 (fun z => z.elim)
        have ce_28 : At G H_20 sz (eQ G 6 18 (fun j => if j < i then some (sz + (1 + j.toNat)) else none)) := l4a.f hf_26 (fun z => z.elim)
        have ce_29 : At G H_20 tw (eO 5 [.ref hs, .int (J (V 0 0))]) := ce_24.f hf_26 (fun z => z.elim)
        have hun : At G H_20 (sz + (1 + i.toNat)) (eUn V (i / 6) (i % 6) (-1)) := hp_22.2
        have hus_c : ∀ j : Int, 0 ≤ j → j < i → At G H_20 (sz + (1 + j.toNat)) (eUn V (j / 6) (j % 6) (-1)) := fun j z1 z2 => (hus j z1 z2).f hp_22.1 (fun z => z)
        refine j_aast (A := (fun x => (fun x => x = q) x ∨ sz ≤ x)) (r := (RX6, TX6, 4)) hx hb hK ce_28 rfl hun rfl (by omega) (by omega) (by decide) hL_23 (Or.inr (by omega)) dX4_init_47 (fun H_30 lo_31 hc_32 hx_33 hL_34 => ?_)
        have hc_32 : At G H_30 sz (eQ G 6 18 (uf (fun j => if j < i then some (sz + (1 + j.toNat)) else none) i (some (sz + (1 + i.toNat))))) := hc_32
        have ce_35 : At G H_30 q (eO 4 [.int (J d), .ref sz]) := ce_27.x hx_33 (by first | omega | assumption | (apply Ne.symm; assumption))
        have ce_36 : At G H_30 tw (eO 5 [.ref hs, .int (J (V 0 0))]) := ce_29.x hx_33 (by first | omega | assumption | (apply Ne.symm; assumption))
        have ce_37 : At G H_30 (sz + (1 + i.toNat)) (eO 6 [.int (J (unA V (i / 6) (i % 6) (-1))), .int (J (unB V (i / 6) (i % 6) (-1))), .int (J (unC V (i / 6) (i % 6) (-1))), .int (J (unD V (i / 6) (i % 6) (-1)))]) := hun.x hx_33 (by first | omega | assumption | (apply Ne.symm; assumption))
        have hF_38 : Fr s.heap H_30 (fun x => x = q) (1 + i.toNat + 1) := hF_25.x hx_33 (fun z => absurd z (by omega))
        refine lv_iinc (v := J (i + 1)) (lv' := [(3, .int (J (i + 1))), (0, .ref q), (1, .int (J d)), (2, .ref tw)]) hx hb dX4_init_48 hl (k := 0) rfl (J_add _ _) (by decide) rfl (fun ls hl => ?_)
        refine lv_goto (tgt := 20) hx hb dX4_init_51 (by decide) ?_
        refine W.cs (cells' := 1 + (i + 1).toNat) (slots' := 18 + 4 * (i + 1).toNat) (by omega) (by omega) ?_
        exact ih20 (i + 1) H_30 lo_31 hL_34 (by omega) ((show 1 + i.toNat + 1 = 1 + (i + 1).toNat by omega) ▸ hF_38) ce_35 (eQ_congr (fun j h1 h2 => l4_row (by omega) j) hc_32) (fun j z1 z2 => if z : j < i then (hus_c j z1 z).x hx_33 (by omega) else (show j = i by omega) ▸ ce_37) (by omega) _ (lv_sub hl [0, 1, 2, 3] rfl)
  exact lp20 19 0 H_13 lo_14 hL_17 (by omega) hF_19 hc_15 (eQ_congr (fun j h1 h2 => by rw [if_neg (by omega)]) ce_18) (fun j h1 h2 => absurd h2 (by omega)) (by omega) _ (lv_sub hl [0, 1, 2, 3] rfl)

abbrev rmX3_add : Room := { frames := 5, cells := 20, slots := 92, locals := 127 }
set_option maxHeartbeats 4000000 in
set_option maxRecDepth 100000 in
theorem c_X3_add (l : Launch) (G : GG) (li lr : Nat) (g : Int → Option Nat) (nl d : Int) (tw hs : Nat) (ha ea : Int → Nat) (V : St) (sz : Nat) (h_nl : 0 ≤ nl ∧ nl < 10) (hd : li ≠ lr) : ME l G yX3_add wsX3_add rmX3_add [.ref li, .int (J d), .ref tw] (fun H => H.size = sz ∧ ((At G H li (eO 3 [.ref lr, .int (J nl)]) ∧ At G H lr (eQ G 5 10 g)) ∧ Tn G H tw hs ha ea V)) (some (.int (J nl)) : Option Value) (fun x => (fun x => x = li ∨ x = lr) x ∨ sz ≤ x) (fun H H1 => Fr H H1 (fun x => x = li ∨ x = lr) 20 ∧ At G H1 li (eO 3 [.ref lr, .int (J (nl + 1))]) ∧ At G H1 lr (eQ G 5 10 (uf g nl (some sz))) ∧ At G H1 sz (eO 4 [.int (J d), .ref (sz + 1)]) ∧ At G H1 (sz + 1) (eQ G 6 18 (fun j => some (sz + 1 + (1 + j.toNat)))) ∧ ∀ j : Int, 0 ≤ j → j < 18 → At G H1 (sz + 1 + (1 + j.toNat)) (eUn V (j / 6) (j % 6) (-1))) 20 92 := by
  refine ME.of (cc := cX3_add) (maxL := 4) (ret := (some .int)) (by decide) rfl (Nat.le_of_ble_eq_true rfl) ?_
  intro p e s m below meth c hx hb hr hml hown hts hlk hin hK hP ls hl
  have hL0 : ∀ z9 ∈ ([] : List Loc), (fun x => (fun x => x = li ∨ x = lr) x ∨ sz ≤ x) z9.base := fun z9 h => absurd h List.not_mem_nil
  have hown : s.vm.findClass RX3 = some m.cls := hown
  have hl : lv_has ls 4 [(0, .ref li), (1, .int (J d)), (2, .ref tw)] := hl
  have inX3_ : ∀ w ∈ u_ws RX3 TX3 2, w ∈ wsX3_add := by decide +kernel
  have inX4_ : ∀ w ∈ u_ws RX4 TX4 2, w ∈ wsX3_add := by decide +kernel
  have lk0 := hts (.fieldLink RX3 17 "RateBook$Lists" "made" "I") (by decide +kernel)
  have lk1 := hts (.fieldLink RX3 11 "RateBook$Lists" "byDay" "[LRateBook$RateList;") (by decide +kernel)
  have lk2 := hts (.classLink RX3 9 RX4) (by decide +kernel)
  have lk3 := hts (.instantiable RX4 2) (by decide +kernel)
  have lk4 := hts (.initialized RX4) (by decide +kernel)
  have lk5 := hts (.methodLink RX3 28 yX4_init) (by decide +kernel)
  have lk6 := hts (.instanceMethod yX4_init) (by decide +kernel)
  obtain ⟨hsz, hP⟩ := hP
  have hF0 : Fr s.heap s.heap (fun x => x = li ∨ x = lr) 0 := Fr.rf
  obtain ⟨⟨hA1, hA2⟩, hT⟩ := id hP
  have hl1 := hT.2.1.lt
  have hl2 := hT.2.2.1.lt
  have hlt_0 := (hP.1.1).lt
  have hlt_1 := (hP.1.2).lt
  refine lv_aload_n hx hb dX3_add_0 rfl (lv_at hl 0 rfl) ?_
  refine j_get (ci := 3) (v := .int (J nl)) hx hb hts inX3_ hown hK hP.1.1 rfl 1 (by decide) lk0 (fun _ h9 => h9) rfl dX3_add_1 ?_
  refine lv_istore_n (lv' := [(3, .int (J nl)), (0, .ref li), (1, .int (J d)), (2, .ref tw)]) hx hb dX3_add_4 rfl hl (by decide) rfl (fun ls hl => ?_)
  refine lv_iload_n hx hb dX3_add_5 rfl (lv_at hl 0 rfl) ?_
  refine j_lt0 (tgt := 18) hx hb (by omega) (by omega) dX3_add_6 (by decide) (fun c6 => ?_) (fun c6 => ?_)
  · exact absurd h_nl (by omega)
  · refine lv_iload_n hx hb dX3_add_9 rfl (lv_at hl 0 rfl) ?_
    refine lv_aload_n hx hb dX3_add_10 rfl (lv_at hl 1 rfl) ?_
    refine j_get (ci := 3) (v := .ref lr) hx hb hts inX3_ hown hK hP.1.1 rfl 0 (by decide) lk1 (fun _ h9 => h9) rfl dX3_add_11 ?_
    refine j_alQ (C := RX4) hx hb hK hP.1.2 rfl dX3_add_14 ?_
    refine j_re (y := 10) rfl ?_
    refine j_clt (tgt := 21) hx hb (by omega) (by omega) (by decide) (by decide) dX3_add_15 (by decide) (fun c15 => ?_) (fun c15 => ?_)
    · refine lv_aload_n hx hb dX3_add_21 rfl (lv_at hl 1 rfl) ?_
      refine j_get (ci := 3) (v := .ref lr) hx hb hts inX3_ hown hK hP.1.1 rfl 0 (by decide) lk1 (fun _ h9 => h9) rfl dX3_add_22 ?_
      refine lv_iload_n hx hb dX3_add_25 rfl (lv_at hl 0 rfl) ?_
      refine j_new (ci := 4) (fs := [.int (J 0), .null]) hx hb hts inX4_ tyX4 tyX4_ok hown lk2 lk3 lk4 hK rfl (fun j hj => by rcases (show j = 0 ∨ j = 1 by omega) with rfl | rfl <;> rfl) (Nat.le_of_ble_eq_true rfl) (Nat.le_of_ble_eq_true rfl) dX3_add_26 (fun q_2 H_1 hc_3 hn_4 => ?_)
      have hc_3 : At G H_1 q_2 (eO 4 [.int (J 0), .null]) := hc_3
      have ce_5 : At G H_1 li (eO 3 [.ref lr, .int (J nl)]) := hP.1.1.n hn_4
      have ce_6 : At G H_1 lr (eQ G 5 10 g) := hP.1.2.n hn_4
      obtain rfl : sz = q_2 := by have z1 := hn_4.1; have z2 := hF0.1; omega
      have hF_7 : Fr s.heap H_1 (fun x => x = li ∨ x = lr) 1 := hF0.n hn_4
      refine lv_dup hx hb dX3_add_29 rfl ?_
      refine lv_iload_n hx hb dX3_add_30 rfl (lv_at hl 2 rfl) ?_
      refine lv_aload_n hx hb dX3_add_31 rfl (lv_at hl 3 rfl) ?_
      refine e_I (A := (fun x => (fun x => x = li ∨ x = lr) x ∨ sz ≤ x)) (b := sz) (As := [.int (J d), .ref tw]) (rest := [.ref sz, .int (J nl), .ref lr]) hx hb hml hown hts hK hl.1 (c_X4_init l G sz d tw hs ha ea V (sz + 1) (⟨by omega, by omega, fun i z1 z2 z => by have := (hT.2.2.2 i z1 z2).lt; omega⟩)) (cwI 2 hts gX3_add_X4_init rfl rfl rfl lk4 lk5 lk6 rfl (by decide +kernel) ⟨Nat.le_of_ble_eq_true rfl, Nat.le_of_ble_eq_true rfl⟩) (⟨by have z1 := hF_7.1; omega, ⟨hc_3, hT.f (Hn_fr hn_4) (fun z => by omega) (fun z => by omega) (fun i z1 z2 z => by have := (hT.2.2.2 i z1 z2).lt; omega)⟩⟩) rfl rfl (Nat.le_of_ble_eq_true rfl) dX3_add_32 ⟨Nat.le_of_ble_eq_true rfl, Nat.le_of_ble_eq_true rfl⟩ hL0 (fun x hx => hx.elim (fun z => by rw [z]; exact (Or.inr (by omega))) (fun z => Or.inr (by omega))) (fun H_8 lo_9 hp_10 hL_11 => ?_)
      show W p l e (headSpec wsX3_add rmX3_add).room s m ([.ref li, .int (J d), .ref tw] : List Value).toArray below meth c H_8 lo_9 (1 + 19) (2 + 90) (MQ below (QE (some (.int (J nl)) : Option Value) (fun H H1 => Fr H H1 (fun x => x = li ∨ x = lr) 20 ∧ At G H1 li (eO 3 [.ref lr, .int (J (nl + 1))]) ∧ At G H1 lr (eQ G 5 10 (uf g nl (some sz))) ∧ At G H1 sz (eO 4 [.int (J d), .ref (sz + 1)]) ∧ At G H1 (sz + 1) (eQ G 6 18 (fun j => some (sz + 1 + (1 + j.toNat)))) ∧ ∀ j : Int, 0 ≤ j → j < 18 → At G H1 (sz + 1 + (1 + j.toNat)) (eUn V (j / 6) (j % 6) (-1)))) ([.ref li, .int (J d), .ref tw] : List Value).toArray s 20 92 (fun x => (fun x => x = li ∨ x = lr) x ∨ sz ≤ x)) (F0 m 35 ls [.ref sz, .int (J nl), .ref lr])
      have hf_13 : Fr H_1 H_8 (fun x => x = sz) 19 := hp_10.1
      have hF_12 : Fr s.heap H_8 (fun x => x = li ∨ x = lr) 20 := hF_7.f hf_13 (fun x hx z => by subst z; exact (fun z => absurd z (by omega)) hx)
      have ce_14 : At G H_8 li (eO 3 [.ref lr, .int (J nl)]) := ce_5.f hf_13 (fun z => absurd z (by omega))
      have ce_15 : At G H_8 lr (eQ G 5 10 g) := ce_6.f hf_13 (fun z => absurd z (by omega))
      obtain ⟨-, hrl, hru, hun⟩ := hp_10
      refine j_aast (A := (fun x => (fun x => x = li ∨ x = lr) x ∨ sz ≤ x)) (r := (RX4, TX4, 2)) hx hb hK ce_15 rfl hrl rfl (by omega) (by omega) (by decide) hL_11 (Or.inl (Or.inr rfl)) dX3_add_35 (fun H_16 lo_17 hc_18 hx_19 hL_20 => ?_)
      have hc_18 : At G H_16 lr (eQ G 5 10 (uf g nl (some sz))) := hc_18
      have ce_21 : At G H_16 li (eO 3 [.ref lr, .int (J nl)]) := ce_14.x hx_19 (by first | omega | assumption | (apply Ne.symm; assumption))
      have ce_22 : At G H_16 sz (eO 4 [.int (J d), .ref (sz + 1)]) := hrl.x hx_19 (by first | omega | assumption | (apply Ne.symm; assumption))
      have ce_23 : At G H_16 (sz + 1) (eQ G 6 18 (fun j => some (sz + 1 + (1 + j.toNat)))) := hru.x hx_19 (by first | omega | assumption | (apply Ne.symm; assumption))
      have hun_35 : ∀ j : Int, 0 ≤ j → j < 18 → At G H_16 (sz + 1 + (1 + j.toNat)) (eUn V (j / 6) (j % 6) (-1)) := fun j z1 z2 => (hun j z1 z2).x hx_19 (by omega)
      have hF_24 : Fr s.heap H_16 (fun x => x = li ∨ x = lr) 20 := hF_12.x hx_19 (fun _ => (Or.inr rfl))
      refine lv_aload_n hx hb dX3_add_36 rfl (lv_at hl 1 rfl) ?_
      refine lv_dup hx hb dX3_add_37 rfl ?_
      refine j_get (ci := 3) (v := .int (J nl)) hx hb hts inX3_ hown hK ce_21 rfl 1 (by decide) lk0 (fun _ h9 => h9) rfl dX3_add_38 ?_
      refine j_const hx hb dX3_add_41 ?_
      refine j_add hx hb dX3_add_42 ?_
      refine j_put (ci := 3) (A := (fun x => (fun x => x = li ∨ x = lr) x ∨ sz ≤ x)) (ty := .int) hx hb hts inX3_ tyX3 tyX3_ok nmX3 hown hK ce_21 rfl 1 (by decide) lk0 (fun _ h9 => h9) rfl (by decide +kernel) rfl rfl (Nat.le_of_ble_eq_true rfl) hL_20 (Or.inl (Or.inl rfl)) dX3_add_43 (fun H_25 lo_26 hc_27 hx_28 hL_29 => ?_)
      have hc_27 : At G H_25 li (eO 3 [.ref lr, .int (J (nl + 1))]) := hc_27
      have ce_30 : At G H_25 sz (eO 4 [.int (J d), .ref (sz + 1)]) := ce_22.x hx_28 (by first | omega | assumption | (apply Ne.symm; assumption))
      have ce_31 : At G H_25 (sz + 1) (eQ G 6 18 (fun j => some (sz + 1 + (1 + j.toNat)))) := ce_23.x hx_28 (by first | omega | assumption | (apply Ne.symm; assumption))
      have ce_32 : At G H_25 lr (eQ G 5 10 (uf g nl (some sz))) := hc_18.x hx_28 (by first | omega | assumption | (apply Ne.symm; assumption))
      have hun_43 : ∀ j : Int, 0 ≤ j → j < 18 → At G H_25 (sz + 1 + (1 + j.toNat)) (eUn V (j / 6) (j % 6) (-1)) := fun j z1 z2 => (hun_35 j z1 z2).x hx_28 (by omega)
      have hF_33 : Fr s.heap H_25 (fun x => x = li ∨ x = lr) 20 := hF_24.x hx_28 (fun _ => (Or.inl rfl))
      refine lv_iload_n hx hb dX3_add_46 rfl (lv_at hl 0 rfl) ?_
      exact r_iE hx hb hr hlk (Nat.le_of_ble_eq_true rfl) (Nat.le_of_ble_eq_true rfl) (congrArg (fun z => some (Value.int (J z))) (show (nl : Int) = nl from rfl)) hL_29 (⟨hF_33, hc_27, ce_32, ce_30, ce_31, hun_43⟩) dX3_add_47
    · exact absurd h_nl (by omega)

abbrev rmX5_add : Room := { frames := 3, cells := 3, slots := 21, locals := 58 }
set_option maxHeartbeats 4000000 in
set_option maxRecDepth 100000 in
theorem c_X5_add (l : Launch) (G : GG) (tw hs : Nat) (g : Int → Option Nat) (n w_ k t z r : Int) (sz : Nat) (h_n : 0 ≤ n ∧ n < 40) (hd : tw ≠ hs) : ME l G yX5_add wsX5_add rmX5_add [.ref tw, .int (J w_), .int (J k), .int (J t), .int (J z), .int (J r)] (fun H => H.size = sz ∧ (At G H tw (eO 5 [.ref hs, .int (J n)]) ∧ At G H hs (eQ G 4 40 g))) (some (.int (J n)) : Option Value) (fun x => (fun x => x = tw ∨ x = hs) x ∨ sz ≤ x) (fun H H1 => Fr H H1 (fun x => x = tw ∨ x = hs) 3 ∧ At G H1 tw (eO 5 [.ref hs, .int (J (n + 1))]) ∧ At G H1 hs (eQ G 4 40 (uf g n (some sz))) ∧ At G H1 sz (eO 2 [.int (J n), .int (J w_), .int (J k), .int (J t), .int (J z), .ref (sz + 1), .int (J r)]) ∧ At G H1 (sz + 1) (eO 1 [.ref (sz + 1 + 1), .int (J 0)]) ∧ At G H1 (sz + 1 + 1) (eQ G 3 12 (fun _ => none))) 3 21 := by
  refine ME.of (cc := cX5_add) (maxL := 7) (ret := (some .int)) (by decide) rfl (Nat.le_of_ble_eq_true rfl) ?_
  intro p e s m below meth c hx hb hr hml hown hts hlk hin hK hP ls hl
  have hL0 : ∀ z9 ∈ ([] : List Loc), (fun x => (fun x => x = tw ∨ x = hs) x ∨ sz ≤ x) z9.base := fun z9 h => absurd h List.not_mem_nil
  have hown : s.vm.findClass RX5 = some m.cls := hown
  have hl : lv_has ls 7 [(0, .ref tw), (1, .int (J w_)), (2, .int (J k)), (3, .int (J t)), (4, .int (J z)), (5, .int (J r))] := hl
  have inX2_ : ∀ w ∈ u_ws RX2 TX2 7, w ∈ wsX5_add := by decide +kernel
  have inX5_ : ∀ w ∈ u_ws RX5 TX5 2, w ∈ wsX5_add := by decide +kernel
  have lk0 := hts (.fieldLink RX5 17 "RateBook$Town" "size" "I") (by decide +kernel)
  have lk1 := hts (.fieldLink RX5 11 "RateBook$Town" "houses" "[LRateBook$House;") (by decide +kernel)
  have lk2 := hts (.classLink RX5 9 RX2) (by decide +kernel)
  have lk3 := hts (.instantiable RX2 7) (by decide +kernel)
  have lk4 := hts (.initialized RX2) (by decide +kernel)
  have lk5 := hts (.methodLink RX5 21 yX2_init) (by decide +kernel)
  have lk6 := hts (.instanceMethod yX2_init) (by decide +kernel)
  obtain ⟨hsz, hP⟩ := hP
  have hF0 : Fr s.heap s.heap (fun x => x = tw ∨ x = hs) 0 := Fr.rf
  have hlt_0 := (hP.1).lt
  have hlt_1 := (hP.2).lt
  refine lv_aload_n hx hb dX5_add_0 rfl (lv_at hl 0 rfl) ?_
  refine j_get (ci := 5) (v := .int (J n)) hx hb hts inX5_ hown hK hP.1 rfl 1 (by decide) lk0 (fun _ h9 => h9) rfl dX5_add_1 ?_
  refine lv_istore (lv' := [(6, .int (J n)), (0, .ref tw), (1, .int (J w_)), (2, .int (J k)), (3, .int (J t)), (4, .int (J z)), (5, .int (J r))]) hx hb dX5_add_4 hl (by decide) rfl (fun ls hl => ?_)
  refine lv_iload hx hb dX5_add_6 (lv_at hl 0 rfl) ?_
  refine j_lt0 (tgt := 21) hx hb (by omega) (by omega) dX5_add_8 (by decide) (fun c8 => ?_) (fun c8 => ?_)
  · exact absurd h_n (by omega)
  · refine lv_iload hx hb dX5_add_11 (lv_at hl 0 rfl) ?_
    refine lv_aload_n hx hb dX5_add_13 rfl (lv_at hl 1 rfl) ?_
    refine j_get (ci := 5) (v := .ref hs) hx hb hts inX5_ hown hK hP.1 rfl 0 (by decide) lk1 (fun _ h9 => h9) rfl dX5_add_14 ?_
    refine j_alQ (C := RX2) hx hb hK hP.2 rfl dX5_add_17 ?_
    refine j_re (y := 40) rfl ?_
    refine j_clt (tgt := 24) hx hb (by omega) (by omega) (by decide) (by decide) dX5_add_18 (by decide) (fun c18 => ?_) (fun c18 => ?_)
    · refine lv_aload_n hx hb dX5_add_24 rfl (lv_at hl 1 rfl) ?_
      refine j_get (ci := 5) (v := .ref hs) hx hb hts inX5_ hown hK hP.1 rfl 0 (by decide) lk1 (fun _ h9 => h9) rfl dX5_add_25 ?_
      refine lv_iload hx hb dX5_add_28 (lv_at hl 0 rfl) ?_
      refine j_new (ci := 2) (fs := [.int (J 0), .int (J 0), .int (J 0), .int (J 0), .int (J 0), .null, .int (J 0)]) hx hb hts inX2_ tyX2 tyX2_ok hown lk2 lk3 lk4 hK rfl (fun j hj => by rcases (show j = 0 ∨ j = 1 ∨ j = 2 ∨ j = 3 ∨ j = 4 ∨ j = 5 ∨ j = 6 by omega) with rfl | rfl | rfl | rfl | rfl | rfl | rfl <;> rfl) (Nat.le_of_ble_eq_true rfl) (Nat.le_of_ble_eq_true rfl) dX5_add_30 (fun q_2 H_1 hc_3 hn_4 => ?_)
      have hc_3 : At G H_1 q_2 (eO 2 [.int (J 0), .int (J 0), .int (J 0), .int (J 0), .int (J 0), .null, .int (J 0)]) := hc_3
      have ce_5 : At G H_1 tw (eO 5 [.ref hs, .int (J n)]) := hP.1.n hn_4
      have ce_6 : At G H_1 hs (eQ G 4 40 g) := hP.2.n hn_4
      obtain rfl : sz = q_2 := by have z1 := hn_4.1; have z2 := hF0.1; omega
      have hF_7 : Fr s.heap H_1 (fun x => x = tw ∨ x = hs) 1 := hF0.n hn_4
      refine lv_dup hx hb dX5_add_33 rfl ?_
      refine lv_iload hx hb dX5_add_34 (lv_at hl 0 rfl) ?_
      refine lv_iload_n hx hb dX5_add_36 rfl (lv_at hl 2 rfl) ?_
      refine lv_iload_n hx hb dX5_add_37 rfl (lv_at hl 3 rfl) ?_
      refine lv_iload_n hx hb dX5_add_38 rfl (lv_at hl 4 rfl) ?_
      refine lv_iload hx hb dX5_add_39 (lv_at hl 5 rfl) ?_
      refine lv_iload hx hb dX5_add_41 (lv_at hl 6 rfl) ?_
      refine e_I (A := (fun x => (fun x => x = tw ∨ x = hs) x ∨ sz ≤ x)) (b := sz) (As := [.int (J n), .int (J w_), .int (J k), .int (J t), .int (J z), .int (J r)]) (rest := [.ref sz, .int (J n), .ref hs]) hx hb hml hown hts hK hl.1 (c_X2_init l G sz n w_ k t z r (sz + 1)) (cwI 6 hts gX5_add_X2_init rfl rfl rfl lk4 lk5 lk6 rfl (by decide +kernel) ⟨Nat.le_of_ble_eq_true rfl, Nat.le_of_ble_eq_true rfl⟩) (⟨by have z1 := hF_7.1; omega, hc_3⟩) rfl rfl (Nat.le_of_ble_eq_true rfl) dX5_add_43 ⟨Nat.le_of_ble_eq_true rfl, Nat.le_of_ble_eq_true rfl⟩ hL0 (fun x hx => hx.elim (fun z => by rw [z]; exact (Or.inr (by omega))) (fun z => Or.inr (by omega))) (fun H_8 lo_9 hp_10 hL_11 => ?_)
      show W p l e (headSpec wsX5_add rmX5_add).room s m ([.ref tw, .int (J w_), .int (J k), .int (J t), .int (J z), .int (J r)] : List Value).toArray below meth c H_8 lo_9 (1 + 2) (7 + 14) (MQ below (QE (some (.int (J n)) : Option Value) (fun H H1 => Fr H H1 (fun x => x = tw ∨ x = hs) 3 ∧ At G H1 tw (eO 5 [.ref hs, .int (J (n + 1))]) ∧ At G H1 hs (eQ G 4 40 (uf g n (some sz))) ∧ At G H1 sz (eO 2 [.int (J n), .int (J w_), .int (J k), .int (J t), .int (J z), .ref (sz + 1), .int (J r)]) ∧ At G H1 (sz + 1) (eO 1 [.ref (sz + 1 + 1), .int (J 0)]) ∧ At G H1 (sz + 1 + 1) (eQ G 3 12 (fun _ => none)))) ([.ref tw, .int (J w_), .int (J k), .int (J t), .int (J z), .int (J r)] : List Value).toArray s 3 21 (fun x => (fun x => x = tw ∨ x = hs) x ∨ sz ≤ x)) (F0 m 46 ls [.ref sz, .int (J n), .ref hs])
      have hf_13 : Fr H_1 H_8 (fun x => x = sz) 2 := hp_10.1
      have hF_12 : Fr s.heap H_8 (fun x => x = tw ∨ x = hs) 3 := hF_7.f hf_13 (fun x hx z => by subst z; exact (fun z => absurd z (by omega)) hx)
      have ce_14 : At G H_8 tw (eO 5 [.ref hs, .int (J n)]) := ce_5.f hf_13 (fun z => absurd z (by omega))
      have ce_15 : At G H_8 hs (eQ G 4 40 g) := ce_6.f hf_13 (fun z => absurd z (by omega))
      obtain ⟨-, hho, hev, hea⟩ := hp_10
      refine j_aast (A := (fun x => (fun x => x = tw ∨ x = hs) x ∨ sz ≤ x)) (r := (RX2, TX2, 7)) hx hb hK ce_15 rfl hho rfl (by omega) (by omega) (by decide) hL_11 (Or.inl (Or.inr rfl)) dX5_add_46 (fun H_16 lo_17 hc_18 hx_19 hL_20 => ?_)
      have hc_18 : At G H_16 hs (eQ G 4 40 (uf g n (some sz))) := hc_18
      have ce_21 : At G H_16 tw (eO 5 [.ref hs, .int (J n)]) := ce_14.x hx_19 (by first | omega | assumption | (apply Ne.symm; assumption))
      have ce_22 : At G H_16 sz (eO 2 [.int (J n), .int (J w_), .int (J k), .int (J t), .int (J z), .ref (sz + 1), .int (J r)]) := hho.x hx_19 (by first | omega | assumption | (apply Ne.symm; assumption))
      have ce_23 : At G H_16 (sz + 1) (eO 1 [.ref (sz + 1 + 1), .int (J 0)]) := hev.x hx_19 (by first | omega | assumption | (apply Ne.symm; assumption))
      have ce_24 : At G H_16 (sz + 1 + 1) (eQ G 3 12 (fun _ => none)) := hea.x hx_19 (by first | omega | assumption | (apply Ne.symm; assumption))
      have hF_25 : Fr s.heap H_16 (fun x => x = tw ∨ x = hs) 3 := hF_12.x hx_19 (fun _ => (Or.inr rfl))
      refine lv_aload_n hx hb dX5_add_47 rfl (lv_at hl 1 rfl) ?_
      refine lv_dup hx hb dX5_add_48 rfl ?_
      refine j_get (ci := 5) (v := .int (J n)) hx hb hts inX5_ hown hK ce_21 rfl 1 (by decide) lk0 (fun _ h9 => h9) rfl dX5_add_49 ?_
      refine j_const hx hb dX5_add_52 ?_
      refine j_add hx hb dX5_add_53 ?_
      refine j_put (ci := 5) (A := (fun x => (fun x => x = tw ∨ x = hs) x ∨ sz ≤ x)) (ty := .int) hx hb hts inX5_ tyX5 tyX5_ok nmX5 hown hK ce_21 rfl 1 (by decide) lk0 (fun _ h9 => h9) rfl (by decide +kernel) rfl rfl (Nat.le_of_ble_eq_true rfl) hL_20 (Or.inl (Or.inl rfl)) dX5_add_54 (fun H_26 lo_27 hc_28 hx_29 hL_30 => ?_)
      have hc_28 : At G H_26 tw (eO 5 [.ref hs, .int (J (n + 1))]) := hc_28
      have ce_31 : At G H_26 sz (eO 2 [.int (J n), .int (J w_), .int (J k), .int (J t), .int (J z), .ref (sz + 1), .int (J r)]) := ce_22.x hx_29 (by first | omega | assumption | (apply Ne.symm; assumption))
      have ce_32 : At G H_26 (sz + 1) (eO 1 [.ref (sz + 1 + 1), .int (J 0)]) := ce_23.x hx_29 (by first | omega | assumption | (apply Ne.symm; assumption))
      have ce_33 : At G H_26 (sz + 1 + 1) (eQ G 3 12 (fun _ => none)) := ce_24.x hx_29 (by first | omega | assumption | (apply Ne.symm; assumption))
      have ce_34 : At G H_26 hs (eQ G 4 40 (uf g n (some sz))) := hc_18.x hx_29 (by first | omega | assumption | (apply Ne.symm; assumption))
      have hF_35 : Fr s.heap H_26 (fun x => x = tw ∨ x = hs) 3 := hF_25.x hx_29 (fun _ => (Or.inl rfl))
      refine lv_iload hx hb dX5_add_57 (lv_at hl 0 rfl) ?_
      exact r_iE hx hb hr hlk (Nat.le_of_ble_eq_true rfl) (Nat.le_of_ble_eq_true rfl) (congrArg (fun z => some (Value.int (J z))) (show (n : Int) = n from rfl)) hL_30 (⟨hF_35, hc_28, ce_34, ce_31, ce_32, ce_33⟩) dX5_add_59
    · exact absurd h_n (by omega)

abbrev rmX5_addF : Room := { frames := 0, cells := 0, slots := 0, locals := 0 }
set_option maxHeartbeats 4000000 in
set_option maxRecDepth 100000 in
theorem c_X5_addF (l : Launch) (G : GG) (tw hs : Nat) (g : Int → Option Nat) (n w_ k t z r : Int) (h_n : n = 40) : MP l G yX5_add wsX5_add rmX5_addF [.ref tw, .int (J w_), .int (J k), .int (J t), .int (J z), .int (J r)] (fun H => At G H tw (eO 5 [.ref hs, .int (J n)]) ∧ At G H hs (eQ G 4 40 g)) (.int (J (-3)) : Value) := by
  refine MP.of (cc := cX5_add) (maxL := 7) (ret := (some .int)) (by decide) rfl (Nat.le_of_ble_eq_true rfl) ?_
  intro p e s m below meth c hx hb hr hml hown hts hlk hK hP ls hl
  have hown : s.vm.findClass RX5 = some m.cls := hown
  have hl : lv_has ls 7 [(0, .ref tw), (1, .int (J w_)), (2, .int (J k)), (3, .int (J t)), (4, .int (J z)), (5, .int (J r))] := hl
  have inX5_ : ∀ w ∈ u_ws RX5 TX5 2, w ∈ wsX5_add := by decide +kernel
  have lk0 := hts (.fieldLink RX5 17 "RateBook$Town" "size" "I") (by decide +kernel)
  have lk1 := hts (.fieldLink RX5 11 "RateBook$Town" "houses" "[LRateBook$House;") (by decide +kernel)
  refine lv_aload_n hx hb dX5_add_0 rfl (lv_at hl 0 rfl) ?_
  refine j_get (ci := 5) (v := .int (J n)) hx hb hts inX5_ hown hK hP.1 rfl 1 (by decide) lk0 (fun _ h9 => h9) rfl dX5_add_1 ?_
  refine lv_istore (lv' := [(6, .int (J n)), (0, .ref tw), (1, .int (J w_)), (2, .int (J k)), (3, .int (J t)), (4, .int (J z)), (5, .int (J r))]) hx hb dX5_add_4 hl (by decide) rfl (fun ls hl => ?_)
  refine lv_iload hx hb dX5_add_6 (lv_at hl 0 rfl) ?_
  refine j_lt0 (tgt := 21) hx hb (by omega) (by omega) dX5_add_8 (by decide) (fun c8 => ?_) (fun c8 => ?_)
  · refine j_bi hx hb dX5_add_21 (by decide +kernel) ?_
    exact r_i hx hb hr hlk (congrArg (fun z => Value.int (J z)) (show ((-3) : Int) = (-3) from rfl)) dX5_add_23
  · refine lv_iload hx hb dX5_add_11 (lv_at hl 0 rfl) ?_
    refine lv_aload_n hx hb dX5_add_13 rfl (lv_at hl 1 rfl) ?_
    refine j_get (ci := 5) (v := .ref hs) hx hb hts inX5_ hown hK hP.1 rfl 0 (by decide) lk1 (fun _ h9 => h9) rfl dX5_add_14 ?_
    refine j_alQ (C := RX2) hx hb hK hP.2 rfl dX5_add_17 ?_
    refine j_re (y := 40) rfl ?_
    refine j_clt (tgt := 24) hx hb (by omega) (by omega) (by decide) (by decide) dX5_add_18 (by decide) (fun c18 => ?_) (fun c18 => ?_)
    · exact absurd h_n (by omega)
    · refine j_bi hx hb dX5_add_21 (by decide +kernel) ?_
      exact r_i hx hb hr hlk (congrArg (fun z => Value.int (J z)) (show ((-3) : Int) = (-3) from rfl)) dX5_add_23

abbrev rmX1_add : Room := { frames := 2, cells := 1, slots := 4, locals := 36 }
set_option maxHeartbeats 4000000 in
set_option maxRecDepth 100000 in
theorem c_X1_add (l : Launch) (G : GG) (q b : Nat) (L : List EvT) (d k v : Int) (sz : Nat) (h_L : L.length < 12) (h_d : 0 ≤ d ∧ d ≤ 3649) (h_k : (k = 0 ∧ 1 ≤ v ∧ v ≤ 500) ∨ (k = 1 ∧ 0 ≤ v ∧ v ≤ 3) ∨ (k = 2 ∧ 1 ≤ v ∧ v ≤ 900)) (hd : q ≠ b ∧ ∀ e ∈ L, eAd e ≠ q ∧ eAd e ≠ b) : ME l G yX1_add wsX1_add rmX1_add [.ref q, .int (J d), .int (J k), .int (J v)] (fun H => H.size = sz ∧ (Evs G H q b L)) (none : Option Value) (fun x => (fun x => x = q ∨ x = b) x ∨ sz ≤ x) (fun H H1 => Fr H H1 (fun x => x = q ∨ x = b) 1 ∧ Evs G H1 q b (insL L (sz, (L.length : Int), d, k, v))) 1 4 := by
  refine ME.of (cc := cX1_add) (maxL := 6) (ret := none) (by decide) rfl (Nat.le_of_ble_eq_true rfl) ?_
  intro p e s m below meth c hx hb hr hml hown hts hlk hin hK hP ls hl
  have hL0 : ∀ z9 ∈ ([] : List Loc), (fun x => (fun x => x = q ∨ x = b) x ∨ sz ≤ x) z9.base := fun z9 h => absurd h List.not_mem_nil
  have hown : s.vm.findClass RX1 = some m.cls := hown
  have hl : lv_has ls 6 [(0, .ref q), (1, .int (J d)), (2, .int (J k)), (3, .int (J v))] := hl
  have inX0_ : ∀ w ∈ u_ws RX0 TX0 4, w ∈ wsX1_add := by decide +kernel
  have inX1_ : ∀ w ∈ u_ws RX1 TX1 2, w ∈ wsX1_add := by decide +kernel
  have lk0 := hts (.fieldLink RX1 17 "RateBook$Events" "told" "I") (by decide +kernel)
  have lk1 := hts (.fieldLink RX1 11 "RateBook$Events" "byDay" "[LRateBook$Event;") (by decide +kernel)
  have lk2 := hts (.classLink RX1 9 RX0) (by decide +kernel)
  have lk3 := hts (.instantiable RX0 4) (by decide +kernel)
  have lk4 := hts (.initialized RX0) (by decide +kernel)
  have lk5 := hts (.methodLink RX1 24 yX0_init) (by decide +kernel)
  have lk6 := hts (.instanceMethod yX0_init) (by decide +kernel)
  have lk7 := hts (.fieldLink RX1 21 "RateBook$Event" "day" "I") (by decide +kernel)
  obtain ⟨hsz, hP⟩ := hP
  have hF0 : Fr s.heap s.heap (fun x => x = q ∨ x = b) 0 := Fr.rf
  obtain ⟨hE1, hE2, hE3, hE4, hE5⟩ := (show Evs G s.heap q b L from hP)
  have hlt_0 := (hP.1).lt
  have hlt_1 := (hP.2.1).lt
  refine lv_aload_n hx hb dX1_add_0 rfl (lv_at hl 0 rfl) ?_
  refine j_get (ci := 1) (v := .int (J (L.length : Int))) hx hb hts inX1_ hown hK hP.1 rfl 1 (by decide) lk0 (fun _ h9 => h9) rfl dX1_add_1 ?_
  refine j_lt0 (tgt := 19) hx hb (by omega) (by omega) dX1_add_4 (by decide) (fun c4 => ?_) (fun c4 => ?_)
  · exact absurd h_L (by omega)
  · refine lv_aload_n hx hb dX1_add_7 rfl (lv_at hl 0 rfl) ?_
    refine j_get (ci := 1) (v := .int (J (L.length : Int))) hx hb hts inX1_ hown hK hP.1 rfl 1 (by decide) lk0 (fun _ h9 => h9) rfl dX1_add_8 ?_
    refine lv_aload_n hx hb dX1_add_11 rfl (lv_at hl 0 rfl) ?_
    refine j_get (ci := 1) (v := .ref b) hx hb hts inX1_ hown hK hP.1 rfl 0 (by decide) lk1 (fun _ h9 => h9) rfl dX1_add_12 ?_
    refine j_alQ (C := RX0) hx hb hK hP.2.1 rfl dX1_add_15 ?_
    refine j_re (y := 12) rfl ?_
    refine j_clt (tgt := 20) hx hb (by omega) (by omega) (by decide) (by decide) dX1_add_16 (by decide) (fun c16 => ?_) (fun c16 => ?_)
    · refine lv_aload_n hx hb dX1_add_20 rfl (lv_at hl 0 rfl) ?_
      refine j_get (ci := 1) (v := .int (J (L.length : Int))) hx hb hts inX1_ hown hK hP.1 rfl 1 (by decide) lk0 (fun _ h9 => h9) rfl dX1_add_21 ?_
      refine lv_istore (lv' := [(4, .int (J (L.length : Int))), (0, .ref q), (1, .int (J d)), (2, .int (J k)), (3, .int (J v))]) hx hb dX1_add_24 hl (by decide) rfl (fun ls hl => ?_)
      have lp26 : ∀ (n : Nat) (z : Int) (g : Int → Option Nat) (H26 : Heap) (lo26 : List Loc) (hL26 : ∀ z9 ∈ lo26, (fun x => (fun x => x = q ∨ x = b) x ∨ sz ≤ x) z9.base) (i0 : 0 ≤ z ∧ z ≤ (L.length : Int)) (ip : ipos L d L.length = ipos L d z.toNat) (g1 : ∀ j, 0 ≤ j → j < z → g j = qL L j) (g2 : ∀ j, z < j → j ≤ (L.length : Int) → g j = qL L (j - 1)) (g3 : ∀ j, (L.length : Int) < j → g j = none) (hFl : Fr s.heap H26 (fun x => x = q ∨ x = b) 0) (lq : At G H26 q (eO 1 [.ref b, .int (J (L.length : Int))])) (lb : At G H26 b (eQ G 3 12 g)) (les : ∀ e ∈ L, At G H26 (eAd e) (eEv e)) (hm : z < (n : Int)) (ls : Array Slot) (hl : lv_has ls 6 [(4, .int (J z)), (0, .ref q), (1, .int (J d)), (2, .int (J k)), (3, .int (J v))]), W p l e (headSpec wsX1_add rmX1_add).room s m ([.ref q, .int (J d), .int (J k), .int (J v)] : List Value).toArray below meth c H26 lo26 0 0 (MQ below (QE (none : Option Value) (fun H H1 => Fr H H1 (fun x => x = q ∨ x = b) 1 ∧ Evs G H1 q b (insL L (sz, (L.length : Int), d, k, v)))) ([.ref q, .int (J d), .int (J k), .int (J v)] : List Value).toArray s 1 4 (fun x => (fun x => x = q ∨ x = b) x ∨ sz ≤ x)) (F0 m 26 ls []) := by
        intro n
        induction n with
        | zero =>
          intro z g H26 lo26 hL26 i0 ip g1 g2 g3 hFl lq lb les hm ls hl
          exact absurd hm (by omega)
        | succ n ih26 =>
          intro z g H26 lo26 hL26 i0 ip g1 g2 g3 hFl lq lb les hm ls hl
          refine lv_iload hx hb dX1_add_26 (lv_at hl 0 rfl) ?_
          refine j_le0 (tgt := 74) hx hb (by omega) (by omega) dX1_add_28 (by decide) (fun c28 => ?_) (fun c28 => ?_)
          · have hp : ipos L d L.length = z.toNat := ip.trans (by rw [show z.toNat = 0 by omega]; rfl)
            refine lv_aload_n hx hb dX1_add_74 rfl (lv_at hl 1 rfl) ?_
            refine j_get (ci := 1) (v := .ref b) hx hb hts inX1_ hown hK lq rfl 0 (by decide) lk1 (fun _ h9 => h9) rfl dX1_add_75 ?_
            refine lv_iload hx hb dX1_add_78 (lv_at hl 0 rfl) ?_
            refine j_new (ci := 0) (fs := [.int (J 0), .int (J 0), .int (J 0), .int (J 0)]) hx hb hts inX0_ tyX0 tyX0_ok hown lk2 lk3 lk4 hK rfl (fun j hj => by rcases (show j = 0 ∨ j = 1 ∨ j = 2 ∨ j = 3 by omega) with rfl | rfl | rfl | rfl <;> rfl) (Nat.le_of_ble_eq_true rfl) (Nat.le_of_ble_eq_true rfl) dX1_add_80 (fun q_2 H_1 hc_3 hn_4 => ?_)
            have hc_3 : At G H_1 q_2 (eO 0 [.int (J 0), .int (J 0), .int (J 0), .int (J 0)]) := hc_3
            have ce_5 : At G H_1 q (eO 1 [.ref b, .int (J (L.length : Int))]) := lq.n hn_4
            have ce_6 : At G H_1 b (eQ G 3 12 g) := lb.n hn_4
            have hes_m : ∀ e ∈ L, At G H_1 (eAd e) (eEv e) := fun e z => (les e z).n hn_4
            obtain rfl : sz = q_2 := by have z1 := hn_4.1; have z2 := hFl.1; omega
            have hF_7 : Fr s.heap H_1 (fun x => x = q ∨ x = b) 1 := hFl.n hn_4
            refine lv_dup hx hb dX1_add_83 rfl ?_
            refine lv_aload_n hx hb dX1_add_84 rfl (lv_at hl 1 rfl) ?_
            refine j_get (ci := 1) (v := .int (J (L.length : Int))) hx hb hts inX1_ hown hK ce_5 rfl 1 (by decide) lk0 (fun _ h9 => h9) rfl dX1_add_85 ?_
            refine lv_iload_n hx hb dX1_add_88 rfl (lv_at hl 2 rfl) ?_
            refine lv_iload_n hx hb dX1_add_89 rfl (lv_at hl 3 rfl) ?_
            refine lv_iload_n hx hb dX1_add_90 rfl (lv_at hl 4 rfl) ?_
            refine e_I (A := (fun x => (fun x => x = q ∨ x = b) x ∨ sz ≤ x)) (b := sz) (As := [.int (J (L.length : Int)), .int (J d), .int (J k), .int (J v)]) (rest := [.ref sz, .int (J z), .ref b]) hx hb hml hown hts hK hl.1 (c_X0_init l G sz (L.length : Int) d k v (sz + 1)) (cwI 4 hts gX1_add_X0_init rfl rfl rfl lk4 lk5 lk6 rfl (by decide +kernel) ⟨Nat.le_of_ble_eq_true rfl, Nat.le_of_ble_eq_true rfl⟩) (⟨by have z1 := hF_7.1; omega, hc_3⟩) rfl rfl (Nat.le_of_ble_eq_true rfl) dX1_add_91 ⟨Nat.le_of_ble_eq_true rfl, Nat.le_of_ble_eq_true rfl⟩ hL26 (fun x hx => hx.elim (fun z => by rw [z]; exact (Or.inr (by omega))) (fun z => Or.inr (by omega))) (fun H_8 lo_9 hp_10 hL_11 => ?_)
            show W p l e (headSpec wsX1_add rmX1_add).room s m ([.ref q, .int (J d), .int (J k), .int (J v)] : List Value).toArray below meth c H_8 lo_9 (1 + 0) (4 + 0) (MQ below (QE (none : Option Value) (fun H H1 => Fr H H1 (fun x => x = q ∨ x = b) 1 ∧ Evs G H1 q b (insL L (sz, (L.length : Int), d, k, v)))) ([.ref q, .int (J d), .int (J k), .int (J v)] : List Value).toArray s 1 4 (fun x => (fun x => x = q ∨ x = b) x ∨ sz ≤ x)) (F0 m 94 ls [.ref sz, .int (J z), .ref b])
            have hf_13 : Fr H_1 H_8 (fun x => x = sz) 0 := hp_10.1
            have hF_12 : Fr s.heap H_8 (fun x => x = q ∨ x = b) 1 := hF_7.f hf_13 (fun x hx z => by subst z; exact (fun z => absurd z (by omega)) hx)
            have ce_14 : At G H_8 q (eO 1 [.ref b, .int (J (L.length : Int))]) := ce_5.f hf_13 (fun z => absurd z (by omega))
            have ce_15 : At G H_8 b (eQ G 3 12 g) := ce_6.f hf_13 (fun z => absurd z (by omega))
            have hnw := hp_10.2
            have hes_n : ∀ e ∈ L, At G H_8 (eAd e) (eEv e) := fun e z => (hes_m e z).f hp_10.1 (fun y => by have := (hE4 e z).lt; omega)
            refine j_aast (A := (fun x => (fun x => x = q ∨ x = b) x ∨ sz ≤ x)) (r := (RX0, TX0, 4)) hx hb hK ce_15 rfl hnw rfl (by omega) (by omega) (by decide) hL_11 (Or.inl (Or.inr rfl)) dX1_add_94 (fun H_16 lo_17 hc_18 hx_19 hL_20 => ?_)
            have hc_18 : At G H_16 b (eQ G 3 12 (uf g z (some sz))) := hc_18
            have ce_21 : At G H_16 q (eO 1 [.ref b, .int (J (L.length : Int))]) := ce_14.x hx_19 (by first | omega | assumption | (apply Ne.symm; assumption))
            have ce_22 : At G H_16 sz (eO 0 [.int (J (L.length : Int)), .int (J d), .int (J k), .int (J v)]) := hnw.x hx_19 (by first | omega | assumption | (apply Ne.symm; assumption))
            have hes_23 : ∀ e ∈ L, At G H_16 (eAd e) (eEv e) := fun e z => (hes_n e z).x hx_19 (hd.2 e z |>.2)
            have hF_24 : Fr s.heap H_16 (fun x => x = q ∨ x = b) 1 := hF_12.x hx_19 (fun _ => (Or.inr rfl))
            refine lv_aload_n hx hb dX1_add_95 rfl (lv_at hl 1 rfl) ?_
            refine lv_dup hx hb dX1_add_96 rfl ?_
            refine j_get (ci := 1) (v := .int (J (L.length : Int))) hx hb hts inX1_ hown hK ce_21 rfl 1 (by decide) lk0 (fun _ h9 => h9) rfl dX1_add_97 ?_
            refine j_const hx hb dX1_add_100 ?_
            refine j_add hx hb dX1_add_101 ?_
            refine j_put (ci := 1) (A := (fun x => (fun x => x = q ∨ x = b) x ∨ sz ≤ x)) (ty := .int) hx hb hts inX1_ tyX1 tyX1_ok nmX1 hown hK ce_21 rfl 1 (by decide) lk0 (fun _ h9 => h9) rfl (by decide +kernel) rfl rfl (Nat.le_of_ble_eq_true rfl) hL_20 (Or.inl (Or.inl rfl)) dX1_add_102 (fun H_25 lo_26 hc_27 hx_28 hL_29 => ?_)
            have hc_27 : At G H_25 q (eO 1 [.ref b, .int (J ((L.length : Int) + 1))]) := hc_27
            have ce_30 : At G H_25 sz (eO 0 [.int (J (L.length : Int)), .int (J d), .int (J k), .int (J v)]) := ce_22.x hx_28 (by first | omega | assumption | (apply Ne.symm; assumption))
            have ce_31 : At G H_25 b (eQ G 3 12 (uf g z (some sz))) := hc_18.x hx_28 (by first | omega | assumption | (apply Ne.symm; assumption))
            have hes_32 : ∀ e ∈ L, At G H_25 (eAd e) (eEv e) := fun e z => (hes_23 e z).x hx_28 (hd.2 e z |>.1)
            have hF_33 : Fr s.heap H_25 (fun x => x = q ∨ x = b) 1 := hF_24.x hx_28 (fun _ => (Or.inl rfl))
            exact r_vE hx hb hr hlk (Nat.le_of_ble_eq_true rfl) (Nat.le_of_ble_eq_true rfl) rfl hL_29 (⟨hF_33, ev_in (e := (sz, (L.length : Int), d, k, v)) hc_27 (eQ_congr (fun j h1 h2 => ins_row (e := (sz, (L.length : Int), d, k, v)) i0.1 i0.2 hp g1 g2 g3 j h1) ce_31) h_L hes_32 ce_30 hE5 ⟨⟨by show (0 : Int) ≤ (L.length : Int); omega, by show (L.length : Int) < 12; omega⟩, h_d, h_k⟩⟩) dX1_add_105
          · refine lv_aload_n hx hb dX1_add_31 rfl (lv_at hl 1 rfl) ?_
            refine j_get (ci := 1) (v := .ref b) hx hb hts inX1_ hown hK lq rfl 0 (by decide) lk1 (fun _ h9 => h9) rfl dX1_add_32 ?_
            refine lv_iload hx hb dX1_add_35 (lv_at hl 0 rfl) ?_
            refine j_const hx hb dX1_add_37 ?_
            refine j_sub hx hb dX1_add_38 ?_
            refine j_aald (C := RX0) hx hb hK lb rfl (by omega) (by omega) (by decide) dX1_add_39 ?_
            obtain ⟨ev, spE⟩ : ∃ e, L[(z - 1).toNat]? = some e := qL_at (by omega) (by omega)
            refine j_qs (b := eAd ev) ((g1 (z - 1) (by omega) (by omega)).trans (qL_s (by omega) spE)) ?_
            have hme : ev ∈ L := List.mem_of_getElem? spE
            have hce : At G H26 (eAd ev) (eO 0 [.int (J (eNo ev)), .int (J (eDy ev)), .int (J (eKi ev)), .int (J (eVa ev))]) := les ev hme
            obtain ⟨ok1, ok2, ok3⟩ := hE5 ev hme
            have hde := hd.2 ev hme
            have hle := (hE4 ev hme).lt
            refine lv_astore (lv' := [(5, .ref (eAd ev)), (4, .int (J z)), (0, .ref q), (1, .int (J d)), (2, .int (J k)), (3, .int (J v))]) hx hb dX1_add_40 hl (by decide) rfl (fun ls hl => ?_)
            refine lv_aload hx hb dX1_add_42 (lv_at hl 0 rfl) ?_
            refine lv_ifnull hx hb dX1_add_44 ?_
            refine lv_aload hx hb dX1_add_47 (lv_at hl 0 rfl) ?_
            refine j_get (ci := 0) (v := .int (J (eDy ev))) hx hb hts inX0_ hown hK hce rfl 1 (by decide) lk7 (fun _ h9 => h9) rfl dX1_add_49 ?_
            refine lv_iload_n hx hb dX1_add_52 rfl (lv_at hl 3 rfl) ?_
            refine j_cgt (tgt := 59) hx hb (by omega) (by omega) (by omega) (by omega) dX1_add_53 (by decide) (fun c53 => ?_) (fun c53 => ?_)
            · refine lv_aload_n hx hb dX1_add_59 rfl (lv_at hl 2 rfl) ?_
              refine j_get (ci := 1) (v := .ref b) hx hb hts inX1_ hown hK lq rfl 0 (by decide) lk1 (fun _ h9 => h9) rfl dX1_add_60 ?_
              refine lv_iload hx hb dX1_add_63 (lv_at hl 1 rfl) ?_
              refine lv_aload hx hb dX1_add_65 (lv_at hl 0 rfl) ?_
              refine j_aast (A := (fun x => (fun x => x = q ∨ x = b) x ∨ sz ≤ x)) (r := (RX0, TX0, 4)) hx hb hK lb rfl hce rfl (by omega) (by omega) (by decide) hL26 (Or.inl (Or.inr rfl)) dX1_add_67 (fun H_34 lo_35 hc_36 hx_37 hL_38 => ?_)
              have hc_36 : At G H_34 b (eQ G 3 12 (uf g z (some (eAd ev)))) := hc_36
              have ce_39 : At G H_34 q (eO 1 [.ref b, .int (J (L.length : Int))]) := lq.x hx_37 (by first | omega | assumption | (apply Ne.symm; assumption))
              have ce_40 : At G H_34 (eAd ev) (eO 0 [.int (J (eNo ev)), .int (J (eDy ev)), .int (J (eKi ev)), .int (J (eVa ev))]) := hce.x hx_37 (by first | omega | assumption | (apply Ne.symm; assumption))
              have hes_41 : ∀ e ∈ L, At G H_34 (eAd e) (eEv e) := fun e z => (les e z).x hx_37 (hd.2 e z |>.2)
              have hF_42 : Fr s.heap H_34 (fun x => x = q ∨ x = b) 0 := hFl.x hx_37 (fun _ => (Or.inr rfl))
              refine lv_iinc (v := J (z + (-1))) (lv' := [(4, .int (J (z + (-1)))), (5, .ref (eAd ev)), (0, .ref q), (1, .int (J d)), (2, .int (J k)), (3, .int (J v))]) hx hb dX1_add_68 hl (k := 1) rfl (J_add _ _) (by decide) rfl (fun ls hl => ?_)
              refine lv_goto (tgt := 26) hx hb dX1_add_71 (by decide) ?_
              exact ih26 (z + (-1)) (uf g z (some (eAd ev))) H_34 lo_35 hL_38 (by omega) (ip.trans (by rw [ipos_miss (by omega) spE c53]; congr 1)) (fun j h1 h2 => (uf_n g _ (by omega)).trans (g1 j h1 (by omega))) (fun j h1 h2 => if y : j = z then y ▸ (uf_s g z _).trans (qL_s (by omega) spE).symm else (uf_n g _ y).trans (g2 j (by omega) h2)) (fun j h => (uf_n g _ (by omega)).trans (g3 j h)) hF_42 ce_39 hc_36 hes_41 (by omega) _ (lv_sub hl [0, 2, 3, 4, 5] rfl)
            · refine lv_goto (tgt := 74) hx hb dX1_add_56 (by decide) ?_
              have hp : ipos L d L.length = z.toNat := ip.trans (ipos_hit (by omega) spE c53)
              refine lv_aload_n hx hb dX1_add_74 rfl (lv_at hl 2 rfl) ?_
              refine j_get (ci := 1) (v := .ref b) hx hb hts inX1_ hown hK lq rfl 0 (by decide) lk1 (fun _ h9 => h9) rfl dX1_add_75 ?_
              refine lv_iload hx hb dX1_add_78 (lv_at hl 1 rfl) ?_
              refine j_new (ci := 0) (fs := [.int (J 0), .int (J 0), .int (J 0), .int (J 0)]) hx hb hts inX0_ tyX0 tyX0_ok hown lk2 lk3 lk4 hK rfl (fun j hj => by rcases (show j = 0 ∨ j = 1 ∨ j = 2 ∨ j = 3 by omega) with rfl | rfl | rfl | rfl <;> rfl) (Nat.le_of_ble_eq_true rfl) (Nat.le_of_ble_eq_true rfl) dX1_add_80 (fun q_44 H_43 hc_45 hn_46 => ?_)
              have hc_45 : At G H_43 q_44 (eO 0 [.int (J 0), .int (J 0), .int (J 0), .int (J 0)]) := hc_45
              have ce_47 : At G H_43 q (eO 1 [.ref b, .int (J (L.length : Int))]) := lq.n hn_46
              have ce_48 : At G H_43 b (eQ G 3 12 g) := lb.n hn_46
              have ce_49 : At G H_43 (eAd ev) (eO 0 [.int (J (eNo ev)), .int (J (eDy ev)), .int (J (eKi ev)), .int (J (eVa ev))]) := hce.n hn_46
              have hes_m : ∀ e ∈ L, At G H_43 (eAd e) (eEv e) := fun e z => (les e z).n hn_46
              obtain rfl : sz = q_44 := by have z1 := hn_46.1; have z2 := hFl.1; omega
              have hF_50 : Fr s.heap H_43 (fun x => x = q ∨ x = b) 1 := hFl.n hn_46
              refine lv_dup hx hb dX1_add_83 rfl ?_
              refine lv_aload_n hx hb dX1_add_84 rfl (lv_at hl 2 rfl) ?_
              refine j_get (ci := 1) (v := .int (J (L.length : Int))) hx hb hts inX1_ hown hK ce_47 rfl 1 (by decide) lk0 (fun _ h9 => h9) rfl dX1_add_85 ?_
              refine lv_iload_n hx hb dX1_add_88 rfl (lv_at hl 3 rfl) ?_
              refine lv_iload_n hx hb dX1_add_89 rfl (lv_at hl 4 rfl) ?_
              refine lv_iload_n hx hb dX1_add_90 rfl (lv_at hl 5 rfl) ?_
              refine e_I (A := (fun x => (fun x => x = q ∨ x = b) x ∨ sz ≤ x)) (b := sz) (As := [.int (J (L.length : Int)), .int (J d), .int (J k), .int (J v)]) (rest := [.ref sz, .int (J z), .ref b]) hx hb hml hown hts hK hl.1 (c_X0_init l G sz (L.length : Int) d k v (sz + 1)) (cwI 4 hts gX1_add_X0_init rfl rfl rfl lk4 lk5 lk6 rfl (by decide +kernel) ⟨Nat.le_of_ble_eq_true rfl, Nat.le_of_ble_eq_true rfl⟩) (⟨by have z1 := hF_50.1; omega, hc_45⟩) rfl rfl (Nat.le_of_ble_eq_true rfl) dX1_add_91 ⟨Nat.le_of_ble_eq_true rfl, Nat.le_of_ble_eq_true rfl⟩ hL26 (fun x hx => hx.elim (fun z => by rw [z]; exact (Or.inr (by omega))) (fun z => Or.inr (by omega))) (fun H_51 lo_52 hp_53 hL_54 => ?_)
              show W p l e (headSpec wsX1_add rmX1_add).room s m ([.ref q, .int (J d), .int (J k), .int (J v)] : List Value).toArray below meth c H_51 lo_52 (1 + 0) (4 + 0) (MQ below (QE (none : Option Value) (fun H H1 => Fr H H1 (fun x => x = q ∨ x = b) 1 ∧ Evs G H1 q b (insL L (sz, (L.length : Int), d, k, v)))) ([.ref q, .int (J d), .int (J k), .int (J v)] : List Value).toArray s 1 4 (fun x => (fun x => x = q ∨ x = b) x ∨ sz ≤ x)) (F0 m 94 ls [.ref sz, .int (J z), .ref b])
              have hf_56 : Fr H_43 H_51 (fun x => x = sz) 0 := hp_53.1
              have hF_55 : Fr s.heap H_51 (fun x => x = q ∨ x = b) 1 := hF_50.f hf_56 (fun x hx z => by subst z; exact (fun z => absurd z (by omega)) hx)
              have ce_57 : At G H_51 q (eO 1 [.ref b, .int (J (L.length : Int))]) := ce_47.f hf_56 (fun z => absurd z (by omega))
              have ce_58 : At G H_51 b (eQ G 3 12 g) := ce_48.f hf_56 (fun z => absurd z (by omega))
              have ce_59 : At G H_51 (eAd ev) (eO 0 [.int (J (eNo ev)), .int (J (eDy ev)), .int (J (eKi ev)), .int (J (eVa ev))]) := ce_49.f hf_56 (fun z => absurd z (by omega))
              have hnw := hp_53.2
              have hes_n : ∀ e ∈ L, At G H_51 (eAd e) (eEv e) := fun e z => (hes_m e z).f hp_53.1 (fun y => by have := (hE4 e z).lt; omega)
              refine j_aast (A := (fun x => (fun x => x = q ∨ x = b) x ∨ sz ≤ x)) (r := (RX0, TX0, 4)) hx hb hK ce_58 rfl hnw rfl (by omega) (by omega) (by decide) hL_54 (Or.inl (Or.inr rfl)) dX1_add_94 (fun H_60 lo_61 hc_62 hx_63 hL_64 => ?_)
              have hc_62 : At G H_60 b (eQ G 3 12 (uf g z (some sz))) := hc_62
              have ce_65 : At G H_60 q (eO 1 [.ref b, .int (J (L.length : Int))]) := ce_57.x hx_63 (by first | omega | assumption | (apply Ne.symm; assumption))
              have ce_66 : At G H_60 (eAd ev) (eO 0 [.int (J (eNo ev)), .int (J (eDy ev)), .int (J (eKi ev)), .int (J (eVa ev))]) := ce_59.x hx_63 (by first | omega | assumption | (apply Ne.symm; assumption))
              have ce_67 : At G H_60 sz (eO 0 [.int (J (L.length : Int)), .int (J d), .int (J k), .int (J v)]) := hnw.x hx_63 (by first | omega | assumption | (apply Ne.symm; assumption))
              have hes_68 : ∀ e ∈ L, At G H_60 (eAd e) (eEv e) := fun e z => (hes_n e z).x hx_63 (hd.2 e z |>.2)
              have hF_69 : Fr s.heap H_60 (fun x => x = q ∨ x = b) 1 := hF_55.x hx_63 (fun _ => (Or.inr rfl))
              refine lv_aload_n hx hb dX1_add_95 rfl (lv_at hl 2 rfl) ?_
              refine lv_dup hx hb dX1_add_96 rfl ?_
              refine j_get (ci := 1) (v := .int (J (L.length : Int))) hx hb hts inX1_ hown hK ce_65 rfl 1 (by decide) lk0 (fun _ h9 => h9) rfl dX1_add_97 ?_
              refine j_const hx hb dX1_add_100 ?_
              refine j_add hx hb dX1_add_101 ?_
              refine j_put (ci := 1) (A := (fun x => (fun x => x = q ∨ x = b) x ∨ sz ≤ x)) (ty := .int) hx hb hts inX1_ tyX1 tyX1_ok nmX1 hown hK ce_65 rfl 1 (by decide) lk0 (fun _ h9 => h9) rfl (by decide +kernel) rfl rfl (Nat.le_of_ble_eq_true rfl) hL_64 (Or.inl (Or.inl rfl)) dX1_add_102 (fun H_70 lo_71 hc_72 hx_73 hL_74 => ?_)
              have hc_72 : At G H_70 q (eO 1 [.ref b, .int (J ((L.length : Int) + 1))]) := hc_72
              have ce_75 : At G H_70 (eAd ev) (eO 0 [.int (J (eNo ev)), .int (J (eDy ev)), .int (J (eKi ev)), .int (J (eVa ev))]) := ce_66.x hx_73 (by first | omega | assumption | (apply Ne.symm; assumption))
              have ce_76 : At G H_70 sz (eO 0 [.int (J (L.length : Int)), .int (J d), .int (J k), .int (J v)]) := ce_67.x hx_73 (by first | omega | assumption | (apply Ne.symm; assumption))
              have ce_77 : At G H_70 b (eQ G 3 12 (uf g z (some sz))) := hc_62.x hx_73 (by first | omega | assumption | (apply Ne.symm; assumption))
              have hes_78 : ∀ e ∈ L, At G H_70 (eAd e) (eEv e) := fun e z => (hes_68 e z).x hx_73 (hd.2 e z |>.1)
              have hF_79 : Fr s.heap H_70 (fun x => x = q ∨ x = b) 1 := hF_69.x hx_73 (fun _ => (Or.inl rfl))
              exact r_vE hx hb hr hlk (Nat.le_of_ble_eq_true rfl) (Nat.le_of_ble_eq_true rfl) rfl hL_74 (⟨hF_79, ev_in (e := (sz, (L.length : Int), d, k, v)) hc_72 (eQ_congr (fun j h1 h2 => ins_row (e := (sz, (L.length : Int), d, k, v)) i0.1 i0.2 hp g1 g2 g3 j h1) ce_77) h_L hes_78 ce_76 hE5 ⟨⟨by show (0 : Int) ≤ (L.length : Int); omega, by show (L.length : Int) < 12; omega⟩, h_d, h_k⟩⟩) dX1_add_105
      exact lp26 13 (L.length : Int) (qL L) s.heap ([]) hL0 (by omega) (by rw [show (L.length : Int).toNat = L.length by omega]) (fun _ _ _ => rfl) (fun j h1 h2 => absurd h1 (by omega)) (fun j h => qL_end (by omega)) hF0 hP.1 hP.2.1 hE4 (by omega) _ (lv_sub hl [0, 1, 2, 3, 4] rfl)
    · exact absurd h_L (by omega)

abbrev rmX1_dropLatestTold : Room := { frames := 0, cells := 0, slots := 0, locals := 0 }
set_option maxHeartbeats 4000000 in
set_option maxRecDepth 100000 in
theorem c_X1_dropLatestTold (l : Launch) (G : GG) (q b : Nat) (L : List EvT) (sz : Nat) (h_L : 0 < L.length) (h_u : ((drL L ((L.length : Int) - 1)).length : Int) = (L.length : Int) - 1) (hd : q ≠ b ∧ ∀ e ∈ L, eAd e ≠ q ∧ eAd e ≠ b) : ME l G yX1_dropLatestTold wsX1_dropLatestTold rmX1_dropLatestTold [.ref q] (fun H => H.size = sz ∧ (Evs G H q b L)) (none : Option Value) (fun x => (fun x => x = q ∨ x = b) x ∨ sz ≤ x) (fun H H1 => Fr H H1 (fun x => x = q ∨ x = b) 0 ∧ Evs G H1 q b (drL L ((L.length : Int) - 1))) 0 0 := by
  refine ME.of (cc := cX1_dropLatestTold) (maxL := 4) (ret := none) (by decide) rfl (Nat.le_of_ble_eq_true rfl) ?_
  intro p e s m below meth c hx hb hr hml hown hts hlk hin hK hP ls hl
  have hL0 : ∀ z9 ∈ ([] : List Loc), (fun x => (fun x => x = q ∨ x = b) x ∨ sz ≤ x) z9.base := fun z9 h => absurd h List.not_mem_nil
  have hown : s.vm.findClass RX1 = some m.cls := hown
  have hl : lv_has ls 4 [(0, .ref q)] := hl
  have inX0_ : ∀ w ∈ u_ws RX0 TX0 4, w ∈ wsX1_dropLatestTold := by decide +kernel
  have inX1_ : ∀ w ∈ u_ws RX1 TX1 2, w ∈ wsX1_dropLatestTold := by decide +kernel
  have lk0 := hts (.fieldLink RX1 17 "RateBook$Events" "told" "I") (by decide +kernel)
  have lk1 := hts (.fieldLink RX1 11 "RateBook$Events" "byDay" "[LRateBook$Event;") (by decide +kernel)
  have lk2 := hts (.fieldLink RX1 27 "RateBook$Event" "number" "I") (by decide +kernel)
  obtain ⟨hsz, hP⟩ := hP
  have hF0 : Fr s.heap s.heap (fun x => x = q ∨ x = b) 0 := Fr.rf
  obtain ⟨hE1, hE2, hE3, hE4, hE5⟩ := (show Evs G s.heap q b L from hP)
  obtain ⟨pp, hp1, ⟨ep, hp2, hp3⟩, hp4, hp5⟩ := dr_pos (n := (L.length : Int) - 1) L (by omega)
  have hlt_0 := (hP.1).lt
  have hlt_1 := (hP.2.1).lt
  refine lv_aload_n hx hb dX1_dropLatestTold_0 rfl (lv_at hl 0 rfl) ?_
  refine j_get (ci := 1) (v := .int (J (L.length : Int))) hx hb hts inX1_ hown hK hP.1 rfl 1 (by decide) lk0 (fun _ h9 => h9) rfl dX1_dropLatestTold_1 ?_
  refine j_gt0 (tgt := 8) hx hb (by omega) (by omega) dX1_dropLatestTold_4 (by decide) (fun c4 => ?_) (fun c4 => ?_)
  · refine j_const hx hb dX1_dropLatestTold_8 ?_
    refine lv_istore_n (lv' := [(1, .int (J 0)), (0, .ref q)]) hx hb dX1_dropLatestTold_9 rfl hl (by decide) rfl (fun ls hl => ?_)
    refine j_const hx hb dX1_dropLatestTold_10 ?_
    refine lv_istore_n (lv' := [(2, .int (J 0)), (1, .int (J 0)), (0, .ref q)]) hx hb dX1_dropLatestTold_11 rfl hl (by decide) rfl (fun ls hl => ?_)
    have lp12 : ∀ (n : Nat) (cl : Int) (i : Int) (H12 : Heap) (lo12 : List Loc) (hL12 : ∀ z9 ∈ lo12, (fun x => (fun x => x = q ∨ x = b) x ∨ sz ≤ x) z9.base) (i0 : 0 ≤ i ∧ i ≤ 12) (hcl : (cl = 0 ∧ i ≤ (pp : Int)) ∨ (cl = 1 ∧ (pp : Int) < i)) (hFl : Fr s.heap H12 (fun x => x = q ∨ x = b) 0) (lq : At G H12 q (eO 1 [.ref b, .int (J (L.length : Int))])) (lb : At G H12 b (eQ G 3 12 (shG L pp i))) (les : ∀ e ∈ L, At G H12 (eAd e) (eEv e)) (hm : 12 - i < (n : Int)) (ls : Array Slot) (hl : lv_has ls 4 [(2, .int (J i)), (1, .int (J cl)), (0, .ref q)]), W p l e (headSpec wsX1_dropLatestTold rmX1_dropLatestTold).room s m ([.ref q] : List Value).toArray below meth c H12 lo12 0 0 (MQ below (QE (none : Option Value) (fun H H1 => Fr H H1 (fun x => x = q ∨ x = b) 0 ∧ Evs G H1 q b (drL L ((L.length : Int) - 1)))) ([.ref q] : List Value).toArray s 0 0 (fun x => (fun x => x = q ∨ x = b) x ∨ sz ≤ x)) (F0 m 12 ls []) := by
      intro n
      induction n with
      | zero =>
        intro cl i H12 lo12 hL12 i0 hcl hFl lq lb les hm ls hl
        exact absurd hm (by omega)
      | succ n ih12 =>
        intro cl i H12 lo12 hL12 i0 hcl hFl lq lb les hm ls hl
        refine lv_iload_n hx hb dX1_dropLatestTold_12 rfl (lv_at hl 0 rfl) ?_
        refine lv_aload_n hx hb dX1_dropLatestTold_13 rfl (lv_at hl 2 rfl) ?_
        refine j_get (ci := 1) (v := .ref b) hx hb hts inX1_ hown hK lq rfl 0 (by decide) lk1 (fun _ h9 => h9) rfl dX1_dropLatestTold_14 ?_
        refine j_alQ (C := RX0) hx hb hK lb rfl dX1_dropLatestTold_17 ?_
        refine j_re (y := 12) rfl ?_
        refine j_cge (tgt := 94) hx hb (by omega) (by omega) (by decide) (by decide) dX1_dropLatestTold_18 (by decide) (fun c18 => ?_) (fun c18 => ?_)
        · refine lv_aload_n hx hb dX1_dropLatestTold_94 rfl (lv_at hl 2 rfl) ?_
          refine lv_dup hx hb dX1_dropLatestTold_95 rfl ?_
          refine j_get (ci := 1) (v := .int (J (L.length : Int))) hx hb hts inX1_ hown hK lq rfl 1 (by decide) lk0 (fun _ h9 => h9) rfl dX1_dropLatestTold_96 ?_
          refine j_const hx hb dX1_dropLatestTold_99 ?_
          refine j_sub hx hb dX1_dropLatestTold_100 ?_
          refine j_put (ci := 1) (A := (fun x => (fun x => x = q ∨ x = b) x ∨ sz ≤ x)) (ty := .int) hx hb hts inX1_ tyX1 tyX1_ok nmX1 hown hK lq rfl 1 (by decide) lk0 (fun _ h9 => h9) rfl (by decide +kernel) rfl rfl (Nat.le_of_ble_eq_true rfl) hL12 (Or.inl (Or.inl rfl)) dX1_dropLatestTold_101 (fun H_1 lo_2 hc_3 hx_4 hL_5 => ?_)
          have hc_3 : At G H_1 q (eO 1 [.ref b, .int (J ((L.length : Int) - 1))]) := hc_3
          have ce_6 : At G H_1 b (eQ G 3 12 (shG L pp i)) := lb.x hx_4 (by first | omega | assumption | (apply Ne.symm; assumption))
          have hes_7 : ∀ e ∈ L, At G H_1 (eAd e) (eEv e) := fun e z => (les e z).x hx_4 (hd.2 e z |>.1)
          have hF_8 : Fr s.heap H_1 (fun x => x = q ∨ x = b) 0 := hFl.x hx_4 (fun _ => (Or.inl rfl))
          exact r_vE hx hb hr hlk (Nat.le_of_ble_eq_true rfl) (Nat.le_of_ble_eq_true rfl) rfl hL_5 (⟨hF_8, ev_out (i := i) h_u hp5 (by omega) hc_3 ce_6 hE3 hes_7 hE5⟩) dX1_dropLatestTold_104
        · refine lv_aload_n hx hb dX1_dropLatestTold_21 rfl (lv_at hl 2 rfl) ?_
          refine j_get (ci := 1) (v := .ref b) hx hb hts inX1_ hown hK lq rfl 0 (by decide) lk1 (fun _ h9 => h9) rfl dX1_dropLatestTold_22 ?_
          refine lv_iload_n hx hb dX1_dropLatestTold_25 rfl (lv_at hl 0 rfl) ?_
          refine j_aald (C := RX0) hx hb hK lb rfl (by omega) (by omega) (by decide) dX1_dropLatestTold_26 ?_
          have hgi : shG L pp i i = qL L i := sh_at (by omega)
          rcases spE : L[(i).toNat]? with _ | ev
          · refine j_qn (hgi.trans (qL_n (by omega) spE)) ?_
            have hln := List.getElem?_eq_none_iff.mp spE
            refine lv_astore_nN (lv' := [(3, .null), (2, .int (J i)), (1, .int (J cl)), (0, .ref q)]) hx hb dX1_dropLatestTold_27 rfl hl (by decide) rfl (fun ls hl => ?_)
            refine lv_iload_n hx hb dX1_dropLatestTold_28 rfl (lv_at hl 2 rfl) ?_
            refine j_ne0 (tgt := 49) hx hb (by omega) (by omega) dX1_dropLatestTold_29 (by decide) (fun c29 => ?_) (fun c29 => ?_)
            · refine j_const hx hb dX1_dropLatestTold_49 ?_
              refine lv_goto (tgt := 54) hx hb dX1_dropLatestTold_50 (by decide) ?_
              refine lv_istore_n (lv' := [(1, .int (J 1)), (3, .null), (2, .int (J i)), (0, .ref q)]) hx hb dX1_dropLatestTold_54 rfl hl (by decide) rfl (fun ls hl => ?_)
              refine lv_iload_n hx hb dX1_dropLatestTold_55 rfl (lv_at hl 0 rfl) ?_
              refine j_eq0 (tgt := 88) hx hb (by decide) (by decide) dX1_dropLatestTold_56 (by decide) (fun c56 => absurd c56 (by decide)) (fun c56 => ?_)
              refine lv_aload_n hx hb dX1_dropLatestTold_59 rfl (lv_at hl 3 rfl) ?_
              refine j_get (ci := 1) (v := .ref b) hx hb hts inX1_ hown hK lq rfl 0 (by decide) lk1 (fun _ h9 => h9) rfl dX1_dropLatestTold_60 ?_
              refine lv_iload_n hx hb dX1_dropLatestTold_63 rfl (lv_at hl 2 rfl) ?_
              refine lv_iload_n hx hb dX1_dropLatestTold_64 rfl (lv_at hl 2 rfl) ?_
              refine j_const hx hb dX1_dropLatestTold_65 ?_
              refine j_add hx hb dX1_dropLatestTold_66 ?_
              refine lv_aload_n hx hb dX1_dropLatestTold_67 rfl (lv_at hl 3 rfl) ?_
              refine j_get (ci := 1) (v := .ref b) hx hb hts inX1_ hown hK lq rfl 0 (by decide) lk1 (fun _ h9 => h9) rfl dX1_dropLatestTold_68 ?_
              refine j_alQ (C := RX0) hx hb hK lb rfl dX1_dropLatestTold_71 ?_
              refine j_re (y := 12) rfl ?_
              refine j_cge (tgt := 86) hx hb (by omega) (by omega) (by decide) (by decide) dX1_dropLatestTold_72 (by decide) (fun c72 => ?_) (fun c72 => ?_)
              · refine lv_null hx hb dX1_dropLatestTold_86 ?_
                refine j_aastN (A := (fun x => (fun x => x = q ∨ x = b) x ∨ sz ≤ x)) (C := RX0) hx hb hK lb rfl (by omega) (by omega) (by decide) hL12 (Or.inl (Or.inr rfl)) dX1_dropLatestTold_87 (fun H_9 lo_10 hc_11 hx_12 hL_13 => ?_)
                have hc_11 : At G H_9 b (eQ G 3 12 (uf (shG L pp i) i none)) := hc_11
                have ce_14 : At G H_9 q (eO 1 [.ref b, .int (J (L.length : Int))]) := lq.x hx_12 (by first | omega | assumption | (apply Ne.symm; assumption))
                have hes_15 : ∀ e ∈ L, At G H_9 (eAd e) (eEv e) := fun e z => (les e z).x hx_12 (hd.2 e z |>.2)
                have hF_16 : Fr s.heap H_9 (fun x => x = q ∨ x = b) 0 := hFl.x hx_12 (fun _ => (Or.inr rfl))
                refine lv_iinc (v := J (i + 1)) (lv' := [(2, .int (J (i + 1))), (1, .int (J 1)), (3, .null), (0, .ref q)]) hx hb dX1_dropLatestTold_88 hl (k := 2) rfl (J_add _ _) (by decide) rfl (fun ls hl => ?_)
                refine lv_goto (tgt := 12) hx hb dX1_dropLatestTold_91 (by decide) ?_
                exact ih12 1 (i + 1) H_9 lo_10 hL_13 (by omega) (by omega) hF_16 ce_14 (eQ_congr (fun j h1 h2 => sh_move (by omega) (qL_end (by omega)) j) hc_11) hes_15 (by omega) _ (lv_sub hl [0, 1, 3] rfl)
              · refine lv_aload_n hx hb dX1_dropLatestTold_75 rfl (lv_at hl 3 rfl) ?_
                refine j_get (ci := 1) (v := .ref b) hx hb hts inX1_ hown hK lq rfl 0 (by decide) lk1 (fun _ h9 => h9) rfl dX1_dropLatestTold_76 ?_
                refine lv_iload_n hx hb dX1_dropLatestTold_79 rfl (lv_at hl 2 rfl) ?_
                refine j_const hx hb dX1_dropLatestTold_80 ?_
                refine j_add hx hb dX1_dropLatestTold_81 ?_
                refine j_aald (C := RX0) hx hb hK lb rfl (by omega) (by omega) (by decide) dX1_dropLatestTold_82 ?_
                have hg2 : shG L pp i (i + 1) = qL L (i + 1) := sh_at (by omega)
                rcases spF : L[(i + 1).toNat]? with _ | ev2
                · refine j_qn (hg2.trans (qL_n (by omega) spF)) ?_
                  refine lv_goto (tgt := 87) hx hb dX1_dropLatestTold_83 (by decide) ?_
                  refine j_aastN (A := (fun x => (fun x => x = q ∨ x = b) x ∨ sz ≤ x)) (C := RX0) hx hb hK lb rfl (by omega) (by omega) (by decide) hL12 (Or.inl (Or.inr rfl)) dX1_dropLatestTold_87 (fun H_17 lo_18 hc_19 hx_20 hL_21 => ?_)
                  have hc_19 : At G H_17 b (eQ G 3 12 (uf (shG L pp i) i none)) := hc_19
                  have ce_22 : At G H_17 q (eO 1 [.ref b, .int (J (L.length : Int))]) := lq.x hx_20 (by first | omega | assumption | (apply Ne.symm; assumption))
                  have hes_23 : ∀ e ∈ L, At G H_17 (eAd e) (eEv e) := fun e z => (les e z).x hx_20 (hd.2 e z |>.2)
                  have hF_24 : Fr s.heap H_17 (fun x => x = q ∨ x = b) 0 := hFl.x hx_20 (fun _ => (Or.inr rfl))
                  refine lv_iinc (v := J (i + 1)) (lv' := [(2, .int (J (i + 1))), (1, .int (J 1)), (3, .null), (0, .ref q)]) hx hb dX1_dropLatestTold_88 hl (k := 2) rfl (J_add _ _) (by decide) rfl (fun ls hl => ?_)
                  refine lv_goto (tgt := 12) hx hb dX1_dropLatestTold_91 (by decide) ?_
                  exact ih12 1 (i + 1) H_17 lo_18 hL_21 (by omega) (by omega) hF_24 ce_22 (eQ_congr (fun j h1 h2 => sh_move (by omega) (qL_n (by omega) spF) j) hc_19) hes_23 (by omega) _ (lv_sub hl [0, 1, 3] rfl)
                · refine j_qs (b := eAd ev2) (hg2.trans (qL_s (by omega) spF)) ?_
                  have hme2 : ev2 ∈ L := List.mem_of_getElem? spF
                  have hce2 : At G H12 (eAd ev2) (eO 0 [.int (J (eNo ev2)), .int (J (eDy ev2)), .int (J (eKi ev2)), .int (J (eVa ev2))]) := les ev2 hme2
                  have hde2 := hd.2 ev2 hme2
                  have hle2 := (hE4 ev2 hme2).lt
                  refine lv_goto (tgt := 87) hx hb dX1_dropLatestTold_83 (by decide) ?_
                  refine j_aast (A := (fun x => (fun x => x = q ∨ x = b) x ∨ sz ≤ x)) (r := (RX0, TX0, 4)) hx hb hK lb rfl hce2 rfl (by omega) (by omega) (by decide) hL12 (Or.inl (Or.inr rfl)) dX1_dropLatestTold_87 (fun H_25 lo_26 hc_27 hx_28 hL_29 => ?_)
                  have hc_27 : At G H_25 b (eQ G 3 12 (uf (shG L pp i) i (some (eAd ev2)))) := hc_27
                  have ce_30 : At G H_25 q (eO 1 [.ref b, .int (J (L.length : Int))]) := lq.x hx_28 (by first | omega | assumption | (apply Ne.symm; assumption))
                  have ce_31 : At G H_25 (eAd ev2) (eO 0 [.int (J (eNo ev2)), .int (J (eDy ev2)), .int (J (eKi ev2)), .int (J (eVa ev2))]) := hce2.x hx_28 (by first | omega | assumption | (apply Ne.symm; assumption))
                  have hes_32 : ∀ e ∈ L, At G H_25 (eAd e) (eEv e) := fun e z => (les e z).x hx_28 (hd.2 e z |>.2)
                  have hF_33 : Fr s.heap H_25 (fun x => x = q ∨ x = b) 0 := hFl.x hx_28 (fun _ => (Or.inr rfl))
                  refine lv_iinc (v := J (i + 1)) (lv' := [(2, .int (J (i + 1))), (1, .int (J 1)), (3, .null), (0, .ref q)]) hx hb dX1_dropLatestTold_88 hl (k := 2) rfl (J_add _ _) (by decide) rfl (fun ls hl => ?_)
                  refine lv_goto (tgt := 12) hx hb dX1_dropLatestTold_91 (by decide) ?_
                  exact ih12 1 (i + 1) H_25 lo_26 hL_29 (by omega) (by omega) hF_33 ce_30 (eQ_congr (fun j h1 h2 => sh_move (by omega) (qL_s (by omega) spF) j) hc_27) hes_32 (by omega) _ (lv_sub hl [0, 1, 3] rfl)
            · refine lv_aload_nN hx hb dX1_dropLatestTold_32 rfl (lv_at hl 0 rfl) ?_
              refine lv_ifnullN (tgt := 53) hx hb dX1_dropLatestTold_33 (by decide) ?_
              refine j_const hx hb dX1_dropLatestTold_53 ?_
              refine lv_istore_n (lv' := [(1, .int (J 0)), (3, .null), (2, .int (J i)), (0, .ref q)]) hx hb dX1_dropLatestTold_54 rfl hl (by decide) rfl (fun ls hl => ?_)
              refine lv_iload_n hx hb dX1_dropLatestTold_55 rfl (lv_at hl 0 rfl) ?_
              refine j_eq0 (tgt := 88) hx hb (by decide) (by decide) dX1_dropLatestTold_56 (by decide) (fun c56 => ?_) (fun c56 => absurd c56 (by decide))
              refine lv_iinc (v := J (i + 1)) (lv' := [(2, .int (J (i + 1))), (1, .int (J 0)), (3, .null), (0, .ref q)]) hx hb dX1_dropLatestTold_88 hl (k := 2) rfl (J_add _ _) (by decide) rfl (fun ls hl => ?_)
              refine lv_goto (tgt := 12) hx hb dX1_dropLatestTold_91 (by decide) ?_
              exact ih12 0 (i + 1) H12 lo12 hL12 (by omega) (by omega) hFl lq (eQ_congr (fun j h1 h2 => sh_stay (by omega) j) lb) les (by omega) _ (lv_sub hl [0, 1, 3] rfl)
          · refine j_qs (b := eAd ev) (hgi.trans (qL_s (by omega) spE)) ?_
            have hme : ev ∈ L := List.mem_of_getElem? spE
            have hce : At G H12 (eAd ev) (eO 0 [.int (J (eNo ev)), .int (J (eDy ev)), .int (J (eKi ev)), .int (J (eVa ev))]) := les ev hme
            obtain ⟨ok1, ok2, ok3⟩ := hE5 ev hme
            have hde := hd.2 ev hme
            have hle := (hE4 ev hme).lt
            have hnp := dr_at hp2 hp3 hp4 spE
            refine lv_astore_n (lv' := [(3, .ref (eAd ev)), (2, .int (J i)), (1, .int (J cl)), (0, .ref q)]) hx hb dX1_dropLatestTold_27 rfl hl (by decide) rfl (fun ls hl => ?_)
            refine lv_iload_n hx hb dX1_dropLatestTold_28 rfl (lv_at hl 2 rfl) ?_
            refine j_ne0 (tgt := 49) hx hb (by omega) (by omega) dX1_dropLatestTold_29 (by decide) (fun c29 => ?_) (fun c29 => ?_)
            · refine j_const hx hb dX1_dropLatestTold_49 ?_
              refine lv_goto (tgt := 54) hx hb dX1_dropLatestTold_50 (by decide) ?_
              refine lv_istore_n (lv' := [(1, .int (J 1)), (3, .ref (eAd ev)), (2, .int (J i)), (0, .ref q)]) hx hb dX1_dropLatestTold_54 rfl hl (by decide) rfl (fun ls hl => ?_)
              refine lv_iload_n hx hb dX1_dropLatestTold_55 rfl (lv_at hl 0 rfl) ?_
              refine j_eq0 (tgt := 88) hx hb (by decide) (by decide) dX1_dropLatestTold_56 (by decide) (fun c56 => absurd c56 (by decide)) (fun c56 => ?_)
              refine lv_aload_n hx hb dX1_dropLatestTold_59 rfl (lv_at hl 3 rfl) ?_
              refine j_get (ci := 1) (v := .ref b) hx hb hts inX1_ hown hK lq rfl 0 (by decide) lk1 (fun _ h9 => h9) rfl dX1_dropLatestTold_60 ?_
              refine lv_iload_n hx hb dX1_dropLatestTold_63 rfl (lv_at hl 2 rfl) ?_
              refine lv_iload_n hx hb dX1_dropLatestTold_64 rfl (lv_at hl 2 rfl) ?_
              refine j_const hx hb dX1_dropLatestTold_65 ?_
              refine j_add hx hb dX1_dropLatestTold_66 ?_
              refine lv_aload_n hx hb dX1_dropLatestTold_67 rfl (lv_at hl 3 rfl) ?_
              refine j_get (ci := 1) (v := .ref b) hx hb hts inX1_ hown hK lq rfl 0 (by decide) lk1 (fun _ h9 => h9) rfl dX1_dropLatestTold_68 ?_
              refine j_alQ (C := RX0) hx hb hK lb rfl dX1_dropLatestTold_71 ?_
              refine j_re (y := 12) rfl ?_
              refine j_cge (tgt := 86) hx hb (by omega) (by omega) (by decide) (by decide) dX1_dropLatestTold_72 (by decide) (fun c72 => ?_) (fun c72 => ?_)
              · refine lv_null hx hb dX1_dropLatestTold_86 ?_
                refine j_aastN (A := (fun x => (fun x => x = q ∨ x = b) x ∨ sz ≤ x)) (C := RX0) hx hb hK lb rfl (by omega) (by omega) (by decide) hL12 (Or.inl (Or.inr rfl)) dX1_dropLatestTold_87 (fun H_34 lo_35 hc_36 hx_37 hL_38 => ?_)
                have hc_36 : At G H_34 b (eQ G 3 12 (uf (shG L pp i) i none)) := hc_36
                have ce_39 : At G H_34 q (eO 1 [.ref b, .int (J (L.length : Int))]) := lq.x hx_37 (by first | omega | assumption | (apply Ne.symm; assumption))
                have ce_40 : At G H_34 (eAd ev) (eO 0 [.int (J (eNo ev)), .int (J (eDy ev)), .int (J (eKi ev)), .int (J (eVa ev))]) := hce.x hx_37 (by first | omega | assumption | (apply Ne.symm; assumption))
                have hes_41 : ∀ e ∈ L, At G H_34 (eAd e) (eEv e) := fun e z => (les e z).x hx_37 (hd.2 e z |>.2)
                have hF_42 : Fr s.heap H_34 (fun x => x = q ∨ x = b) 0 := hFl.x hx_37 (fun _ => (Or.inr rfl))
                refine lv_iinc (v := J (i + 1)) (lv' := [(2, .int (J (i + 1))), (1, .int (J 1)), (3, .ref (eAd ev)), (0, .ref q)]) hx hb dX1_dropLatestTold_88 hl (k := 2) rfl (J_add _ _) (by decide) rfl (fun ls hl => ?_)
                refine lv_goto (tgt := 12) hx hb dX1_dropLatestTold_91 (by decide) ?_
                exact ih12 1 (i + 1) H_34 lo_35 hL_38 (by omega) (by omega) hF_42 ce_39 (eQ_congr (fun j h1 h2 => sh_move (by omega) (qL_end (by omega)) j) hc_36) hes_41 (by omega) _ (lv_sub hl [0, 1, 3] rfl)
              · refine lv_aload_n hx hb dX1_dropLatestTold_75 rfl (lv_at hl 3 rfl) ?_
                refine j_get (ci := 1) (v := .ref b) hx hb hts inX1_ hown hK lq rfl 0 (by decide) lk1 (fun _ h9 => h9) rfl dX1_dropLatestTold_76 ?_
                refine lv_iload_n hx hb dX1_dropLatestTold_79 rfl (lv_at hl 2 rfl) ?_
                refine j_const hx hb dX1_dropLatestTold_80 ?_
                refine j_add hx hb dX1_dropLatestTold_81 ?_
                refine j_aald (C := RX0) hx hb hK lb rfl (by omega) (by omega) (by decide) dX1_dropLatestTold_82 ?_
                have hg2 : shG L pp i (i + 1) = qL L (i + 1) := sh_at (by omega)
                rcases spF : L[(i + 1).toNat]? with _ | ev2
                · refine j_qn (hg2.trans (qL_n (by omega) spF)) ?_
                  refine lv_goto (tgt := 87) hx hb dX1_dropLatestTold_83 (by decide) ?_
                  refine j_aastN (A := (fun x => (fun x => x = q ∨ x = b) x ∨ sz ≤ x)) (C := RX0) hx hb hK lb rfl (by omega) (by omega) (by decide) hL12 (Or.inl (Or.inr rfl)) dX1_dropLatestTold_87 (fun H_43 lo_44 hc_45 hx_46 hL_47 => ?_)
                  have hc_45 : At G H_43 b (eQ G 3 12 (uf (shG L pp i) i none)) := hc_45
                  have ce_48 : At G H_43 q (eO 1 [.ref b, .int (J (L.length : Int))]) := lq.x hx_46 (by first | omega | assumption | (apply Ne.symm; assumption))
                  have ce_49 : At G H_43 (eAd ev) (eO 0 [.int (J (eNo ev)), .int (J (eDy ev)), .int (J (eKi ev)), .int (J (eVa ev))]) := hce.x hx_46 (by first | omega | assumption | (apply Ne.symm; assumption))
                  have hes_50 : ∀ e ∈ L, At G H_43 (eAd e) (eEv e) := fun e z => (les e z).x hx_46 (hd.2 e z |>.2)
                  have hF_51 : Fr s.heap H_43 (fun x => x = q ∨ x = b) 0 := hFl.x hx_46 (fun _ => (Or.inr rfl))
                  refine lv_iinc (v := J (i + 1)) (lv' := [(2, .int (J (i + 1))), (1, .int (J 1)), (3, .ref (eAd ev)), (0, .ref q)]) hx hb dX1_dropLatestTold_88 hl (k := 2) rfl (J_add _ _) (by decide) rfl (fun ls hl => ?_)
                  refine lv_goto (tgt := 12) hx hb dX1_dropLatestTold_91 (by decide) ?_
                  exact ih12 1 (i + 1) H_43 lo_44 hL_47 (by omega) (by omega) hF_51 ce_48 (eQ_congr (fun j h1 h2 => sh_move (by omega) (qL_n (by omega) spF) j) hc_45) hes_50 (by omega) _ (lv_sub hl [0, 1, 3] rfl)
                · refine j_qs (b := eAd ev2) (hg2.trans (qL_s (by omega) spF)) ?_
                  have hme2 : ev2 ∈ L := List.mem_of_getElem? spF
                  have hce2 : At G H12 (eAd ev2) (eO 0 [.int (J (eNo ev2)), .int (J (eDy ev2)), .int (J (eKi ev2)), .int (J (eVa ev2))]) := les ev2 hme2
                  have hde2 := hd.2 ev2 hme2
                  have hle2 := (hE4 ev2 hme2).lt
                  refine lv_goto (tgt := 87) hx hb dX1_dropLatestTold_83 (by decide) ?_
                  refine j_aast (A := (fun x => (fun x => x = q ∨ x = b) x ∨ sz ≤ x)) (r := (RX0, TX0, 4)) hx hb hK lb rfl hce2 rfl (by omega) (by omega) (by decide) hL12 (Or.inl (Or.inr rfl)) dX1_dropLatestTold_87 (fun H_52 lo_53 hc_54 hx_55 hL_56 => ?_)
                  have hc_54 : At G H_52 b (eQ G 3 12 (uf (shG L pp i) i (some (eAd ev2)))) := hc_54
                  have ce_57 : At G H_52 q (eO 1 [.ref b, .int (J (L.length : Int))]) := lq.x hx_55 (by first | omega | assumption | (apply Ne.symm; assumption))
                  have ce_58 : At G H_52 (eAd ev) (eO 0 [.int (J (eNo ev)), .int (J (eDy ev)), .int (J (eKi ev)), .int (J (eVa ev))]) := hce.x hx_55 (by first | omega | assumption | (apply Ne.symm; assumption))
                  have ce_59 : At G H_52 (eAd ev2) (eO 0 [.int (J (eNo ev2)), .int (J (eDy ev2)), .int (J (eKi ev2)), .int (J (eVa ev2))]) := hce2.x hx_55 (by first | omega | assumption | (apply Ne.symm; assumption))
                  have hes_60 : ∀ e ∈ L, At G H_52 (eAd e) (eEv e) := fun e z => (les e z).x hx_55 (hd.2 e z |>.2)
                  have hF_61 : Fr s.heap H_52 (fun x => x = q ∨ x = b) 0 := hFl.x hx_55 (fun _ => (Or.inr rfl))
                  refine lv_iinc (v := J (i + 1)) (lv' := [(2, .int (J (i + 1))), (1, .int (J 1)), (3, .ref (eAd ev)), (0, .ref q)]) hx hb dX1_dropLatestTold_88 hl (k := 2) rfl (J_add _ _) (by decide) rfl (fun ls hl => ?_)
                  refine lv_goto (tgt := 12) hx hb dX1_dropLatestTold_91 (by decide) ?_
                  exact ih12 1 (i + 1) H_52 lo_53 hL_56 (by omega) (by omega) hF_61 ce_57 (eQ_congr (fun j h1 h2 => sh_move (by omega) (qL_s (by omega) spF) j) hc_54) hes_60 (by omega) _ (lv_sub hl [0, 1, 3] rfl)
            · refine lv_aload_n hx hb dX1_dropLatestTold_32 rfl (lv_at hl 0 rfl) ?_
              refine lv_ifnull hx hb dX1_dropLatestTold_33 ?_
              refine lv_aload_n hx hb dX1_dropLatestTold_36 rfl (lv_at hl 0 rfl) ?_
              refine j_get (ci := 0) (v := .int (J (eNo ev))) hx hb hts inX0_ hown hK hce rfl 0 (by decide) lk2 (fun _ h9 => h9) rfl dX1_dropLatestTold_37 ?_
              refine lv_aload_n hx hb dX1_dropLatestTold_40 rfl (lv_at hl 3 rfl) ?_
              refine j_get (ci := 1) (v := .int (J (L.length : Int))) hx hb hts inX1_ hown hK lq rfl 1 (by decide) lk0 (fun _ h9 => h9) rfl dX1_dropLatestTold_41 ?_
              refine j_const hx hb dX1_dropLatestTold_44 ?_
              refine j_sub hx hb dX1_dropLatestTold_45 ?_
              refine j_cne (tgt := 53) hx hb (by omega) (by omega) (by omega) (by omega) dX1_dropLatestTold_46 (by decide) (fun c46 => ?_) (fun c46 => ?_)
              · refine j_const hx hb dX1_dropLatestTold_53 ?_
                refine lv_istore_n (lv' := [(1, .int (J 0)), (3, .ref (eAd ev)), (2, .int (J i)), (0, .ref q)]) hx hb dX1_dropLatestTold_54 rfl hl (by decide) rfl (fun ls hl => ?_)
                refine lv_iload_n hx hb dX1_dropLatestTold_55 rfl (lv_at hl 0 rfl) ?_
                refine j_eq0 (tgt := 88) hx hb (by decide) (by decide) dX1_dropLatestTold_56 (by decide) (fun c56 => ?_) (fun c56 => absurd c56 (by decide))
                refine lv_iinc (v := J (i + 1)) (lv' := [(2, .int (J (i + 1))), (1, .int (J 0)), (3, .ref (eAd ev)), (0, .ref q)]) hx hb dX1_dropLatestTold_88 hl (k := 2) rfl (J_add _ _) (by decide) rfl (fun ls hl => ?_)
                refine lv_goto (tgt := 12) hx hb dX1_dropLatestTold_91 (by decide) ?_
                exact ih12 0 (i + 1) H12 lo12 hL12 (by omega) (by omega) hFl lq (eQ_congr (fun j h1 h2 => sh_stay (by omega) j) lb) les (by omega) _ (lv_sub hl [0, 1, 3] rfl)
              · refine j_const hx hb dX1_dropLatestTold_49 ?_
                refine lv_goto (tgt := 54) hx hb dX1_dropLatestTold_50 (by decide) ?_
                refine lv_istore_n (lv' := [(1, .int (J 1)), (3, .ref (eAd ev)), (2, .int (J i)), (0, .ref q)]) hx hb dX1_dropLatestTold_54 rfl hl (by decide) rfl (fun ls hl => ?_)
                refine lv_iload_n hx hb dX1_dropLatestTold_55 rfl (lv_at hl 0 rfl) ?_
                refine j_eq0 (tgt := 88) hx hb (by decide) (by decide) dX1_dropLatestTold_56 (by decide) (fun c56 => absurd c56 (by decide)) (fun c56 => ?_)
                refine lv_aload_n hx hb dX1_dropLatestTold_59 rfl (lv_at hl 3 rfl) ?_
                refine j_get (ci := 1) (v := .ref b) hx hb hts inX1_ hown hK lq rfl 0 (by decide) lk1 (fun _ h9 => h9) rfl dX1_dropLatestTold_60 ?_
                refine lv_iload_n hx hb dX1_dropLatestTold_63 rfl (lv_at hl 2 rfl) ?_
                refine lv_iload_n hx hb dX1_dropLatestTold_64 rfl (lv_at hl 2 rfl) ?_
                refine j_const hx hb dX1_dropLatestTold_65 ?_
                refine j_add hx hb dX1_dropLatestTold_66 ?_
                refine lv_aload_n hx hb dX1_dropLatestTold_67 rfl (lv_at hl 3 rfl) ?_
                refine j_get (ci := 1) (v := .ref b) hx hb hts inX1_ hown hK lq rfl 0 (by decide) lk1 (fun _ h9 => h9) rfl dX1_dropLatestTold_68 ?_
                refine j_alQ (C := RX0) hx hb hK lb rfl dX1_dropLatestTold_71 ?_
                refine j_re (y := 12) rfl ?_
                refine j_cge (tgt := 86) hx hb (by omega) (by omega) (by decide) (by decide) dX1_dropLatestTold_72 (by decide) (fun c72 => ?_) (fun c72 => ?_)
                · refine lv_null hx hb dX1_dropLatestTold_86 ?_
                  refine j_aastN (A := (fun x => (fun x => x = q ∨ x = b) x ∨ sz ≤ x)) (C := RX0) hx hb hK lb rfl (by omega) (by omega) (by decide) hL12 (Or.inl (Or.inr rfl)) dX1_dropLatestTold_87 (fun H_62 lo_63 hc_64 hx_65 hL_66 => ?_)
                  have hc_64 : At G H_62 b (eQ G 3 12 (uf (shG L pp i) i none)) := hc_64
                  have ce_67 : At G H_62 q (eO 1 [.ref b, .int (J (L.length : Int))]) := lq.x hx_65 (by first | omega | assumption | (apply Ne.symm; assumption))
                  have ce_68 : At G H_62 (eAd ev) (eO 0 [.int (J (eNo ev)), .int (J (eDy ev)), .int (J (eKi ev)), .int (J (eVa ev))]) := hce.x hx_65 (by first | omega | assumption | (apply Ne.symm; assumption))
                  have hes_69 : ∀ e ∈ L, At G H_62 (eAd e) (eEv e) := fun e z => (les e z).x hx_65 (hd.2 e z |>.2)
                  have hF_70 : Fr s.heap H_62 (fun x => x = q ∨ x = b) 0 := hFl.x hx_65 (fun _ => (Or.inr rfl))
                  refine lv_iinc (v := J (i + 1)) (lv' := [(2, .int (J (i + 1))), (1, .int (J 1)), (3, .ref (eAd ev)), (0, .ref q)]) hx hb dX1_dropLatestTold_88 hl (k := 2) rfl (J_add _ _) (by decide) rfl (fun ls hl => ?_)
                  refine lv_goto (tgt := 12) hx hb dX1_dropLatestTold_91 (by decide) ?_
                  exact ih12 1 (i + 1) H_62 lo_63 hL_66 (by omega) (by omega) hF_70 ce_67 (eQ_congr (fun j h1 h2 => sh_move (by omega) (qL_end (by omega)) j) hc_64) hes_69 (by omega) _ (lv_sub hl [0, 1, 3] rfl)
                · refine lv_aload_n hx hb dX1_dropLatestTold_75 rfl (lv_at hl 3 rfl) ?_
                  refine j_get (ci := 1) (v := .ref b) hx hb hts inX1_ hown hK lq rfl 0 (by decide) lk1 (fun _ h9 => h9) rfl dX1_dropLatestTold_76 ?_
                  refine lv_iload_n hx hb dX1_dropLatestTold_79 rfl (lv_at hl 2 rfl) ?_
                  refine j_const hx hb dX1_dropLatestTold_80 ?_
                  refine j_add hx hb dX1_dropLatestTold_81 ?_
                  refine j_aald (C := RX0) hx hb hK lb rfl (by omega) (by omega) (by decide) dX1_dropLatestTold_82 ?_
                  have hg2 : shG L pp i (i + 1) = qL L (i + 1) := sh_at (by omega)
                  rcases spF : L[(i + 1).toNat]? with _ | ev2
                  · refine j_qn (hg2.trans (qL_n (by omega) spF)) ?_
                    refine lv_goto (tgt := 87) hx hb dX1_dropLatestTold_83 (by decide) ?_
                    refine j_aastN (A := (fun x => (fun x => x = q ∨ x = b) x ∨ sz ≤ x)) (C := RX0) hx hb hK lb rfl (by omega) (by omega) (by decide) hL12 (Or.inl (Or.inr rfl)) dX1_dropLatestTold_87 (fun H_71 lo_72 hc_73 hx_74 hL_75 => ?_)
                    have hc_73 : At G H_71 b (eQ G 3 12 (uf (shG L pp i) i none)) := hc_73
                    have ce_76 : At G H_71 q (eO 1 [.ref b, .int (J (L.length : Int))]) := lq.x hx_74 (by first | omega | assumption | (apply Ne.symm; assumption))
                    have ce_77 : At G H_71 (eAd ev) (eO 0 [.int (J (eNo ev)), .int (J (eDy ev)), .int (J (eKi ev)), .int (J (eVa ev))]) := hce.x hx_74 (by first | omega | assumption | (apply Ne.symm; assumption))
                    have hes_78 : ∀ e ∈ L, At G H_71 (eAd e) (eEv e) := fun e z => (les e z).x hx_74 (hd.2 e z |>.2)
                    have hF_79 : Fr s.heap H_71 (fun x => x = q ∨ x = b) 0 := hFl.x hx_74 (fun _ => (Or.inr rfl))
                    refine lv_iinc (v := J (i + 1)) (lv' := [(2, .int (J (i + 1))), (1, .int (J 1)), (3, .ref (eAd ev)), (0, .ref q)]) hx hb dX1_dropLatestTold_88 hl (k := 2) rfl (J_add _ _) (by decide) rfl (fun ls hl => ?_)
                    refine lv_goto (tgt := 12) hx hb dX1_dropLatestTold_91 (by decide) ?_
                    exact ih12 1 (i + 1) H_71 lo_72 hL_75 (by omega) (by omega) hF_79 ce_76 (eQ_congr (fun j h1 h2 => sh_move (by omega) (qL_n (by omega) spF) j) hc_73) hes_78 (by omega) _ (lv_sub hl [0, 1, 3] rfl)
                  · refine j_qs (b := eAd ev2) (hg2.trans (qL_s (by omega) spF)) ?_
                    have hme2 : ev2 ∈ L := List.mem_of_getElem? spF
                    have hce2 : At G H12 (eAd ev2) (eO 0 [.int (J (eNo ev2)), .int (J (eDy ev2)), .int (J (eKi ev2)), .int (J (eVa ev2))]) := les ev2 hme2
                    have hde2 := hd.2 ev2 hme2
                    have hle2 := (hE4 ev2 hme2).lt
                    refine lv_goto (tgt := 87) hx hb dX1_dropLatestTold_83 (by decide) ?_
                    refine j_aast (A := (fun x => (fun x => x = q ∨ x = b) x ∨ sz ≤ x)) (r := (RX0, TX0, 4)) hx hb hK lb rfl hce2 rfl (by omega) (by omega) (by decide) hL12 (Or.inl (Or.inr rfl)) dX1_dropLatestTold_87 (fun H_80 lo_81 hc_82 hx_83 hL_84 => ?_)
                    have hc_82 : At G H_80 b (eQ G 3 12 (uf (shG L pp i) i (some (eAd ev2)))) := hc_82
                    have ce_85 : At G H_80 q (eO 1 [.ref b, .int (J (L.length : Int))]) := lq.x hx_83 (by first | omega | assumption | (apply Ne.symm; assumption))
                    have ce_86 : At G H_80 (eAd ev) (eO 0 [.int (J (eNo ev)), .int (J (eDy ev)), .int (J (eKi ev)), .int (J (eVa ev))]) := hce.x hx_83 (by first | omega | assumption | (apply Ne.symm; assumption))
                    have ce_87 : At G H_80 (eAd ev2) (eO 0 [.int (J (eNo ev2)), .int (J (eDy ev2)), .int (J (eKi ev2)), .int (J (eVa ev2))]) := hce2.x hx_83 (by first | omega | assumption | (apply Ne.symm; assumption))
                    have hes_88 : ∀ e ∈ L, At G H_80 (eAd e) (eEv e) := fun e z => (les e z).x hx_83 (hd.2 e z |>.2)
                    have hF_89 : Fr s.heap H_80 (fun x => x = q ∨ x = b) 0 := hFl.x hx_83 (fun _ => (Or.inr rfl))
                    refine lv_iinc (v := J (i + 1)) (lv' := [(2, .int (J (i + 1))), (1, .int (J 1)), (3, .ref (eAd ev)), (0, .ref q)]) hx hb dX1_dropLatestTold_88 hl (k := 2) rfl (J_add _ _) (by decide) rfl (fun ls hl => ?_)
                    refine lv_goto (tgt := 12) hx hb dX1_dropLatestTold_91 (by decide) ?_
                    exact ih12 1 (i + 1) H_80 lo_81 hL_84 (by omega) (by omega) hF_89 ce_85 (eQ_congr (fun j h1 h2 => sh_move (by omega) (qL_s (by omega) spF) j) hc_82) hes_88 (by omega) _ (lv_sub hl [0, 1, 3] rfl)
    exact lp12 13 0 0 s.heap ([]) hL0 (by omega) (by omega) hF0 hP.1 (eQ_congr (fun j h1 h2 => sh_0 L pp j h1) hP.2.1) hE4 (by omega) _ (lv_sub hl [0, 1, 2] rfl)
  · exact absurd h_L (by omega)
