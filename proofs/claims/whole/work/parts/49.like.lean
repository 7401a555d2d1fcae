abbrev rmX8_cutLike : Room := { frames := 3, cells := 40, slots := 160, locals := 61 }
set_option maxHeartbeats 4000000 in
set_option maxRecDepth 100000 in
theorem c_X8_cutLike (l : Launch) (G : GG) (A : Nat → Prop) (a : Nat → Nat) (f : Nat → Int → Nat) (N : Int → List Int) (u : Nat → Int → Int) (ys : Int → Int) (V : St) (h d v lk : Int) (sz : Nat) (hA : ∀ t i, dom V t i → A (adr a f t i)) (hAn : ∀ x, sz ≤ x → A x) (h_h : 0 ≤ h ∧ h < V 0 0) (h_d : 0 ≤ d ∧ d ≤ 3649) (h_v : 1 ≤ v ∧ v ≤ 900) (h_lk : lk ≠ 0) : ME l G yX8_cutLike wsX8_cutLike rmX8_cutLike [.ref (a 0), .ref (f 0 h), .int (J d), .int (J v)] (fun H => H.size = sz ∧ (RW G H a f N u ys V)) (some (.int (J (@ite Int (apF V h lk) (Classical.propDecidable _) (-3) (apN V h lk (V 0 0))))) : Option Value) A (fun H H1 => WX G A a (@ite St (apF V h lk) (Classical.propDecidable _) V (apW V h d v lk (V 0 0))) H H1) 40 160 := by
  refine ME.of (cc := cX8_cutLike) (maxL := 7) (ret := (some .int)) (by decide) rfl (Nat.le_of_ble_eq_true rfl) ?_
  intro p e s m below meth c hx hb hr hml hown hts hlk hin hK hP ls hl
  have hL0 : ∀ z9 ∈ ([] : List Loc), A z9.base := fun z9 h => absurd h List.not_mem_nil
  have hown : s.vm.findClass RX8 = some m.cls := hown
  have hl : lv_has ls 7 [(0, .ref (a 0)), (1, .ref (f 0 h)), (2, .int (J d)), (3, .int (J v))] := hl
  have inX2_ : ∀ w ∈ u_ws RX2 TX2 7, w ∈ wsX8_cutLike := by decide +kernel
  have inX5_ : ∀ w ∈ u_ws RX5 TX5 2, w ∈ wsX8_cutLike := by decide +kernel
  have inX8_ : ∀ w ∈ u_ws RX8 TX8 4, w ∈ wsX8_cutLike := by decide +kernel
  have lk0 := hts (.fieldLink RX8 12 "RateBook" "town" "LRateBook$Town;") (by decide +kernel)
  have lk1 := hts (.fieldLink RX8 105 "RateBook$House" "events" "LRateBook$Events;") (by decide +kernel)
  obtain ⟨hsz, hP⟩ := hP
  have hF0 : Fr s.heap s.heap A 0 := Fr.rf
  have hRW : RW G s.heap a f N u ys V := hP
  have hN := hRW.2.2.1
  obtain ⟨L, hLe⟩ : ∃ L : Int → List EvT, L = fun h => mkL V (f 9) h (N h) := ⟨_, rfl⟩
  have hRB : RB G s.heap a f L u V := hLe ▸ hRW.1
  obtain ⟨hV, hX, hT, hE, hLi, hBa, hBk⟩ := id hRB
  obtain ⟨hT1, hT2, hT3, hT4⟩ := id hT
  obtain ⟨hL1, hL2, hL3, hL4, hL5, hL6⟩ := id hLi
  have hn := hV.n
  have hnl := hV.l
  have hLl : ∀ h, 0 ≤ h → h < V 0 0 → ((L h).length : Int) = V 6 h := fun h z1 z2 => by rw [hLe]; exact (congrArg Int.ofNat (mkL_len _ _ _ _)).trans (hN h z1 z2).1
  have hMe : ∀ h, 0 ≤ h → h < V 0 0 → ∀ e ∈ L h, eAd e ≠ f 1 h ∧ eAd e ≠ f 2 h := fun h z1 z2 e he => by
    rw [hLe] at he
    obtain ⟨j, hj, rfl⟩ := mkL_mem he
    have w := (hN h z1 z2).2.1 j hj
    exact ⟨fun z => absurd (hRW.2.2.2 19 _ 11 h (dE z1 z2 w.1 w.2) (dH 11 (by omega) (by omega) z1 z2) z).1 (by omega), fun z => absurd (hRW.2.2.2 19 _ 12 h (dE z1 z2 w.1 w.2) (dH 12 (by omega) (by omega) z1 z2) z).1 (by omega)⟩
  have hM12 : ∀ h, 0 ≤ h → h < V 0 0 → f 1 h ≠ f 2 h := fun h z1 z2 z => absurd (hRW.2.2.2 11 h 12 h (dH 11 (by omega) (by omega) z1 z2) (dH 12 (by omega) (by omega) z1 z2) z).1 (by omega)
  have hlt_0 := (hX).lt
  have hlt_1 := (hT2).lt
  have hlt_2 := (hT3).lt
  have hlt_3 := (hL2).lt
  have hlt_4 := (hL3).lt
  have hlt_5 := (hBa).lt
  refine j_const hx hb dX8_cutLike_0 ?_
  refine lv_istore (lv' := [(4, .int (J 0)), (0, .ref (a 0)), (1, .ref (f 0 h)), (2, .int (J d)), (3, .int (J v))]) hx hb dX8_cutLike_1 hl (by decide) rfl (fun ls hl => ?_)
  have lp3 : ∀ (n : Nat) (i : Int) (i0 : 0 ≤ i ∧ i ≤ V 0 0) (hno : ∀ o, 0 ≤ o → o < i → ¬ (apQ V h lk o ∧ V 6 o = 12)) (hm : V 0 0 - i < (n : Int)) (ls : Array Slot) (hl : lv_has ls 7 [(4, .int (J i)), (0, .ref (a 0)), (1, .ref (f 0 h)), (2, .int (J d)), (3, .int (J v))]), W p l e (headSpec wsX8_cutLike rmX8_cutLike).room s m ([.ref (a 0), .ref (f 0 h), .int (J d), .int (J v)] : List Value).toArray below meth c s.heap [] 0 0 (MQ below (QE (some (.int (J (@ite Int (apF V h lk) (Classical.propDecidable _) (-3) (apN V h lk (V 0 0))))) : Option Value) (fun H H1 => WX G A a (@ite St (apF V h lk) (Classical.propDecidable _) V (apW V h d v lk (V 0 0))) H H1)) ([.ref (a 0), .ref (f 0 h), .int (J d), .int (J v)] : List Value).toArray s 40 160 A) (F0 m 3 ls []) := by
    intro n
    induction n with
    | zero =>
      intro i i0 hno hm ls hl
      exact absurd hm (by omega)
    | succ n ih3 =>
      intro i i0 hno hm ls hl
      refine lv_iload hx hb dX8_cutLike_3 (lv_at hl 0 rfl) ?_
      refine lv_aload_n hx hb dX8_cutLike_5 rfl (lv_at hl 1 rfl) ?_
      refine j_get (ci := 8) (v := .ref (a 1)) hx hb hts inX8_ hown hK hX rfl 0 (by decide) lk0 (fun _ h9 => h9) rfl dX8_cutLike_6 ?_
      refine j_getN (ci := 5) (v := .int (J (V 0 0))) hx hb hts inX5_ hown hK hT2 rfl 1 (by decide) hK.2.1.2.1 (fun _ h9 => h9) rfl dX8_cutLike_9 ?_
      refine j_cge (tgt := 60) hx hb (by omega) (by omega) (by omega) (by omega) dX8_cutLike_12 (by decide) (fun c12 => ?_) (fun c12 => ?_)
      · refine j_const hx hb dX8_cutLike_60 ?_
        refine lv_istore (lv' := [(4, .int (J 0)), (0, .ref (a 0)), (1, .ref (f 0 h)), (2, .int (J d)), (3, .int (J v))]) hx hb dX8_cutLike_61 hl (by decide) rfl (fun ls hl => ?_)
        refine j_const hx hb dX8_cutLike_63 ?_
        refine lv_istore (lv' := [(5, .int (J 0)), (4, .int (J 0)), (0, .ref (a 0)), (1, .ref (f 0 h)), (2, .int (J d)), (3, .int (J v))]) hx hb dX8_cutLike_64 hl (by decide) rfl (fun ls hl => ?_)
        have hnF : ¬ apF V h lk := fun z => by obtain ⟨o, a, b, c1, c2⟩ := z; exact hno o a (by omega) ⟨c1, c2⟩
        have hw0 : apW V h d v lk 0 = V := rfl
        have lp66 : ∀ (n : Nat) (i : Int) (g : Nat → Int → Nat) (M : Int → List Int) (H66 : Heap) (lo66 : List Loc) (hL66 : ∀ z9 ∈ lo66, A z9.base) (i0 : 0 ≤ i ∧ i ≤ V 0 0) (hFl : Fr s.heap H66 A (apN V h lk i).toNat) (hR : RW G H66 a g M u ys (apW V h d v lk i)) (hAg : ∀ t j, dom (apW V h d v lk i) t j → A (adr a g t j)) (hg : ∀ t, t ≠ 9 → g t = f t) (hm : V 0 0 - i < (n : Int)) (ls : Array Slot) (hl : lv_has ls 7 [(5, .int (J i)), (4, .int (J (apN V h lk i))), (0, .ref (a 0)), (1, .ref (f 0 h)), (2, .int (J d)), (3, .int (J v))]), W p l e (headSpec wsX8_cutLike rmX8_cutLike).room s m ([.ref (a 0), .ref (f 0 h), .int (J d), .int (J v)] : List Value).toArray below meth c H66 lo66 (apN V h lk i).toNat (4 * (apN V h lk i).toNat) (MQ below (QE (some (.int (J (@ite Int (apF V h lk) (Classical.propDecidable _) (-3) (apN V h lk (V 0 0))))) : Option Value) (fun H H1 => WX G A a (@ite St (apF V h lk) (Classical.propDecidable _) V (apW V h d v lk (V 0 0))) H H1)) ([.ref (a 0), .ref (f 0 h), .int (J d), .int (J v)] : List Value).toArray s 40 160 A) (F0 m 66 ls []) := by
          intro n
          induction n with
          | zero =>
            intro i g M H66 lo66 hL66 i0 hFl hR hAg hg hm ls hl
            exact absurd hm (by omega)
          | succ n ih66 =>
            intro i g M H66 lo66 hL66 i0 hFl hR hAg hg hm ls hl
            have hai := apW_inv hV (h := h) (d := d) (c := v) (lk := lk) h_d h_v hnF i0.1 i0.2
            have hnr := apN_rng V h lk i0.1
            obtain ⟨Vw, hWe⟩ : ∃ Vw, Vw = apW V h d v lk i := ⟨_, rfl⟩
            rw [← hWe] at hR hAg hai
            have hW0 : Vw 0 0 = V 0 0 := by rw [hai.2.1 0 (by omega)]
            have hX2 := hR.1.2.1
            have hTw : Tn G H66 (a 1) (a 2) (f 0) (f 1) Vw := by have z := hR.1.2.2.1; rw [hg 0 (by omega), hg 1 (by omega)] at z; exact z
            obtain ⟨-, hTw2, hTw3, hTw4⟩ := id hTw
            have hsz2 := hFl.1
            refine lv_iload hx hb dX8_cutLike_66 (lv_at hl 0 rfl) ?_
            refine lv_aload_n hx hb dX8_cutLike_68 rfl (lv_at hl 2 rfl) ?_
            refine j_get (ci := 8) (v := .ref (a 1)) hx hb hts inX8_ hown hK hX2 rfl 0 (by decide) lk0 (fun _ h9 => h9) rfl dX8_cutLike_69 ?_
            refine j_getN (ci := 5) (v := .int (J (Vw 0 0))) hx hb hts inX5_ hown hK hTw2 rfl 1 (by decide) hK.2.1.2.1 (fun _ h9 => h9) rfl dX8_cutLike_72 ?_
            refine j_cge (tgt := 123) hx hb (by omega) (by omega) (by omega) (by omega) dX8_cutLike_75 (by decide) (fun c75 => ?_) (fun c75 => ?_)
            · refine lv_iload hx hb dX8_cutLike_123 (lv_at hl 1 rfl) ?_
              exact r_iE hx hb hr hlk (by omega) (by omega) (congrArg (fun z => some (Value.int (J z))) (show (apN V h lk i : Int) = @ite Int (apF V h lk) (Classical.propDecidable _) (-3) (apN V h lk (V 0 0)) from by rw [if_neg hnF, show i = V 0 0 by omega])) hL66 (WX.eq (WX.of hFl hR hAg) (by rw [if_neg hnF, hWe, show i = V 0 0 by omega])) dX8_cutLike_125
            · refine lv_aload_n hx hb dX8_cutLike_78 rfl (lv_at hl 2 rfl) ?_
              refine j_get (ci := 8) (v := .ref (a 1)) hx hb hts inX8_ hown hK hX2 rfl 0 (by decide) lk0 (fun _ h9 => h9) rfl dX8_cutLike_79 ?_
              refine lv_iload hx hb dX8_cutLike_82 (lv_at hl 0 rfl) ?_
              refine k_V (ci := 5) (b := a 1) (As := [.int (J i)]) (rest := []) (v := va_rf (qN (Vw 0 0) (f 0) i)) hx hb hml hown hts hK hl.1 (c_X5_at l G (a 1) (a 2) (f 0) (f 1) Vw i (by omega)) (cwV 1 hts gX8_cutLike_X5_at rfl rfl rfl (by decide +kernel) ⟨Nat.le_of_ble_eq_true rfl, Nat.le_of_ble_eq_true rfl⟩) hTw2 rfl hTw rfl rfl (Nat.le_of_ble_eq_true rfl) dX8_cutLike_84 ⟨by show (apN V h lk i).toNat ≤ 40; omega, by show 4 * (apN V h lk i).toNat ≤ 160; omega⟩ ?_
              by_cases sp84 : 0 ≤ i ∧ i < Vw 0 0
              · refine j_qs (b := f 0 i) (qN_s sp84) ?_
                refine lv_astore (lv' := [(6, .ref (f 0 i)), (5, .int (J i)), (4, .int (J (apN V h lk i))), (0, .ref (a 0)), (1, .ref (f 0 h)), (2, .int (J d)), (3, .int (J v))]) hx hb dX8_cutLike_87 hl (by decide) rfl (fun ls hl => ?_)
                refine lv_aload hx hb dX8_cutLike_89 (lv_at hl 0 rfl) ?_
                refine lv_ifnull hx hb dX8_cutLike_91 ?_
                refine lv_aload hx hb dX8_cutLike_94 (lv_at hl 0 rfl) ?_
                refine lv_aload_n hx hb dX8_cutLike_96 rfl (lv_at hl 4 rfl) ?_
                have hri := hai.1.h (i := i) (by omega) (by omega)
                have hrh := hai.1.h (i := h) (by omega) (by omega)
                have ce_1 : At G H66 (f 0 i) (eO 2 [.int (J i), .int (J (Vw 1 i)), .int (J (Vw 2 i)), .int (J (Vw 3 i)), .int (J (Vw 4 i)), .ref (f 1 i), .int (J (Vw 5 i))]) := (hTw4 i (by omega) (by omega))
                refine k_V (ci := 2) (b := f 0 i) (As := [.ref (f 0 h)]) (rest := []) (v := .int (J (pI (Vw 2 i = Vw 2 h ∧ Vw 3 i = Vw 3 h)))) hx hb hml hown hts hK hl.1 (c_X2_isLike l G (f 0) (f 1) Vw i h (by omega) hri (by omega) hrh) (cwV 1 hts gX8_cutLike_X2_isLike rfl rfl rfl (by decide +kernel) ⟨Nat.le_of_ble_eq_true rfl, Nat.le_of_ble_eq_true rfl⟩) ce_1 rfl (⟨hTw4 i (by omega) (by omega), hTw4 h (by omega) (by omega)⟩) rfl rfl (Nat.le_of_ble_eq_true rfl) dX8_cutLike_97 ⟨by show (apN V h lk i).toNat ≤ 40; omega, by show 4 * (apN V h lk i).toNat ≤ 160; omega⟩ ?_
                refine j_eqP (tgt := 117) hx hb dX8_cutLike_100 (by decide) (fun c100 => ?_) (fun c100 => ?_)
                · have hlk1 : ¬ (V 2 i = V 2 h ∧ V 3 i = V 3 h) := by rw [hai.2.1 2 (by omega), hai.2.1 3 (by omega)] at c100; exact c100
                  refine lv_iinc (v := J (i + 1)) (lv' := [(5, .int (J (i + 1))), (6, .ref (f 0 i)), (4, .int (J (apN V h lk i))), (0, .ref (a 0)), (1, .ref (f 0 h)), (2, .int (J d)), (3, .int (J v))]) hx hb dX8_cutLike_117 hl (k := 1) rfl (J_add _ _) (by decide) rfl (fun ls hl => ?_)
                  refine lv_goto (tgt := 66) hx hb dX8_cutLike_120 (by decide) ?_
                  have hws : apW V h d v lk (i + 1) = Vw := by rw [apW_s i0.1, if_neg (fun z => hlk1 ((ap_like h_lk).mp z)), ← hWe]
                  have hns : apN V h lk (i + 1) = apN V h lk i := by rw [apN_s i0.1, if_neg (fun z => hlk1 ((ap_like h_lk).mp z))]
                  refine W.cs (cells' := (apN V h lk (i + 1)).toNat) (slots' := 4 * (apN V h lk (i + 1)).toNat) (by omega) (by omega) ?_
                  exact ih66 (i + 1) g M H66 lo66 hL66 (by omega) (hns.symm ▸ hFl) (hws.symm ▸ hR) (hws.symm ▸ hAg) hg (by omega) _ (lv_sub hl [0, 2, 3, 4, 5, 6] (by rw [show (apN V h lk (i + 1) : Int) = apN V h lk i from (by rw [apN_s i0.1, if_neg (fun z => hlk1 ((ap_like h_lk).mp z))])]; try rfl))
                · have hlk1 : V 2 i = V 2 h ∧ V 3 i = V 3 h := by rw [hai.2.1 2 (by omega), hai.2.1 3 (by omega)] at c100; exact c100
                  refine lv_aload hx hb dX8_cutLike_103 (lv_at hl 0 rfl) ?_
                  refine j_get (ci := 2) (v := .ref (f 1 i)) hx hb hts inX2_ hown hK ce_1 rfl 5 (by decide) lk1 (fun _ h9 => h9) rfl dX8_cutLike_105 ?_
                  refine lv_iload_n hx hb dX8_cutLike_108 rfl (lv_at hl 5 rfl) ?_
                  refine j_const hx hb dX8_cutLike_109 ?_
                  refine lv_iload_n hx hb dX8_cutLike_110 rfl (lv_at hl 6 rfl) ?_
                  have hE2 : Evs G H66 (f 1 i) (f 2 i) (mkL Vw (g 9) i (M i)) := by have z := hR.1.2.2.2.1 i (by omega) (by omega); rw [hg 1 (by omega), hg 2 (by omega)] at z; exact z
                  have hNi := hR.2.2.1 i (by omega) (by omega)
                  have hln : ((mkL Vw (g 9) i (M i)).length : Int) = Vw 6 i := (congrArg Int.ofNat (mkL_len _ _ _ _)).trans hNi.1
                  have h6e : Vw 6 i = V 6 i := hai.2.2 i (Int.le_refl _)
                  have h6b : V 6 i ≠ 12 := fun z => hno i i0.1 (by omega) ⟨(ap_like h_lk).mpr hlk1, z⟩
                  have hr6 := hai.1.h (i := i) (by omega) (by omega)
                  have hMg : ∀ e ∈ mkL Vw (g 9) i (M i), eAd e ≠ f 1 i ∧ eAd e ≠ f 2 i := fun e he => by
                      obtain ⟨j, hj, rfl⟩ := mkL_mem he
                      have w := hNi.2.1 j hj
                      rw [← hg 1 (by omega), ← hg 2 (by omega)]
                      exact ⟨fun z => absurd (hR.2.2.2 19 _ 11 i (dE (by omega) (by omega) w.1 w.2) (dH 11 (by omega) (by omega) (by omega) (by omega)) z).1 (by omega), fun z => absurd (hR.2.2.2 19 _ 12 i (dE (by omega) (by omega) w.1 w.2) (dH 12 (by omega) (by omega) (by omega) (by omega)) z).1 (by omega)⟩
                  refine e_V (A := A) (ci := 1) (b := f 1 i) (As := [.int (J d), .int (J 2), .int (J v)]) (rest := []) hx hb hml hown hts hK hl.1 (c_X1_add l G (f 1 i) (f 2 i) (mkL Vw (g 9) i (M i)) d 2 v (sz + ((apN V h lk i).toNat)) (by omega) h_d (by omega) (⟨hM12 i (by omega) (by omega), hMg⟩)) (cwV 3 hts gX8_cutLike_X1_add rfl rfl rfl (by decide +kernel) ⟨Nat.le_of_ble_eq_true rfl, Nat.le_of_ble_eq_true rfl⟩) hE2.1 rfl (⟨by have z1 := hFl.1; omega, hE2⟩) rfl rfl (Nat.le_of_ble_eq_true rfl) dX8_cutLike_111 ⟨by show (apN V h lk i).toNat + 1 ≤ 40; omega, by show 4 * (apN V h lk i).toNat + 4 ≤ 160; omega⟩ hL66 (fun x hx => hx.elim (fun z => z.elim (fun z => by rw [z]; exact (hA 11 i (dH 11 (by omega) (by omega) (by omega) (by omega)))) (fun z => by rw [z]; exact (hA 12 i (dH 12 (by omega) (by omega) (by omega) (by omega))))) (fun z => hAn x (by omega))) (fun H_2 lo_3 hp_4 hL_5 => ?_)
                  show W p l e (headSpec wsX8_cutLike rmX8_cutLike).room s m ([.ref (a 0), .ref (f 0 h), .int (J d), .int (J v)] : List Value).toArray below meth c H_2 lo_3 ((apN V h lk i).toNat + 1) ((4 * (apN V h lk i).toNat) + 4) (MQ below (QE (some (.int (J (@ite Int (apF V h lk) (Classical.propDecidable _) (-3) (apN V h lk (V 0 0))))) : Option Value) (fun H H1 => WX G A a (@ite St (apF V h lk) (Classical.propDecidable _) V (apW V h d v lk (V 0 0))) H H1)) ([.ref (a 0), .ref (f 0 h), .int (J d), .int (J v)] : List Value).toArray s 40 160 A) (F0 m 114 ls [])
                  have hf_7 : Fr H66 H_2 (fun x => x = (f 1 i) ∨ x = (f 2 i)) 1 := hp_4.1
                  have hF_6 : Fr s.heap H_2 A ((apN V h lk i).toNat + 1) := hFl.f hf_7 (fun x hx z => z.elim (fun z => by rw [z] at hx ⊢; exact (fun _ => (hA 11 i (dH 11 (by omega) (by omega) (by omega) (by omega)))) hx) (fun z => by rw [z] at hx ⊢; exact (fun _ => (hA 12 i (dH 12 (by omega) (by omega) (by omega) (by omega)))) hx))
                  have hcx := hp_4
                  have hcx1 := hcx.1
                  have hcx2 := hcx.2
                  rw [← hg 1 (by omega), ← hg 2 (by omega)] at hcx1 hcx2
                  refine lv_iinc (v := J ((apN V h lk i) + 1)) (lv' := [(4, .int (J ((apN V h lk i) + 1))), (6, .ref (f 0 i)), (5, .int (J i)), (0, .ref (a 0)), (1, .ref (f 0 h)), (2, .int (J d)), (3, .int (J v))]) hx hb dX8_cutLike_114 hl (k := 2) rfl (J_add _ _) (by decide) rfl (fun ls hl => ?_)
                  refine lv_iinc (v := J (i + 1)) (lv' := [(5, .int (J (i + 1))), (4, .int (J ((apN V h lk i) + 1))), (6, .ref (f 0 i)), (0, .ref (a 0)), (1, .ref (f 0 h)), (2, .int (J d)), (3, .int (J v))]) hx hb dX8_cutLike_117 hl (k := 2) rfl (J_add _ _) (by decide) rfl (fun ls hl => ?_)
                  refine lv_goto (tgt := 66) hx hb dX8_cutLike_120 (by decide) ?_
                  have hws : apW V h d v lk (i + 1) = sAd Vw i d 2 v := by rw [apW_s i0.1, if_pos ((ap_like h_lk).mpr hlk1), ← hWe]
                  have hns : apN V h lk (i + 1) = apN V h lk i + 1 := by rw [apN_s i0.1, if_pos ((ap_like h_lk).mpr hlk1)]
                  have hFn : Fr s.heap H_2 A (apN V h lk (i + 1)).toNat := (show (apN V h lk i).toNat + 1 = (apN V h lk (i + 1)).toNat by omega) ▸ hF_6
                  have hRn : RW G H_2 a (fEv g (12 * i + Vw 6 i) (sz + (apN V h lk i).toNat)) (uf M i (nIns Vw (g 9) i (M i) d)) u ys (apW V h d v lk (i + 1)) := by rw [hws]; exact hR.ad (by omega) (by omega) (by omega) h_d (by omega) (by omega) hcx1 hcx2
                  have hAn2 : ∀ t j, dom (apW V h d v lk (i + 1)) t j → A (adr a (fEv g (12 * i + Vw 6 i) (sz + (apN V h lk i).toNat)) t j) := by rw [hws]; exact domAd hAg (hAn _ (by omega))
                  refine W.cs (cells' := (apN V h lk (i + 1)).toNat) (slots' := 4 * (apN V h lk (i + 1)).toNat) (by omega) (by omega) ?_
                  exact ih66 (i + 1) (fEv g (12 * i + Vw 6 i) (sz + (apN V h lk i).toNat)) (uf M i (nIns Vw (g 9) i (M i) d)) H_2 lo_3 hL_5 (by omega) hFn hRn hAn2 (fun t ht => (fEv_n ht).trans (hg t ht)) (by omega) _ (lv_sub hl [0, 1, 3, 4, 5, 6] (by rw [show (apN V h lk (i + 1) : Int) = (apN V h lk i) + 1 from (by rw [apN_s i0.1, if_pos ((ap_like h_lk).mpr hlk1)])]; try rfl))
              · refine j_qn (qN_n sp84) ?_
                refine lv_astoreN (lv' := [(6, .null), (5, .int (J i)), (4, .int (J (apN V h lk i))), (0, .ref (a 0)), (1, .ref (f 0 h)), (2, .int (J d)), (3, .int (J v))]) hx hb dX8_cutLike_87 hl (by decide) rfl (fun ls hl => ?_)
                refine lv_aloadN hx hb dX8_cutLike_89 (lv_at hl 0 rfl) ?_
                refine lv_ifnullN (tgt := 117) hx hb dX8_cutLike_91 (by decide) ?_
                exact absurd i0 (by omega)
        exact lp66 41 0 f N s.heap ([]) hL0 (by omega) hF0 hRW hA (fun _ _ => rfl) (by omega) _ (lv_sub hl [0, 1, 2, 3, 4, 5] (by rw [show (apN V h lk 0 : Int) = 0 from (by rfl)]; try rfl))
      · refine lv_aload_n hx hb dX8_cutLike_15 rfl (lv_at hl 1 rfl) ?_
        refine j_get (ci := 8) (v := .ref (a 1)) hx hb hts inX8_ hown hK hX rfl 0 (by decide) lk0 (fun _ h9 => h9) rfl dX8_cutLike_16 ?_
        refine lv_iload hx hb dX8_cutLike_19 (lv_at hl 0 rfl) ?_
        refine k_V (ci := 5) (b := a 1) (As := [.int (J i)]) (rest := []) (v := va_rf (qN (V 0 0) (f 0) i)) hx hb hml hown hts hK hl.1 (c_X5_at l G (a 1) (a 2) (f 0) (f 1) V i (by omega)) (cwV 1 hts gX8_cutLike_X5_at rfl rfl rfl (by decide +kernel) ⟨Nat.le_of_ble_eq_true rfl, Nat.le_of_ble_eq_true rfl⟩) hT2 rfl hT rfl rfl (Nat.le_of_ble_eq_true rfl) dX8_cutLike_21 ⟨Nat.zero_le _, Nat.zero_le _⟩ ?_
        by_cases sp21 : 0 ≤ i ∧ i < V 0 0
        · refine j_qs (b := f 0 i) (qN_s sp21) ?_
          have hce_8 : At G s.heap (f 0 i) (eHo V (f 1) i) := hT4 i sp21.1 sp21.2
          have hih_9 := hT1.h sp21.1 sp21.2
          refine lv_astore (lv' := [(5, .ref (f 0 i)), (4, .int (J i)), (0, .ref (a 0)), (1, .ref (f 0 h)), (2, .int (J d)), (3, .int (J v))]) hx hb dX8_cutLike_24 hl (by decide) rfl (fun ls hl => ?_)
          refine lv_aload hx hb dX8_cutLike_26 (lv_at hl 0 rfl) ?_
          refine lv_ifnull hx hb dX8_cutLike_28 ?_
          refine lv_aload hx hb dX8_cutLike_31 (lv_at hl 0 rfl) ?_
          refine lv_aload_n hx hb dX8_cutLike_33 rfl (lv_at hl 3 rfl) ?_
          have hri := hV.h (i := i) (by omega) (by omega)
          have hrh := hV.h (i := h) (by omega) (by omega)
          refine k_V (ci := 2) (b := f 0 i) (As := [.ref (f 0 h)]) (rest := []) (v := .int (J (pI (V 2 i = V 2 h ∧ V 3 i = V 3 h)))) hx hb hml hown hts hK hl.1 (c_X2_isLike l G (f 0) (f 1) V i h (by omega) hri (by omega) hrh) (cwV 1 hts gX8_cutLike_X2_isLike rfl rfl rfl (by decide +kernel) ⟨Nat.le_of_ble_eq_true rfl, Nat.le_of_ble_eq_true rfl⟩) hce_8 rfl (⟨hT4 i (by omega) (by omega), hT4 h (by omega) (by omega)⟩) rfl rfl (Nat.le_of_ble_eq_true rfl) dX8_cutLike_34 ⟨Nat.zero_le _, Nat.zero_le _⟩ ?_
          refine j_eqP (tgt := 54) hx hb dX8_cutLike_37 (by decide) (fun c37 => ?_) (fun c37 => ?_)
          · refine lv_iinc (v := J (i + 1)) (lv' := [(4, .int (J (i + 1))), (5, .ref (f 0 i)), (0, .ref (a 0)), (1, .ref (f 0 h)), (2, .int (J d)), (3, .int (J v))]) hx hb dX8_cutLike_54 hl (k := 1) rfl (J_add _ _) (by decide) rfl (fun ls hl => ?_)
            refine lv_goto (tgt := 3) hx hb dX8_cutLike_57 (by decide) ?_
            exact ih3 (i + 1) (by omega) (fun o a b => if z : o < i then hno o a z else (show o = i by omega) ▸ (fun y => c37 ((ap_like h_lk).mp y.1))) (by omega) _ (lv_sub hl [0, 2, 3, 4, 5] rfl)
          · refine lv_aload hx hb dX8_cutLike_40 (lv_at hl 0 rfl) ?_
            refine j_get (ci := 2) (v := .ref (f 1 i)) hx hb hts inX2_ hown hK hce_8 rfl 5 (by decide) lk1 (fun _ h9 => h9) rfl dX8_cutLike_42 ?_
            have ce_10 : At G s.heap (f 1 i) (eO 1 [.ref (f 2 i), .int (J ((L i).length : Int))]) := (hE i (by omega) (by omega)).1
            refine k_V (ci := 1) (b := f 1 i) (As := []) (rest := []) (v := .int (J (pI (12 ≤ (L i).length)))) hx hb hml hown hts hK hl.1 (c_X1_isFull l G (f 1 i) (f 2 i) (L i)) (cwV 0 hts gX8_cutLike_X1_isFull rfl rfl rfl (by decide +kernel) ⟨Nat.le_of_ble_eq_true rfl, Nat.le_of_ble_eq_true rfl⟩) ce_10 rfl (hE i (by omega) (by omega)) rfl rfl (Nat.le_of_ble_eq_true rfl) dX8_cutLike_45 ⟨Nat.zero_le _, Nat.zero_le _⟩ ?_
            refine j_eqP (tgt := 54) hx hb dX8_cutLike_48 (by decide) (fun c48 => ?_) (fun c48 => ?_)
            · refine lv_iinc (v := J (i + 1)) (lv' := [(4, .int (J (i + 1))), (5, .ref (f 0 i)), (0, .ref (a 0)), (1, .ref (f 0 h)), (2, .int (J d)), (3, .int (J v))]) hx hb dX8_cutLike_54 hl (k := 1) rfl (J_add _ _) (by decide) rfl (fun ls hl => ?_)
              refine lv_goto (tgt := 3) hx hb dX8_cutLike_57 (by decide) ?_
              exact ih3 (i + 1) (by omega) (fun o a b => if z : o < i then hno o a z else (show o = i by omega) ▸ (fun y => absurd y.2 (by have := hLl i (by omega) (by omega); omega))) (by omega) _ (lv_sub hl [0, 2, 3, 4, 5] rfl)
            · refine j_bi hx hb dX8_cutLike_51 (by decide +kernel) ?_
              exact r_iE hx hb hr hlk (Nat.le_of_ble_eq_true rfl) (Nat.le_of_ble_eq_true rfl) (congrArg (fun z => some (Value.int (J z))) (show ((-3) : Int) = @ite Int (apF V h lk) (Classical.propDecidable _) (-3) (apN V h lk (V 0 0)) from (if_pos ⟨i, by omega, by omega, (ap_like h_lk).mpr c37, by have := hLl i (by omega) (by omega); have := hV.h (i := i) (by omega) (by omega); omega⟩).symm)) hL0 (WX.eq (WX.of hF0 hRW hA) (if_pos ⟨i, by omega, by omega, (ap_like h_lk).mpr c37, by have := hLl i (by omega) (by omega); have := hV.h (i := i) (by omega) (by omega); omega⟩)) dX8_cutLike_53
        · refine j_qn (qN_n sp21) ?_
          refine lv_astoreN (lv' := [(5, .null), (4, .int (J i)), (0, .ref (a 0)), (1, .ref (f 0 h)), (2, .int (J d)), (3, .int (J v))]) hx hb dX8_cutLike_24 hl (by decide) rfl (fun ls hl => ?_)
          refine lv_aloadN hx hb dX8_cutLike_26 (lv_at hl 0 rfl) ?_
          refine lv_ifnullN (tgt := 54) hx hb dX8_cutLike_28 (by decide) ?_
          refine lv_iinc (v := J (i + 1)) (lv' := [(4, .int (J (i + 1))), (5, .null), (0, .ref (a 0)), (1, .ref (f 0 h)), (2, .int (J d)), (3, .int (J v))]) hx hb dX8_cutLike_54 hl (k := 1) rfl (J_add _ _) (by decide) rfl (fun ls hl => ?_)
          refine lv_goto (tgt := 3) hx hb dX8_cutLike_57 (by decide) ?_
          exact ih3 (i + 1) (by omega) (fun o a b => if z : o < i then hno o a z else (show o = i by omega) ▸ (fun y => absurd i0 (by omega))) (by omega) _ (lv_sub hl [0, 2, 3, 4, 5] rfl)
  exact lp3 41 0 (by omega) (fun o a b => absurd b (by omega)) (by omega) _ (lv_sub hl [0, 1, 2, 3, 4] rfl)
