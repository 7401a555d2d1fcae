theorem b0_dj {q sz : Nat} (h : q < sz) : Dj (b0 q sz) := by
  intro i j _ _ he
  unfold b0 at he
  by_cases c : i = 0
  · by_cases d : j = 0
    · omega
    · rw [if_pos c, if_neg d] at he; omega
  · by_cases d : j = 0
    · rw [if_neg c, if_pos d] at he; omega
    · rw [if_neg c, if_neg d] at he; omega
theorem b0_ge {q sz : Nat} (h : q < sz) (i : Nat) : q ≤ b0 q sz i := by
  unfold b0
  split <;> omega
theorem adr0 {q : Nat} (t : Nat) (i : Int) (hd : dom V0 t i) : q ≤ adr (a0 q (q + 1)) (f0 (q + 1)) t i ∧ adr (a0 q (q + 1)) (f0 (q + 1)) t i < q + 37 := by
  have e00 : V0 0 0 = 0 := rfl
  have e01 : V0 0 1 = 0 := rfl
  rcases hd with z | z | z | z | z | z
  · have w : adr (a0 q (q + 1)) (f0 (q + 1)) t i = a0 q (q + 1) t := if_pos (by omega)
    rw [w]
    unfold a0
    repeat' split
    all_goals omega
  · rw [e00] at z; omega
  · rw [e01] at z; omega
  · rw [e01] at z; omega
  · have w : adr (a0 q (q + 1)) (f0 (q + 1)) t i = f0 (q + 1) (t - 10) i := if_neg (by omega)
    rw [w]
    unfold f0
    repeat' split
    all_goals omega
  · obtain ⟨-, h, e', z1, -⟩ := z
    rw [e00] at z1; omega
set_option maxHeartbeats 4000000 in
set_option maxRecDepth 100000 in
/-- THE LAW, from its entry -/
theorem whole_start {p : Program} {e : Env} {s : State} {m : MethodId} {below : List Frame} {meth : Method} {c : Code} (l : Launch) (hflags : l.flags = flags0) {b L : Nat} {xs : Nat → Int32} (hL : L ≤ 3072) (C0 : lw_At p s m meth c b L xs) : W p l e room_1 s m #[Value.ref b] below meth c s.heap [] 0 0 (lw_Z below #[Value.ref b] s) (entryFrame m ([Value.ref b] : List Value).toArray 4) := by
  obtain ⟨hx, hb, hr, hml, hown, hts0, hX, hbl, hlocks, hgv⟩ := id C0
  obtain ⟨G, hK⟩ := KK_start hts0
  have hts : ∀ w ∈ wsL_law, w.before #[Value.ref b] s = true := fun w h => hts0 w (wsL_law_in w h)
  have hown : s.vm.findClass RL = some m.cls := hown
  have pl : ∀ (w : Cond) (i : Nat), wsL_law[i]? = some w → w.before #[Value.ref b] s = true := fun w i h => hts w (List.mem_of_getElem? h)
  have hl := lv_entry ([.ref b]) (n := 4) (Nat.le_of_ble_eq_true rfl)
  rw [lg_entry_eq]
  generalize (lg_sl ([.ref b]) ++ List.replicate (4 - (lg_sl ([.ref b])).length) Slot.unset).toArray = ls at hl ⊢
  have hl : lv_has ls 4 [(0, .ref b)] := hl
  have hL0 : ∀ z9 ∈ ([] : List Loc), NewS s z9.base := fun z9 h => absurd h List.not_mem_nil
  have ini8 : (Cond.initialized RX8).before #[Value.ref b] s = true := pl _ 2 (by decide +kernel)
  have ini9 : (Cond.initialized RX9).before #[Value.ref b] s = true := pl _ 5 (by decide +kernel)
  have ml8 : (Cond.methodLink RL 9 yX8_init).before #[Value.ref b] s = true := pl _ 6 (by decide +kernel)
  have im8 : (Cond.instanceMethod yX8_init).before #[Value.ref b] s = true := pl _ 7 (by decide +kernel)
  have ml9 : (Cond.methodLink RL 12 yX9_init).before #[Value.ref b] s = true := pl _ 45 (by decide +kernel)
  have im9 : (Cond.instanceMethod yX9_init).before #[Value.ref b] s = true := pl _ 46 (by decide +kernel)
  have cl8 : (Cond.classLink RL 7 RX8).before #[Value.ref b] s = true := pl _ 0 (by decide +kernel)
  have cl9 : (Cond.classLink RL 10 RX9).before #[Value.ref b] s = true := pl _ 3 (by decide +kernel)
  have it8 : (Cond.instantiable RX8 4).before #[Value.ref b] s = true := pl _ 1 (by decide +kernel)
  have it9 : (Cond.instantiable RX9 22).before #[Value.ref b] s = true := pl _ 4 (by decide +kernel)
  refine j_new (ci := 8) (fs := [.null, .null, .null, .null]) hx hb hts inlX8 tyX8 tyX8_ok hown cl8 it8 ini8 hK rfl (fun j hj => by rcases (show j = 0 ∨ j = 1 ∨ j = 2 ∨ j = 3 by omega) with rfl | rfl | rfl | rfl <;> rfl) (Nat.le_of_ble_eq_true rfl) (Nat.le_of_ble_eq_true rfl) dL_law_0 (fun q1 H1 hq1 hn1 => ?_)
  refine lv_dup hx hb dL_law_3 rfl ?_
  refine e_I (A := NewS s) (b := q1) (As := []) (rest := [.ref q1]) hx hb hml hown hts hK hl.1 (c_X8_init l G q1 H1.size) (cwI 0 hts gL_law_X8_init rfl rfl rfl ini8 ml8 im8 rfl (by decide +kernel) ⟨Nat.le_of_ble_eq_true rfl, Nat.le_of_ble_eq_true rfl⟩) ⟨rfl, hq1⟩ rfl rfl (Nat.le_of_ble_eq_true rfl) dL_law_4 ⟨Nat.le_of_ble_eq_true rfl, Nat.le_of_ble_eq_true rfl⟩ hL0 (fun x hx => hx.elim (fun z => by rw [z, hn1.1]; exact Nat.le_refl _) (fun z => by have := hn1.2.1; show s.heap.size ≤ x; omega)) (fun H2 lo2 hp2 hl2 => ?_)
  refine lv_astore_n (lv' := [(1, .ref q1), (0, .ref b)]) hx hb dL_law_7 rfl hl (by decide) rfl (fun ls hl => ?_)
  refine j_new (ci := 9) (fs := [.int (J 0), .null, .null, .null, .null, .null, .null, .null, .null, .null, .int (J 0), .null, .null, .null, .null, .null, .null, .null, .null, .int (J 0), .int (J 0), .null]) hx hb hts inlX9 tyX9 tyX9_ok hown cl9 it9 ini9 hK rfl (fun j hj => by rcases (show j = 0 ∨ j = 1 ∨ j = 2 ∨ j = 3 ∨ j = 4 ∨ j = 5 ∨ j = 6 ∨ j = 7 ∨ j = 8 ∨ j = 9 ∨ j = 10 ∨ j = 11 ∨ j = 12 ∨ j = 13 ∨ j = 14 ∨ j = 15 ∨ j = 16 ∨ j = 17 ∨ j = 18 ∨ j = 19 ∨ j = 20 ∨ j = 21 by omega) with rfl | rfl | rfl | rfl | rfl | rfl | rfl | rfl | rfl | rfl | rfl | rfl | rfl | rfl | rfl | rfl | rfl | rfl | rfl | rfl | rfl | rfl <;> rfl) (Nat.le_of_ble_eq_true rfl) (Nat.le_of_ble_eq_true rfl) dL_law_8 (fun q2 H3 hq3 hn3 => ?_)
  refine lv_dup hx hb dL_law_11 rfl ?_
  have z1 := hn1.2.1
  have z2 := hp2.1.1
  have z3 := hn3.2.1
  have e1 := hn1.1
  have e3 := hn3.1
  refine e_I (A := NewS s) (b := q2) (As := []) (rest := [.ref q2]) hx hb hml hown hts hK hl.1 (c_X9_init l G q2 H3.size) (cwI 0 hts gL_law_X9_init rfl rfl rfl ini9 ml9 im9 rfl (by decide +kernel) ⟨Nat.le_of_ble_eq_true rfl, Nat.le_of_ble_eq_true rfl⟩) ⟨rfl, hq3⟩ rfl rfl (Nat.le_of_ble_eq_true rfl) dL_law_12 ⟨Nat.le_of_ble_eq_true rfl, Nat.le_of_ble_eq_true rfl⟩ hl2 (fun x hx => hx.elim (fun z => by show s.heap.size ≤ x; omega) (fun z => by show s.heap.size ≤ x; omega)) (fun H4 lo4 hp4 hl4 => ?_)
  refine lv_astore_n (lv' := [(2, .ref q2), (1, .ref q1), (0, .ref b)]) hx hb dL_law_15 rfl hl (by decide) rfl (fun ls hl => ?_)
  refine j_const hx hb dL_law_16 ?_
  refine lv_istore_n (lv' := [(3, .int (J 0)), (2, .ref q2), (1, .ref q1), (0, .ref b)]) hx hb dL_law_17 rfl hl (by decide) rfl (fun ls hl => ?_)
  have z4 := hp4.1.1
  have f12 : Fr s.heap H2 (NewS s) 37 := ((Fr.rf (H := s.heap) (S := NewS s)).n hn1).f hp2.1 (fun x hx1 hx2 => absurd hx1 (by omega))
  have f24 : Fr H2 H4 (fun x => x = q2) 19 := ((Fr.rf (H := H2) (S := fun x => x = q2)).n hn3).f hp4.1 (fun x _ h => h)
  have hsz : H1.size = q1 + 1 := by omega
  have hR2 : RW G H2 (a0 q1 (q1 + 1)) (f0 (q1 + 1)) (fun _ => []) (fun _ _ => 0) (fun _ => 0) V0 := by
    have w := hp2.2
    rw [hsz] at w
    exact RW.start (Nat.lt_succ_self _) w.1 w.2.1 w.2.2.1 w.2.2.2.1 w.2.2.2.2.1 w.2.2.2.2.2.1 w.2.2.2.2.2.2.1 w.2.2.2.2.2.2.2 _
  have hR4 := hR2.fr f24 (fun t i hd => by have := adr0 (q := q1) t i hd; omega)
  refine law_loop (a := a0 q1 (q1 + 1)) (ad := b0 q2 H3.size) (G := G) hL C0 hK (b0_dj (by omega)) (fun i _ => by have := b0_ge (q := q2) (sz := H3.size) (by omega) i; omega) 513 0 (by omega) (by omega) (by omega) _ _ (by decide) (by decide) H4 lo4 ⟨⟨by omega, fun x h1 h2 => (f24.2 x (by omega) (by show ¬ x = q2; omega)).trans (f12.2 x h1 h2), hl4⟩, V0, _, _, _, _, _, _, _, hR4, hp4.2, fun _ _ => rfl, fun t i hd => ?_⟩ ls (lv_sub hl [3, 2, 1, 0] rfl)
  have w := adr0 (q := q1) t i hd
  refine ⟨by omega, fun ⟨k, _, hk⟩ => ?_⟩
  have := b0_ge (q := q2) (sz := H3.size) (by omega) k
  omega
