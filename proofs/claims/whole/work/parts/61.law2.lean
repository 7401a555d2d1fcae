/-! the machine's tables, at the law's entry -/
theorem lw_pl {A : Array Value} {s : State} (hts : ∀ w ∈ lw_tbl, w.before A s = true) {w : Cond} (i : Nat) (h : lw_tbl[i]? = some w) : w.before A s = true := hts w (List.mem_of_getElem? h)
theorem arr_of {A : Array Value} {s : State} {ty : FieldType} (h : (Cond.arrayClass ty).before A s = true) : ∃ cA : ClassId, ArrOfT s cA ty ∧ s.vm.findClass ("[" ++ ty.toString) = some cA := by
  obtain ⟨cA, kA, comp, h1, h2, h3⟩ := Cond.arrayClass_spec h
  exact ⟨cA, fun n z => ⟨fun k h => (by cases h), kA, h2, comp, h3⟩, h1⟩
theorem arr_ov {A : Array Value} {s : State} {C : String} (h : (Cond.arrayOver (.object C)).before A s = true) : ∃ cA : ClassId, ArrOfT s cA (.object C) ∧ va_RA s cA (.object C) := by
  obtain ⟨comp, cA, kA, h1, -, h2, h3, h4⟩ := Cond.arrayOver_spec h
  exact ⟨cA, fun n z => ⟨fun k h => (by cases h), kA, h2, comp, h3⟩, kA, comp, h2, h3, h1, h4⟩
set_option maxRecDepth 20000 in
theorem KK_start {A : Array Value} {s : State} (hts : ∀ w ∈ lw_tbl, w.before A s = true) : ∃ G : GG, KK G s := by
  have hw : ∀ w ∈ wsL_law, w.before A s = true := fun w h => hts w (wsL_law_in w h)
  have pl : ∀ (w : Cond) (i : Nat), wsL_law[i]? = some w → w.before A s = true := fun w i h => hw w (List.mem_of_getElem? h)
  obtain ⟨c0, i0, k0⟩ := u_known (C := RX0) (T := TX0) (N := 4) (n := 4) hts inX0 (pl _ 275 (by decide +kernel))
  obtain ⟨c1, i1, k1⟩ := u_known (C := RX1) (T := TX1) (N := 2) (n := 2) hts inX1 (pl _ 97 (by decide +kernel))
  obtain ⟨c2, i2, k2⟩ := u_known (C := RX2) (T := TX2) (N := 7) (n := 7) hts inX2 (pl _ 84 (by decide +kernel))
  obtain ⟨c3, i3, k3⟩ := u_known (C := RX3) (T := TX3) (N := 2) (n := 2) hts inX3 (pl _ 17 (by decide +kernel))
  obtain ⟨c4, i4, k4⟩ := u_known (C := RX4) (T := TX4) (N := 2) (n := 2) hts inX4 (pl _ 238 (by decide +kernel))
  obtain ⟨c5, i5, k5⟩ := u_known (C := RX5) (T := TX5) (N := 2) (n := 2) hts inX5 (pl _ 13 (by decide +kernel))
  obtain ⟨c6, i6, k6⟩ := u_known (C := RX6) (T := TX6) (N := 4) (n := 4) hts inX6 (pl _ 145 (by decide +kernel))
  obtain ⟨c7, i7, k7⟩ := u_known (C := RX7) (T := TX7) (N := 5) (n := 5) hts inX7 (pl _ 24 (by decide +kernel))
  obtain ⟨c8, i8, k8⟩ := u_known (C := RX8) (T := TX8) (N := 4) (n := 4) hts inX8 (pl _ 1 (by decide +kernel))
  obtain ⟨c9, i9, k9⟩ := u_known (C := RX9) (T := TX9) (N := 22) (n := 22) hts inX9 (pl _ 4 (by decide +kernel))
  have hH : (Cond.arrayOver (.object RX2)).before A s = true := lw_pl hts 58 (by decide +kernel)
  have hR : (Cond.arrayOver (.object RX4)).before A s = true := lw_pl hts 74 (by decide +kernel)
  have hY : (Cond.arrayOver (.object RX7)).before A s = true := lw_pl hts 84 (by decide +kernel)
  have hE : (Cond.arrayOver (.object RX0)).before A s = true := lw_pl hts 148 (by decide +kernel)
  have hU : (Cond.arrayOver (.object RX6)).before A s = true := lw_pl hts 284 (by decide +kernel)
  obtain ⟨a0, x0, y0⟩ := arr_of (lw_pl (w := .arrayClass .int) hts 107 (by decide +kernel))
  obtain ⟨a1, x1, y1⟩ := arr_of (lw_pl (w := .arrayClass .long) hts 106 (by decide +kernel))
  obtain ⟨a2, x2, y2⟩ := arr_of (lw_pl (w := .arrayClass .boolean) hts 596 (by decide +kernel))
  obtain ⟨a3, x3, y3⟩ := arr_ov hE
  obtain ⟨a4, x4, y4⟩ := arr_ov hH
  obtain ⟨a5, x5, y5⟩ := arr_ov hR
  obtain ⟨a6, x6, y6⟩ := arr_ov hU
  obtain ⟨a7, x7, y7⟩ := arr_ov hY
  refine ⟨((fun k => match k with | 0 => c0 | 1 => c1 | 2 => c2 | 3 => c3 | 4 => c4 | 5 => c5 | 6 => c6 | 7 => c7 | 8 => c8 | _ => c9, fun k => match k with | 0 => i0 | 1 => i1 | 2 => i2 | 3 => i3 | 4 => i4 | 5 => i5 | 6 => i6 | 7 => i7 | 8 => i8 | _ => i9), fun k => match k with | 0 => a0 | 1 => a1 | 2 => a2 | 3 => a3 | 4 => a4 | 5 => a5 | 6 => a6 | _ => a7), ⟨?_, ?_⟩, ⟨?_, ?_, ?_, ?_, ?_, ?_⟩, va_AO.of hE, va_AO.of hH, va_AO.of hR, va_AO.of hU, va_AO.of hY⟩
  · intro k q hq
    match k, hq with
    | 0, hq => cases hq; exact k0
    | 1, hq => cases hq; exact k1
    | 2, hq => cases hq; exact k2
    | 3, hq => cases hq; exact k3
    | 4, hq => cases hq; exact k4
    | 5, hq => cases hq; exact k5
    | 6, hq => cases hq; exact k6
    | 7, hq => cases hq; exact k7
    | 8, hq => cases hq; exact k8
    | 9, hq => cases hq; exact k9
    | k + 10, hq => simp [vwCl] at hq
  · intro k q hq
    match k, hq with
    | 0, hq => cases hq; exact ⟨x0, y0⟩
    | 1, hq => cases hq; exact ⟨x1, y1⟩
    | 2, hq => cases hq; exact ⟨x2, y2⟩
    | 3, hq => cases hq; exact ⟨x3, y3⟩
    | 4, hq => cases hq; exact ⟨x4, y4⟩
    | 5, hq => cases hq; exact ⟨x5, y5⟩
    | 6, hq => cases hq; exact ⟨x6, y6⟩
    | 7, hq => cases hq; exact ⟨x7, y7⟩
    | k + 8, hq => simp [tysG] at hq
  · exact va_Nw.of rfl (lw_pl hts 152 (by decide +kernel))
  · exact va_Nw.of rfl (lw_pl hts 61 (by decide +kernel))
  · exact va_Nw.of rfl (lw_pl hts 77 (by decide +kernel))
  · exact va_Nw.of rfl (lw_pl hts 151 (by decide +kernel))
  · exact va_Nw.of rfl (lw_pl hts 413 (by decide +kernel))
  · exact va_Nw.of rfl (lw_pl hts 420 (by decide +kernel))
