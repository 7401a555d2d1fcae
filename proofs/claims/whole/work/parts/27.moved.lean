theorem tdv {x : Int} (h : -1 ≤ x ∧ x ≤ 40) : 0 ≤ x.tdiv 2 ∧ x.tdiv 2 ≤ 40 := by
  by_cases z : 0 ≤ x
  · rw [Int.tdiv_eq_ediv_of_nonneg z]; omega
  · rw [show x = -1 by omega]; decide
theorem Hn_fr {H H1 : Heap} {a : Nat} (h : Hn H H1 a) : Fr H H1 (fun _ => False) 1 := ⟨h.2.1, fun x h1 _ => h.2.2 x h1⟩
theorem Hx_fr {H H1 : Heap} {a : Nat} (h : Hx H H1 a) : Fr H H1 (fun x => x = a) 0 := ⟨h.1, fun x _ h2 => h.2 x h2⟩
theorem l4_row {sz : Nat} {i : Int} (h0 : 0 ≤ i) (j : Int) : uf (fun j : Int => if j < i then some (sz + (1 + j.toNat)) else none) i (some (sz + (1 + i.toNat))) j = if j < i + 1 then some (sz + (1 + j.toNat)) else none := by
  simp only [uf]
  by_cases z1 : j = i
  · subst z1; rw [if_pos rfl, if_pos (by omega)]
  · rw [if_neg z1]
    by_cases z2 : j < i
    · rw [if_pos z2, if_pos (by omega)]
    · rw [if_neg z2, if_neg (by omega)]
theorem ev_in {G : GG} {H : Heap} {q b : Nat} {L : List EvT} {e : EvT} (h1 : At G H q (eO 1 [.ref b, .int (J ((L.length : Int) + 1))])) (h2 : At G H b (eQ G 3 12 (qL (insL L e)))) (h3 : L.length < 12) (h4 : ∀ e ∈ L, At G H (eAd e) (eEv e)) (h5 : At G H (eAd e) (eEv e)) (h6 : ∀ e ∈ L, eOk e) (h7 : eOk e) : Evs G H q b (insL L e) := by
  have hm : ∀ x ∈ insL L e, x = e ∨ x ∈ L := by
    intro x hx
    unfold insL at hx
    rcases List.mem_append.mp hx with h | h
    · exact Or.inr (List.mem_of_mem_take h)
    · rcases List.mem_cons.mp h with h | h
      · exact Or.inl h
      · exact Or.inr (List.mem_of_mem_drop h)
  refine ⟨by rw [insL_len]; exact h1, h2, by rw [insL_len]; omega, fun x hx => ?_, fun x hx => ?_⟩
  · rcases hm x hx with h | h
    · rw [h]; exact h5
    · exact h4 x h
  · rcases hm x hx with h | h
    · rw [h]; exact h7
    · exact h6 x h
theorem ev_out {G : GG} {H : Heap} {q b : Nat} {L : List EvT} {n i : Int} {p : Nat} (hu : ((drL L n).length : Int) = (L.length : Int) - 1) (hp : ∀ j : Nat, (drL L n)[j]? = if j < p then L[j]? else L[j + 1]?) (hi : 12 ≤ i) (h1 : At G H q (eO 1 [.ref b, .int (J ((L.length : Int) - 1))])) (h2 : At G H b (eQ G 3 12 (shG L p i))) (h3 : L.length ≤ 12) (h4 : ∀ e ∈ L, At G H (eAd e) (eEv e)) (h6 : ∀ e ∈ L, eOk e) : Evs G H q b (drL L n) := by
  have hm : ∀ x ∈ drL L n, x ∈ L := fun x hx => (List.mem_filter.mp hx).1
  refine ⟨by rw [hu]; exact h1, eQ_congr (fun j a c => ?_) h2, by omega, fun x hx => h4 x (hm x hx), fun x hx => h6 x (hm x hx)⟩
  have z := hp j.toNat
  by_cases y : (p : Int) ≤ j
  · rw [if_neg (by omega)] at z
    unfold shG
    rw [if_pos ⟨y, by omega⟩]
    unfold qL
    rw [if_pos (show (0 : Int) ≤ j + 1 by omega), if_pos a, z, show (j + 1).toNat = j.toNat + 1 by omega]
  · rw [if_pos (by omega)] at z
    unfold shG
    rw [if_neg (by omega)]
    unfold qL
    rw [if_pos a, if_pos a, z]
