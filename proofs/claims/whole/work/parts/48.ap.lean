/-! an appeal of all like -/
theorem apN_rng (V : St) (h lk : Int) {i : Int} (h0 : 0 ≤ i) : 0 ≤ apN V h lk i ∧ apN V h lk i ≤ i := by
  refine lo_inv (g := fun x o => if apQ V h lk o then x + 1 else x) (fun x j => 0 ≤ x ∧ x ≤ j) h0 ⟨by omega, by omega⟩ (fun x j a b hx => ?_)
  show 0 ≤ (if apQ V h lk j then x + 1 else x) ∧ (if apQ V h lk j then x + 1 else x) ≤ j + 1
  split <;> omega
theorem apN_s {V : St} {h lk i : Int} (h0 : 0 ≤ i) : apN V h lk (i + 1) = if apQ V h lk i then apN V h lk i + 1 else apN V h lk i := lo_s _ _ h0
theorem apW_s {V : St} {h d c lk i : Int} (h0 : 0 ≤ i) : apW V h d c lk (i + 1) = if apQ V h lk i then sAd (apW V h d c lk i) i d 2 c else apW V h d c lk i := lo_s _ _ h0
theorem ap_like {V : St} {h lk o : Int} (hl : lk ≠ 0) : apQ V h lk o ↔ (V 2 o = V 2 h ∧ V 3 o = V 3 h) := by
  unfold apQ
  constructor
  · rintro (rfl | z)
    · exact ⟨rfl, rfl⟩
    · exact z.2
  · exact fun z => Or.inr ⟨hl, z⟩
