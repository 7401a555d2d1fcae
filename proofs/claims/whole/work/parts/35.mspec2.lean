theorem lo_keep {g : St → Int → St} {a : St} {c : Nat} {i : Int} (h0 : 0 ≤ i) (h : ∀ X j, g X j c = X c) : lo g a i c = a c := lo_inv (fun X _ => X c = a c) h0 rfl (fun X j _ _ hx => (h X j).trans hx)
theorem hoB_0 {V : St} {w k t z r i : Int} (h0 : 0 ≤ i) : hoB V w k t z r i 0 0 = V 0 0 := by
  have q := lo_keep (g := fun X y => vu X 16 (10 * V 0 0 + y) (-4)) (a := hoW V w k t z r) (c := 0) h0 (fun X j => vu_n _ _ _ (by omega))
  unfold hoB
  rw [q]; rfl
theorem stB_0 {V : St} {y nd p i : Int} (h0 : 0 ≤ i) : stB V y nd p i 0 0 = V 0 0 := by
  have q := lo_keep (g := fun X h => vu X 16 (10 * h + y) (mYr V h y * p / 365000)) (a := stW V y nd p) (c := 0) h0 (fun X j => vu_n _ _ _ (by omega))
  unfold stB
  rw [q]; rfl
theorem mLp_rng (V : St) (y nd : Int) : mLp V y nd = -4 ∨ (0 ≤ mLp V y nd ∧ mLp V y nd ≤ 3000) := by
  have q := lo_inv (g := fun x p => if x = -4 ∧ nd ≤ mBt V y p then p else x) (a := -4) (i := 3001) (fun x j => x = -4 ∨ (0 ≤ x ∧ x < j)) (by omega) (Or.inl rfl) (fun x j h1 h2 hx => by
    show (if x = -4 ∧ nd ≤ mBt V y j then j else x) = -4 ∨ (0 ≤ (if x = -4 ∧ nd ≤ mBt V y j then j else x) ∧ (if x = -4 ∧ nd ≤ mBt V y j then j else x) < j + 1)
    split <;> omega)
  unfold mLp
  omega
theorem Iv.v11 {V : St} (h : Iv V) (z x : Int) (hz : 18 * V 0 1 ≤ z) : Iv (vu V 11 z x) := by
  refine ⟨h.1, h.2.1, h.2.2.1, h.2.2.2.1, fun i w h0 h1 h2 h3 => ?_, h.2.2.2.2.2.1, h.2.2.2.2.2.2⟩
  have q := h.u h0 h1 h2 h3
  show (1 ≤ (if 18 * i + w = z then x else V 11 (18 * i + w)) ∧ (if 18 * i + w = z then x else V 11 (18 * i + w)) ≤ 100000) ∧ _
  have h1' : i < V 0 1 := h1
  rw [if_neg (by omega)]
  exact q
/-- what an appeal answers -/
noncomputable def apR (V : St) (h d v lk : Int) : Int := if (0 ≤ h ∧ h < V 0 0) ∧ (0 ≤ d ∧ d < 3650) ∧ 1 ≤ v ∧ v ≤ 900 then (@ite Int (apF V h lk) (Classical.propDecidable _) (-3) (apN V h lk (V 0 0))) else -1
theorem ap_v1 {V : St} {h d v lk : Int} (q : ¬ ((0 ≤ h ∧ h < V 0 0) ∧ (0 ≤ d ∧ d < 3650) ∧ 1 ≤ v ∧ v ≤ 900)) : apR V h d v lk = -1 := by unfold apR; rw [if_neg q]
theorem ap_v3 {V : St} {h d v lk : Int} (q : (0 ≤ h ∧ h < V 0 0) ∧ (0 ≤ d ∧ d < 3650) ∧ 1 ≤ v ∧ v ≤ 900) (f : apF V h lk) : apR V h d v lk = -3 := by unfold apR; rw [if_pos q, if_pos f]
theorem ap_v {V : St} {h d v lk : Int} (q : (0 ≤ h ∧ h < V 0 0) ∧ (0 ≤ d ∧ d < 3650) ∧ 1 ≤ v ∧ v ≤ 900) (f : ¬ apF V h lk) : apR V h d v lk = apN V h lk (V 0 0) := by unfold apR; rw [if_pos q, if_neg f]
