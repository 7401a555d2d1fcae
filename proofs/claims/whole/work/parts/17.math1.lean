/-! from change to change -/
theorem foldl_congr {α β : Type} {g g' : α → β → α} : ∀ (L : List β) (x : α), (∀ e ∈ L, ∀ x, g x e = g' x e) → L.foldl g x = L.foldl g' x := by
  intro L
  induction L with
  | nil => intro x _; rfl
  | cons a L ih =>
    intro x h
    rw [List.foldl_cons, List.foldl_cons, h a List.mem_cons_self, ih _ (fun e he => h e (List.mem_cons_of_mem _ he))]
theorem snr_le (ch d nx : Int) : snr ch d nx ≤ nx := by unfold snr; split <;> omega
theorem nxE_le (d : Int) : ∀ (L : List EvT) (x : Int), L.foldl (gNx d) x ≤ x := by
  intro L
  induction L with
  | nil => intro x; exact Int.le_refl _
  | cons a L ih =>
    intro x
    rw [List.foldl_cons]
    refine Int.le_trans (ih _) ?_
    unfold gNx
    exact Int.le_trans (snr_le _ _ _) (snr_le _ _ _)
theorem nxE_spec (d : Int) : ∀ (L : List EvT) (x : Int), ∀ e ∈ L, (eDy e ≤ d ∨ L.foldl (gNx d) x ≤ eDy e) ∧ (eDy e + 90 ≤ d ∨ L.foldl (gNx d) x ≤ eDy e + 90) := by
  intro L
  induction L with
  | nil => intro x e h; cases h
  | cons a L ih =>
    intro x e h
    rw [List.foldl_cons]
    rcases List.mem_cons.mp h with h | h
    · subst h
      have q := nxE_le d L (gNx d x e)
      have h1 : (eDy e ≤ d ∨ gNx d x e ≤ eDy e) ∧ (eDy e + 90 ≤ d ∨ gNx d x e ≤ eDy e + 90) := by
        unfold gNx snr
        (repeat' split) <;> omega
      omega
    · exact ih _ e h
theorem nxL_spec {V : St} {d nx : Int} (hl : 0 ≤ V 0 1) {i : Int} (h0 : 0 ≤ i) (h1 : i < V 0 1) : V 10 i ≤ d ∨ nxL V d nx ≤ V 10 i := by
  have q := lo_inv2 (g := fun x i => snr (V 10 i) d x) (a := nx) (i0 := i + 1) (i := V 0 1) (fun x _ => V 10 i ≤ d ∨ x ≤ V 10 i) (by omega) (by omega) (by
    rw [lo_s _ _ h0]
    show V 10 i ≤ d ∨ snr (V 10 i) d _ ≤ V 10 i
    unfold snr; split <;> omega) (fun x j h2 h3 hx => by
    have := snr_le (V 10 j) d x
    show V 10 i ≤ d ∨ snr (V 10 j) d x ≤ V 10 i
    omega)
  exact q
theorem lat_same {L : List EvT} {k d d' : Int} (h : ∀ e ∈ L, eDy e ≤ d' ↔ eDy e ≤ d) : lat L k d' = lat L k d := foldl_congr L none (fun e he x => by
  have := h e he
  by_cases q : eKi e = k ∧ eDy e ≤ d
  · rw [if_pos q, if_pos ⟨q.1, this.mpr q.2⟩]
  · rw [if_neg q, if_neg (fun z => q ⟨z.1, this.mp z.2⟩)])
theorem cO_same {V : St} {L : List EvT} {h d d' nx : Int} (hV : Iv V) (hL : L.length ≤ 12) (h1 : d ≤ d') (h2 : d' < nxL V d (nxE L d nx)) (hn : d < nx) : cO V L h d' = cO V L h d := by
  have he := nxE_rng hL hn
  have hl := nxL_rng hV he.1
  have hE : ∀ e ∈ L, (eDy e ≤ d' ↔ eDy e ≤ d) ∧ (d' - eDy e < 90 ↔ d - eDy e < 90) := fun e hm => by
    have q : (eDy e ≤ d ∨ nxE L d nx ≤ eDy e) ∧ (eDy e + 90 ≤ d ∨ nxE L d nx ≤ eDy e + 90) := nxE_spec d L nx e hm
    omega
  have hlat : ∀ k, lat L k d' = lat L k d := fun k => lat_same (fun e hm => (hE e hm).1)
  have hst : stO V d' = stO V d := lo_congr (-4) hV.l.1 (fun x j h3 h4 => by
    have q := nxL_spec (d := d) (nx := nxE L d nx) hV.l.1 h3 h4
    by_cases z : V 10 j ≤ d
    · rw [if_pos z, if_pos (by omega)]
    · rw [if_neg z, if_neg (by omega)])
  have hsz : ∀ z, szO L z d' = szO L z d := fun z => by unfold szO; rw [hlat]
  have hct : ∀ f w, ctd L f d' w = ctd L f d w := fun f w => foldl_congr L w (fun e hm x => by
    have q := (hE e hm).1
    by_cases z : eKi e = 2 ∧ f ≤ eDy e ∧ eDy e ≤ d
    · rw [if_pos z, if_pos ⟨z.1, z.2.1, q.mpr z.2.2⟩]
    · rw [if_neg z, if_neg (fun y => z ⟨y.1, y.2.1, q.mp y.2.2⟩)])
  have hw : wO V L h d' = wO V L h d := by unfold wO; rw [hst, hsz, hct]
  unfold cO
  rw [hlat, hw]
  split
  · rfl
  · rename_i e hm
    have q := (hE e (lat_mem hm)).2
    by_cases z : d - eDy e < 90
    · rw [if_pos z, if_pos (q.mpr z)]
    · rw [if_neg z, if_neg (fun y => z (q.mp y))]
theorem lo_seg {g : Int → Int} {i k c : Int} (hi : 0 ≤ i) (hk : 0 ≤ k) (h : ∀ j, i ≤ j → j < i + k → g j = c) : lo (fun x j => x + g j) 0 (i + k) = lo (fun x j => x + g j) 0 i + k * c := by
  obtain ⟨n, rfl⟩ : ∃ n : Nat, k = (n : Int) := ⟨k.toNat, by omega⟩
  clear hk
  induction n with
  | zero => simp
  | succ n ih =>
    have e : i + ((n + 1 : Nat) : Int) = i + (n : Int) + 1 := by omega
    rw [e, lo_s _ _ (by omega), ih (fun j h1 h2 => h j h1 (by omega)), h _ (by omega) (by omega)]
    have e2 : ((n + 1 : Nat) : Int) * c = (n : Int) * c + c := by rw [show ((n + 1 : Nat) : Int) = (n : Int) + 1 by omega, Int.add_mul, Int.one_mul]
    omega
/-- one stretch of a year -/
theorem yr_seg {V : St} {L : List EvT} {h y d en : Int} (hV : Iv V) (hL : L.length ≤ 12) (h0 : 365 * y ≤ d) (hn : d < en) : lo (fun x j => x + rlv (cO V L h (365 * y + j))) 0 (nxL V d (nxE L d en) - 365 * y) = lo (fun x j => x + rlv (cO V L h (365 * y + j))) 0 (d - 365 * y) + (nxL V d (nxE L d en) - d) * rlv (cO V L h d) := by
  have he := nxE_rng hL hn
  have hl := nxL_rng hV he.1
  have q := lo_seg (g := fun j => rlv (cO V L h (365 * y + j))) (i := d - 365 * y) (k := nxL V d (nxE L d en) - d) (c := rlv (cO V L h d)) (by omega) (by omega) (fun j h1 h2 => by
    show rlv (cO V L h (365 * y + j)) = _
    rw [cO_same (d := d) (d' := 365 * y + j) (nx := en) hV hL (by omega) (by omega) hn])
  rw [show d - 365 * y + (nxL V d (nxE L d en) - d) = nxL V d (nxE L d en) - 365 * y by omega] at q
  exact q
theorem lo_sum_rng {g : Int → Int} {n B : Int} (hn : 0 ≤ n) (hB : 0 ≤ B) (h : ∀ j, 0 ≤ j → j < n → 0 ≤ g j ∧ g j ≤ B) : 0 ≤ lo (fun x j => x + g j) 0 n ∧ lo (fun x j => x + g j) 0 n ≤ n * B := by
  refine lo_inv (fun x j => 0 ≤ x ∧ x ≤ j * B) hn (by simp) (fun x j h1 h2 hx => ?_)
  have q := h j h1 h2
  have e : (j + 1) * B = j * B + B := by rw [Int.add_mul, Int.one_mul]
  show 0 ≤ x + g j ∧ x + g j ≤ (j + 1) * B
  omega
theorem yrO_rng {V : St} {L : List EvT} {h y : Int} (hV : Iv V) (hok : ∀ e ∈ L, eOk e) (h0 : 0 ≤ h) (h1 : h < V 0 0) : 0 ≤ yrO V L h y ∧ yrO V L h y ≤ 20000000000 := by
  have q := lo_sum_rng (g := fun j => rlv (cO V L h (365 * y + j))) (n := 365) (B := 50000000) (by omega) (by omega) (fun j _ _ => rlv_rng (cO_rng hV hok h0 h1))
  unfold yrO; omega
/-! the least poundage -/
theorem bill_mono {y p p' : Int} (hy : 0 ≤ y) (h : p ≤ p') : y * p / 365000 ≤ y * p' / 365000 := Int.ediv_le_ediv (by omega) (Int.mul_le_mul_of_nonneg_left h hy)
theorem bt_mono {ys : Int → Int} {p p' : Int} (hy : ∀ i, 0 ≤ i → i < 40 → 0 ≤ ys i) (h : p ≤ p') : bt ys p ≤ bt ys p' := by
  have key : ∀ n : Nat, (n : Int) ≤ 40 → lo (fun x i => x + ys i * p / 365000) 0 (n : Int) ≤ lo (fun x i => x + ys i * p' / 365000) 0 (n : Int) := by
    intro n
    induction n with
    | zero => intro _; exact Int.le_refl _
    | succ n ih =>
      intro hn
      rw [show ((n + 1 : Nat) : Int) = (n : Int) + 1 by omega, lo_s _ _ (by omega), lo_s _ _ (by omega)]
      have q := ih (by omega)
      have z := bill_mono (hy n (by omega) (by omega)) h
      omega
  exact key 40 (by omega)
theorem bill_rng {y p : Int} (hy : 0 ≤ y ∧ y ≤ 20000000000) (hp : 0 ≤ p ∧ p ≤ 3000) : 0 ≤ y * p / 365000 ∧ y * p / 365000 ≤ 170000000 := by
  have q := mulb hy.1 hy.2 hp.1 hp.2
  omega
theorem bt_rng {ys : Int → Int} {p : Int} (hy : ∀ i, 0 ≤ i → i < 40 → 0 ≤ ys i ∧ ys i ≤ 20000000000) (hp : 0 ≤ p ∧ p ≤ 3000) : 0 ≤ bt ys p ∧ bt ys p ≤ 6800000000 := by
  have q := lo_sum_rng (g := fun i => ys i * p / 365000) (n := 40) (B := 170000000) (by omega) (by omega) (fun j h1 h2 => bill_rng (hy j h1 h2) hp)
  unfold bt; omega
theorem lpO_spec (ys : Int → Int) (nd : Int) : (lpO ys nd = -4 ∧ ∀ p, 0 ≤ p → p ≤ 3000 → bt ys p < nd) ∨ ((0 ≤ lpO ys nd ∧ lpO ys nd ≤ 3000) ∧ nd ≤ bt ys (lpO ys nd) ∧ ∀ p, 0 ≤ p → p < lpO ys nd → bt ys p < nd) := by
  have q := lo_inv (g := fun x p => if x = -4 ∧ nd ≤ bt ys p then p else x) (a := -4) (i := 3001) (fun x j => (x = -4 ∧ ∀ p, 0 ≤ p → p < j → bt ys p < nd) ∨ ((0 ≤ x ∧ x < j) ∧ nd ≤ bt ys x ∧ ∀ p, 0 ≤ p → p < x → bt ys p < nd)) (by omega) (Or.inl ⟨rfl, fun p h1 h2 => by omega⟩) (fun x j h1 h2 hx => by
    show ((if x = -4 ∧ nd ≤ bt ys j then j else x) = -4 ∧ _) ∨ _
    by_cases z : x = -4 ∧ nd ≤ bt ys j
    · rcases hx with hx | hx
      · refine Or.inr ?_
        rw [if_pos z]
        exact ⟨⟨h1, by omega⟩, z.2, hx.2⟩
      · omega
    · rw [if_neg z]
      rcases hx with hx | hx
      · refine Or.inl ⟨hx.1, fun p h3 h4 => ?_⟩
        by_cases w : p = j
        · subst w
          by_cases v : nd ≤ bt ys p
          · exact absurd ⟨hx.1, v⟩ z
          · omega
        · exact hx.2 p h3 (by omega)
      · exact Or.inr ⟨⟨hx.1.1, by omega⟩, hx.2⟩)
  rcases q with q | q
  · exact Or.inl ⟨q.1, fun p h1 h2 => q.2 p h1 (by omega)⟩
  · exact Or.inr ⟨⟨q.1.1, by have := q.1.2; unfold lpO; omega⟩, q.2⟩
theorem lpO_none {ys : Int → Int} {nd : Int} (h : bt ys 3000 < nd) (hy : ∀ i, 0 ≤ i → i < 40 → 0 ≤ ys i) : lpO ys nd = -4 := by
  rcases lpO_spec ys nd with q | q
  · exact q.1
  · have := bt_mono hy q.1.2
    omega
theorem lpO_some {ys : Int → Int} {nd : Int} (h : nd ≤ bt ys 3000) : (0 ≤ lpO ys nd ∧ lpO ys nd ≤ 3000) ∧ nd ≤ bt ys (lpO ys nd) ∧ ∀ p, 0 ≤ p → p < lpO ys nd → bt ys p < nd := by
  rcases lpO_spec ys nd with q | q
  · have := q.2 3000 (by omega) (by omega)
    omega
  · exact q
/-- a power of two -/
def ipw (s : Int) : Prop := ∃ k : Nat, s = 2 ^ k
theorem ipw_half {s : Int} (h : ipw s) : (s = 1 ∧ s / 2 = 0) ∨ (0 < s / 2 ∧ 2 * (s / 2) = s ∧ ipw (s / 2)) := by
  obtain ⟨k, rfl⟩ := h
  cases k with
  | zero => exact Or.inl ⟨rfl, rfl⟩
  | succ k =>
    have e : (2 : Int) ^ (k + 1) = 2 * 2 ^ k := by rw [Int.pow_succ, Int.mul_comm]
    have p : (0 : Int) < 2 ^ k := Int.pow_pos (by omega)
    have d : (2 : Int) ^ (k + 1) / 2 = 2 ^ k := by omega
    exact Or.inr ⟨by omega, by omega, k, d⟩
/-- the halving's state: the answer lies in a stretch behind q -/
def hlv (a q s : Int) : Prop := (s = 0 ∧ a = q) ∨ (0 < s ∧ s ≤ 2048 ∧ ipw s ∧ q ≤ a ∧ a < q + 2 * s)
theorem hlv_up {a q s : Int} (hs : 0 < s) (h : hlv a q s) (h2 : q + s ≤ a) : hlv a (q + s) (s / 2) := by
  rcases h with h | h
  · omega
  · rcases ipw_half h.2.2.1 with z | z
    · exact Or.inl (by omega)
    · exact Or.inr ⟨by omega, by omega, z.2.2, by omega, by omega⟩
theorem hlv_stay {a q s : Int} (hs : 0 < s) (h : hlv a q s) (h2 : a < q + s) : hlv a q (s / 2) := by
  rcases h with h | h
  · omega
  · rcases ipw_half h.2.2.1 with z | z
    · exact Or.inl (by omega)
    · exact Or.inr ⟨by omega, by omega, z.2.2, by omega, by omega⟩
