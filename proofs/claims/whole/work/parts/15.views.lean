/-- up to n alone -/
def gd {α : Type} (n : Int) (g : α → Int → α) : α → Int → α := fun x i => if i < n then g x i else x
theorem lo_gd {α : Type} {g : α → Int → α} {a : α} {n N : Int} (h0 : 0 ≤ n) (h1 : n ≤ N) : lo (gd n g) a N = lo g a n := by
  rw [lo_stay a h0 h1 (fun x k h2 h3 => by unfold gd; rw [if_neg (by omega)])]
  exact lo_congr a h0 (fun x j h2 h3 => by unfold gd; rw [if_pos h3])
theorem gNx_rng {L : List EvT} {d nx : Int} (h : d < nx) {i : Int} (hi : 0 ≤ i) : d < lo (ls_ L (gNx d)) nx i ∧ lo (ls_ L (gNx d)) nx i ≤ nx := by
  refine lo_inv (fun x _ => d < x ∧ x ≤ nx) hi ⟨h, Int.le_refl _⟩ (fun x j h1 h2 hx => ?_)
  unfold ls_
  split
  · exact hx
  · rename_i e _
    unfold gNx
    have q1 := snr_rng (ch := eDy e) hx.1
    have q2 := snr_rng (ch := eDy e + 90) q1.1
    omega
theorem gCtd_rng {L : List EvT} {f t w : Int} (hok : ∀ e ∈ L, eOk e) (h1 : 0 ≤ w) (h2 : w ≤ 50000000) {i : Int} (hi : 0 ≤ i) : 0 ≤ lo (ls_ L (gCtd f t)) w i ∧ lo (ls_ L (gCtd f t)) w i ≤ 50000000 := by
  refine lo_inv (fun x _ => 0 ≤ x ∧ x ≤ 50000000) hi ⟨h1, h2⟩ (fun x j h3 h4 hx => ?_)
  unfold ls_
  split
  · exact hx
  · rename_i e he
    have ho := hok e (List.mem_of_getElem? he)
    unfold eOk at ho
    unfold gCtd
    split
    · have q := mulb (a := x) (b := 1000 - eVa e) (A := 50000000) (B := 1000) hx.1 hx.2 (by omega) (by omega)
      omega
    · exact hx
theorem cnt_rng {p : Int → Prop} {d : ∀ i, Decidable (p i)} {n : Int} (hn : 0 ≤ n) : 0 ≤ lo (fun x i => x + @pI (p i) (d i)) 0 n ∧ lo (fun x i => x + @pI (p i) (d i)) 0 n ≤ n :=
  lo_inv (fun x i => 0 ≤ x ∧ x ≤ i) hn ⟨Int.le_refl _, Int.le_refl _⟩ (fun x j h1 h2 hx => by have := @pI_rng (p j) (d j); omega)
theorem rank_rng {V : St} (h : Iv V) (k s out i : Int) : 0 ≤ rank V k s out i ∧ rank V k s out i ≤ 40 := by
  have q := cnt_rng (p := fun o => asked V k s out o ∧ less V o i) (d := fun o => inferInstance) h.n.1
  have := h.n
  unfold rank; omega
theorem among_rng {V : St} (h : Iv V) (k s out : Int) : 0 ≤ among V k s out ∧ among V k s out ≤ 40 := by
  have q := cnt_rng (p := fun o => asked V k s out o) (d := fun o => inferInstance) h.n.1
  have := h.n
  unfold among; omega
/-! lists -/
def stO (V : St) (d : Int) : Int := lo (fun x i => if V 10 i ≤ d then i else x) (-4) (V 0 1)
def nxL (V : St) (d nx : Int) : Int := lo (fun x i => snr (V 10 i) d x) nx (V 0 1)
theorem gd_nxL_rng {V : St} {n d nx : Int} (h : d < nx) {i : Int} (hi : 0 ≤ i) : d < lo (gd n (fun x i => snr (V 10 i) d x)) nx i ∧ lo (gd n (fun x i => snr (V 10 i) d x)) nx i ≤ nx := by
  refine lo_inv (fun x _ => d < x ∧ x ≤ nx) hi ⟨h, Int.le_refl _⟩ (fun x j h1 h2 hx => ?_)
  unfold gd
  split
  · have := snr_rng (ch := V 10 j) hx.1
    show d < snr (V 10 j) d x ∧ snr (V 10 j) d x ≤ nx
    omega
  · exact hx
theorem nxL_rng {V : St} {d nx : Int} (hV : Iv V) (h : d < nx) : d < nxL V d nx ∧ nxL V d nx ≤ nx := by
  have q := gd_nxL_rng (V := V) (n := V 0 1) h hV.l.1
  rw [lo_gd hV.l.1 (Int.le_refl _)] at q
  exact q
theorem nxE_rng {L : List EvT} {d nx : Int} (hL : L.length ≤ 12) (h : d < nx) : d < nxE L d nx ∧ nxE L d nx ≤ nx := by
  have q := gNx_rng (L := L) h (i := 12) (by omega)
  rw [nxE_lo hL rfl] at q
  exact q
theorem stO_rng {V : St} (h : Iv V) (d : Int) : stO V d = -4 ∨ (0 ≤ stO V d ∧ stO V d < V 0 1 ∧ V 10 (stO V d) ≤ d) := by
  unfold stO
  have := h.l
  refine lo_inv (fun x i => x = -4 ∨ (0 ≤ x ∧ x < V 0 1 ∧ V 10 x ≤ d)) h.l.1 (Or.inl rfl) (fun x j h1 h2 hx => ?_)
  split
  · rename_i hj
    exact Or.inr ⟨h1, h2, hj⟩
  · exact hx
/-- the class's lists: the object, its row, each list, its row of units, each unit -/
def Li (G : GG) (H : Heap) (li lr : Nat) (rl ru un : Int → Nat) (uc ud : Int → Int) (V : St) : Prop :=
  Iv V ∧ At G H li (eO 3 [.ref lr, .int (J (V 0 1))]) ∧ At G H lr (eQ G 5 10 (qN (V 0 1) rl)) ∧ (∀ i, 0 ≤ i → i < V 0 1 → At G H (rl i) (eO 4 [.int (J (V 10 i)), .ref (ru i)])) ∧
  (∀ i, 0 ≤ i → i < V 0 1 → At G H (ru i) (eQ G 6 18 (fun j => some (un (18 * i + j))))) ∧
  (∀ i u, 0 ≤ i → i < V 0 1 → 0 ≤ u → u < 18 → At G H (un (18 * i + u)) (eO 6 [.int (J (V 11 (18 * i + u))), .int (J (V 12 (18 * i + u))), .int (J (uc (18 * i + u))), .int (J (ud (18 * i + u)))]))
/-! a year's book -/
def blF (V : St) (y : Int) : Int → Int := fun h => if h < V 0 0 then V 16 (10 * h + y) else -4
def pdF (V : St) (y : Int) : Int → Int := fun h => V 17 (10 * h + y)
def eBk (V : St) (yl yp : Int → Nat) (y : Int) : va_E := eO 7 [.ref (yl y), .ref (yp y), .int (J (V 13 y)), .int (J (V 15 y)), .int (J (V 14 y))]
def Bk (G : GG) (H : Heap) (yb yl yp : Int → Nat) (V : St) (y : Int) : Prop := Iv V ∧ At G H (yb y) (eBk V yl yp y) ∧ At G H (yl y) (eI G 40 (blF V y)) ∧ At G H (yp y) (eI G 40 (pdF V y))
theorem Iv.b {V : St} (h : Iv V) {i y : Int} (h0 : 0 ≤ i) (h1 : i < 40) (h2 : 0 ≤ y) (h3 : y < 10) : (V 16 (10 * i + y) = -4 ∨ (0 ≤ V 16 (10 * i + y) ∧ V 16 (10 * i + y) ≤ 200000000)) ∧ (0 ≤ V 17 (10 * i + y) ∧ V 17 (10 * i + y) ≤ 10000000) := h.2.2.2.2.2.2 i y h0 h1 h2 h3
theorem Iv.y {V : St} (h : Iv V) {y : Int} (h2 : 0 ≤ y) (h3 : y < 10) : (V 13 y = 0 ∨ V 13 y = 1) ∧ (0 ≤ V 14 y ∧ V 14 y ≤ 3000) ∧ (0 ≤ V 15 y ∧ V 15 y ≤ 100000000) := h.2.2.2.2.2.1 y h2 h3
theorem Iv.d {V : St} (h : Iv V) {i : Int} (h0 : 0 ≤ i) (h1 : i < V 0 1) : 0 ≤ V 10 i ∧ V 10 i ≤ 3649 := h.2.2.2.1 i h0 h1
theorem Iv.u {V : St} (h : Iv V) {i u : Int} (h0 : 0 ≤ i) (h1 : i < V 0 1) (h2 : 0 ≤ u) (h3 : u < 18) : (1 ≤ V 11 (18 * i + u) ∧ V 11 (18 * i + u) ≤ 100000) ∧ (1 ≤ V 12 (18 * i + u) ∧ V 12 (18 * i + u) ≤ 500) := h.2.2.2.2.1 i u h0 h1 h2 h3
theorem blF_rng {V : St} (h : Iv V) {i y : Int} (h0 : 0 ≤ i) (h1 : i < 40) (h2 : 0 ≤ y) (h3 : y < 10) : -4 ≤ blF V y i ∧ blF V y i ≤ 200000000 := by
  have := h.b h0 h1 h2 h3
  unfold blF; split <;> omega
/-! what the latest event says -/
def szO (L : List EvT) (z d : Int) : Int := match lat L 0 d with
  | none => z
  | some e => eVa e
def usO (L : List EvT) (d : Int) : Int := match lat L 1 d with
  | none => 0
  | some e => eVa e
theorem lat_inv {L : List EvT} {k d : Int} : ∀ (x : Option EvT), (∀ e, x = some e → eKi e = k ∧ eDy e ≤ d) → ∀ e, L.foldl (gLat k d) x = some e → (e ∈ L ∨ x = some e) ∧ eKi e = k ∧ eDy e ≤ d := by
  induction L with
  | nil => intro x hx e h; exact ⟨Or.inr h, hx e h⟩
  | cons a L ih =>
    intro x hx e h
    rw [List.foldl_cons] at h
    have q := ih (gLat k d x a) (fun e2 h2 => by
      unfold gLat at h2
      split at h2
      · rename_i hc; cases h2; exact hc
      · exact hx e2 h2) e h
    refine ⟨?_, q.2⟩
    rcases q.1 with q1 | q1
    · exact Or.inl (List.mem_cons_of_mem _ q1)
    · unfold gLat at q1
      split at q1
      · cases q1; exact Or.inl List.mem_cons_self
      · exact Or.inr q1
theorem lat_mem {L : List EvT} {k d : Int} {e : EvT} (h : lat L k d = some e) : e ∈ L := by
  rcases (lat_inv none (fun _ h => by cases h) e h).1 with q | q
  · exact q
  · cases q
theorem lat_spec {L : List EvT} {k d : Int} {e : EvT} (h : lat L k d = some e) : eKi e = k ∧ eDy e ≤ d := (lat_inv none (fun _ h => by cases h) e h).2
