theorem lo_inv2 {α : Type} {g : α → Int → α} {a : α} {i0 i : Int} (p : α → Int → Prop) (h00 : 0 ≤ i0) (hi : i0 ≤ i) (h0 : p (lo g a i0) i0) (hs : ∀ (x : α) (j : Int), i0 ≤ j → j < i → p x j → p (g x j) (j + 1)) : p (lo g a i) i := by
  obtain ⟨k, rfl⟩ : ∃ k : Nat, i = i0 + (k : Int) := ⟨(i - i0).toNat, by omega⟩
  clear hi
  induction k with
  | zero => rw [show i0 + ((0 : Nat) : Int) = i0 by omega]; exact h0
  | succ k ih =>
    have e : i0 + ((k + 1 : Nat) : Int) = i0 + (k : Int) + 1 := by omega
    rw [e, lo_s _ _ (by omega)]
    exact hs _ _ (by omega) (by omega) (ih (fun x j h1 h2 => hs x j h1 (by omega)))
theorem lo_gdi {α : Type} {g : α → Int → α} {a : α} {n i : Int} (h0 : 0 ≤ i) (h1 : i ≤ n) : lo (gd n g) a i = lo g a i := lo_congr a h0 (fun x j h2 h3 => by unfold gd; rw [if_pos (by omega)])
def gMid (V : St) (k s out r : Int) : Option Int → Int → Option Int := fun x i => if x = none ∧ asked V k s out i ∧ rank V k s out i = r then some i else x
theorem mid_hit {V : St} {k s out r i : Int} (h0 : 0 ≤ i) (h1 : i < V 0 0) (hno : lo (gd (V 0 0) (gMid V k s out r)) none i = none) (hc : asked V k s out i ∧ rank V k s out i = r) : mid V k s out r = some i := by
  rw [lo_gdi h0 (by omega)] at hno
  refine lo_inv2 (g := gMid V k s out r) (a := none) (i0 := i + 1) (fun x _ => x = some i) (by omega) (by omega) ?_ (fun x j h2 h3 hx => ?_)
  · rw [lo_s _ _ h0, hno]
    unfold gMid
    rw [if_pos ⟨rfl, hc⟩]
  · rw [hx]
    unfold gMid
    rw [if_neg (fun h => by cases h.1)]
theorem mid_none {V : St} (hV : Iv V) {k s out r i : Int} (hi : 40 ≤ i) (hno : lo (gd (V 0 0) (gMid V k s out r)) none i = none) : mid V k s out r = none := by
  have := hV.n
  rw [lo_gd (by omega) (by omega)] at hno
  exact hno
theorem mid_rng {V : St} (hV : Iv V) {k s out r i : Int} (h : mid V k s out r = some i) : (0 ≤ i ∧ i < V 0 0) ∧ asked V k s out i ∧ rank V k s out i = r := by
  refine lo_inv (g := gMid V k s out r) (a := none) (fun x _ => x = some i → (0 ≤ i ∧ i < V 0 0) ∧ asked V k s out i ∧ rank V k s out i = r) hV.n.1 (fun h => by cases h) (fun x j h1 h2 hx hj => ?_) h
  unfold gMid at hj
  split at hj
  · rename_i hc
    cases hj
    exact ⟨⟨h1, h2⟩, hc.2⟩
  · exact hx hj
/-! the class: all that it reads -/
def RB (G : GG) (H : Heap) (a : Nat → Nat) (f : Nat → Int → Nat) (L : Int → List EvT) (u : Nat → Int → Int) (V : St) : Prop :=
  Iv V ∧ At G H (a 0) (eO 8 [.ref (a 1), .ref (a 3), .ref (a 5), .ref (a 6)]) ∧ Tn G H (a 1) (a 2) (f 0) (f 1) V ∧ (∀ h, 0 ≤ h → h < V 0 0 → Evs G H (f 1 h) (f 2 h) (L h)) ∧
  Li G H (a 3) (a 4) (f 3) (f 4) (f 5) (u 0) (u 1) V ∧ At G H (a 5) (eQ G 7 10 (fun y => some (f 6 y))) ∧ (∀ y, 0 ≤ y → y < 10 → Bk G H (f 6) (f 7) (f 8) V y)
def pl (V : St) (h : Int) : Int := V 2 h * 6 + V 3 h
def wO (V : St) (L : List EvT) (h d : Int) : Int := if stO V d < 0 then 0 else ctd L (V 10 (stO V d)) d (szO L (V 4 h) d * V 11 (18 * stO V d + pl V h) / V 12 (18 * stO V d + pl V h))
def cO (V : St) (L : List EvT) (h d : Int) : Int := match lat L 1 d with
  | none => wO V L h d
  | some e => if eVa e = 1 then (if d - eDy e < 90 then 0 else wO V L h d / 2) else if eVa e = 2 then wO V L h d / 2 else if eVa e = 3 then wO V L h d / 5 else wO V L h d
def yrO (V : St) (L : List EvT) (h y : Int) : Int := lo (fun x j => x + rlv (cO V L h (365 * y + j))) 0 365
theorem szO_rng {L : List EvT} {z d : Int} (hok : ∀ e ∈ L, eOk e) (hz : 1 ≤ z ∧ z ≤ 500) : 1 ≤ szO L z d ∧ szO L z d ≤ 500 := by
  unfold szO
  split
  · exact hz
  · rename_i e he
    have h1 := hok e (lat_mem he)
    have h2 := lat_spec he
    unfold eOk at h1
    omega
theorem div_rng {a b B : Int} (h0 : 0 ≤ a) (h1 : a ≤ B) (hb : 1 ≤ b) : 0 ≤ a / b ∧ a / b ≤ B := ⟨Int.ediv_nonneg h0 (by omega), Int.le_trans (Int.ediv_le_self b h0) h1⟩
theorem wO_rng {V : St} {L : List EvT} {h d : Int} (hV : Iv V) (hok : ∀ e ∈ L, eOk e) (h0 : 0 ≤ h) (h1 : h < V 0 0) : 0 ≤ wO V L h d ∧ wO V L h d ≤ 50000000 := by
  unfold wO
  split
  · omega
  · rename_i hs
    have hst := stO_rng hV d
    have hh := hV.h h0 h1
    have hp : 0 ≤ pl V h ∧ pl V h < 18 := by unfold pl; omega
    have hu := hV.u (i := stO V d) (u := pl V h) (by omega) (by omega) hp.1 hp.2
    have hz := szO_rng (z := V 4 h) (d := d) hok hh.2.2.2.1
    have hm := mulb (a := szO L (V 4 h) d) (b := V 11 (18 * stO V d + pl V h)) (A := 500) (B := 100000) (by omega) (by omega) (by omega) (by omega)
    have hd := div_rng (b := V 12 (18 * stO V d + pl V h)) hm.1 hm.2 (by omega)
    exact ctd_rng hok _ hd.1 (by omega)
theorem cO_rng {V : St} {L : List EvT} {h d : Int} (hV : Iv V) (hok : ∀ e ∈ L, eOk e) (h0 : 0 ≤ h) (h1 : h < V 0 0) : 0 ≤ cO V L h d ∧ cO V L h d ≤ 50000000 := by
  have hw := wO_rng (d := d) hV hok h0 h1
  unfold cO
  repeat' split
  all_goals omega
theorem rlv_rng {c : Int} (h : 0 ≤ c ∧ c ≤ 50000000) : 0 ≤ rlv c ∧ rlv c ≤ 50000000 := by unfold rlv; repeat' split
                                                                                          all_goals omega
/-! bills -/
def bt (ys : Int → Int) (p : Int) : Int := lo (fun x i => x + ys i * p / 365000) 0 40
def lpO (ys : Int → Int) (nd : Int) : Int := lo (fun x p => if x = -4 ∧ nd ≤ bt ys p then p else x) (-4) 3001
def opO (V : St) (h y : Int) : Int := if blF V y h = -4 then 0 else blF V y h - pdF V y h
def owO (V : St) (h w : Int) : Int := lo (fun x y => x + max 0 (if w = 0 then opO V h y else -opO V h y)) 0 10
def inW (V : St) (w i : Int) : Prop := w = -1 ∨ V 1 i = w
def biO (V : St) (w y : Int) : Int := lo (fun x i => if w = -1 ∨ V 1 i = w then x + max 0 (blF V y i) else x) 0 (V 0 0)
def paO (V : St) (w y : Int) : Int := lo (fun x i => if w = -1 ∨ V 1 i = w then x + pdF V y i else x) 0 (V 0 0)
def syO (V : St) : Int := lo (fun x y => if V 13 y ≠ 0 then x + 1 else x) 0 10
def evO (V : St) : Int := lo (fun x i => x + V 6 i) 0 (V 0 0)
def rkO (V : St) : Int := lo (fun x i => x + pI (0 < V 5 i)) 0 (V 0 0)
