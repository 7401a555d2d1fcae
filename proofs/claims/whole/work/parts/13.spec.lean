/-! loops as folds over 0, 1, .. -/
def lo {α : Type} (g : α → Int → α) (a : α) (i : Int) : α := Nat.rec (motive := fun _ => α) a (fun k r => g r (k : Int)) i.toNat
theorem lo_0 {α : Type} (g : α → Int → α) (a : α) : lo g a 0 = a := rfl
theorem lo_s {α : Type} (g : α → Int → α) (a : α) {i : Int} (h : 0 ≤ i) : lo g a (i + 1) = g (lo g a i) i := by
  obtain ⟨k, rfl⟩ : ∃ k : Nat, i = (k : Int) := ⟨i.toNat, by omega⟩
  have e : ((k : Int) + 1).toNat = k + 1 := by omega
  unfold lo
  rw [e]
  rfl
theorem lo_congr {α : Type} {g g' : α → Int → α} (a : α) {i : Int} (hi : 0 ≤ i) (h : ∀ (x : α) (j : Int), 0 ≤ j → j < i → g x j = g' x j) : lo g a i = lo g' a i := by
  obtain ⟨k, rfl⟩ : ∃ k : Nat, i = (k : Int) := ⟨i.toNat, by omega⟩
  clear hi
  induction k with
  | zero => rfl
  | succ k ih =>
    have e : ((k + 1 : Nat) : Int) = (k : Int) + 1 := by omega
    rw [e, lo_s _ _ (by omega), lo_s _ _ (by omega), ih (fun x j h1 h2 => h x j h1 (by omega)), h _ _ (by omega) (by omega)]
/-- the same step from here on changes nothing -/
theorem lo_stay {α : Type} {g : α → Int → α} (a : α) {i j : Int} (hi : 0 ≤ i) (hij : i ≤ j) (h : ∀ (x : α) (k : Int), i ≤ k → k < j → g x k = x) : lo g a j = lo g a i := by
  obtain ⟨k, rfl⟩ : ∃ k : Nat, j = i + (k : Int) := ⟨(j - i).toNat, by omega⟩
  induction k with
  | zero => rw [show i + ((0 : Nat) : Int) = i by omega]
  | succ k ih =>
    have e : i + ((k + 1 : Nat) : Int) = i + (k : Int) + 1 := by omega
    rw [e, lo_s _ _ (by omega), h _ _ (by omega) (by omega)]
    exact ih (by omega) (fun x q h1 h2 => h x q h1 (by omega))
theorem lo_inv {α : Type} {g : α → Int → α} {a : α} {i : Int} (p : α → Int → Prop) (hi : 0 ≤ i) (h0 : p a 0) (hs : ∀ (x : α) (j : Int), 0 ≤ j → j < i → p x j → p (g x j) (j + 1)) : p (lo g a i) i := by
  obtain ⟨k, rfl⟩ : ∃ k : Nat, i = (k : Int) := ⟨i.toNat, by omega⟩
  clear hi
  induction k with
  | zero => exact h0
  | succ k ih =>
    have e : ((k + 1 : Nat) : Int) = (k : Int) + 1 := by omega
    rw [e, lo_s _ _ (by omega)]
    exact hs _ _ (by omega) (by omega) (ih (fun x j h1 h2 => hs x j h1 (by omega)))
/-- through a list's places, and what lies behind its end -/
def ls_ {α β : Type} (L : List β) (g : α → β → α) : α → Int → α := fun x i => match L[i.toNat]? with
  | none => x
  | some e => g x e
theorem lo_list {α β : Type} (g : α → β → α) : ∀ (L : List β) (a : α) (N : Nat), L.length ≤ N → lo (ls_ L g) a (N : Int) = L.foldl g a := by
  intro L a N h
  have h1 : lo (ls_ L g) a (N : Int) = lo (ls_ L g) a (L.length : Int) := lo_stay a (by omega) (by omega) (fun x k h1 h2 => by
    unfold ls_
    rw [List.getElem?_eq_none (by omega)])
  rw [h1]
  have h2 : ∀ k : Nat, k ≤ L.length → lo (ls_ L g) a (k : Int) = (L.take k).foldl g a := by
    intro k
    induction k with
    | zero => intro _; rfl
    | succ k ih =>
      intro hk
      have e : ((k + 1 : Nat) : Int) = (k : Int) + 1 := by omega
      have e2 : ((k : Int)).toNat = k := by omega
      rw [e, lo_s _ _ (by omega), ih (by omega)]
      unfold ls_
      rw [e2, List.getElem?_eq_getElem (by omega), List.take_add_one, List.getElem?_eq_getElem (by omega), List.foldl_append]
      rfl
  rw [h2 L.length (Nat.le_refl _), List.take_length]
/-! an event as it lies in the heap: its address, its number, day, kind, value -/
abbrev EvT : Type := Nat × Int × Int × Int × Int
abbrev eAd (e : EvT) : Nat := e.1
abbrev eNo (e : EvT) : Int := e.2.1
abbrev eDy (e : EvT) : Int := e.2.2.1
abbrev eKi (e : EvT) : Int := e.2.2.2.1
abbrev eVa (e : EvT) : Int := e.2.2.2.2
/-- what an event may be -/
def eOk (e : EvT) : Prop := (0 ≤ eNo e ∧ eNo e < 12) ∧ (0 ≤ eDy e ∧ eDy e ≤ 3649) ∧ ((eKi e = 0 ∧ 1 ≤ eVa e ∧ eVa e ≤ 500) ∨ (eKi e = 1 ∧ 0 ≤ eVa e ∧ eVa e ≤ 3) ∨ (eKi e = 2 ∧ 1 ≤ eVa e ∧ eVa e ≤ 900))
/-- the references of a row: of the first n places -/
def qN (n : Int) (ad : Int → Nat) : Int → Option Nat := fun j => if 0 ≤ j ∧ j < n then some (ad j) else none
def qL (L : List EvT) : Int → Option Nat := fun j => if 0 ≤ j then (L[j.toNat]?).map eAd else none
theorem qN_s {n z : Int} {ad : Int → Nat} (h : 0 ≤ z ∧ z < n) : qN n ad z = some (ad z) := if_pos h
theorem qN_n {n z : Int} {ad : Int → Nat} (h : ¬ (0 ≤ z ∧ z < n)) : qN n ad z = none := if_neg h
/-! pictures of the heap -/
def eEv (e : EvT) : va_E := eO 0 [.int (J (eNo e)), .int (J (eDy e)), .int (J (eKi e)), .int (J (eVa e))]
/-- a house's events: the object, its row, the events by day -/
def Evs (G : GG) (H : Heap) (q b : Nat) (L : List EvT) : Prop := At G H q (eO 1 [.ref b, .int (J (L.length : Int))]) ∧ At G H b (eQ G 3 12 (qL L)) ∧ L.length ≤ 12 ∧ (∀ e ∈ L, At G H (eAd e) (eEv e)) ∧ ∀ e ∈ L, eOk e
def lat (L : List EvT) (k d : Int) : Option EvT := L.foldl (fun x e => if eKi e = k ∧ eDy e ≤ d then some e else x) none
def ctd (L : List EvT) (f t w : Int) : Int := L.foldl (fun x e => if eKi e = 2 ∧ f ≤ eDy e ∧ eDy e ≤ t then x * (1000 - eVa e) / 1000 else x) w
def snr (ch d nx : Int) : Int := if d < ch ∧ ch < nx then ch else nx
def nxE (L : List EvT) (d nx : Int) : Int := L.foldl (fun x e => snr (eDy e + 90) d (snr (eDy e) d x)) nx
def rlv (c : Int) : Int := if c ≤ 1200 then 0 else if c ≤ 1500 then 5 * (c - 1200) else c
theorem qL_s {L : List EvT} {z : Int} {e : EvT} (h0 : 0 ≤ z) (h : L[z.toNat]? = some e) : qL L z = some (eAd e) := by unfold qL; rw [if_pos h0, h]; rfl
theorem qL_n {L : List EvT} {z : Int} (h0 : 0 ≤ z) (h : L[z.toNat]? = none) : qL L z = none := by unfold qL; rw [if_pos h0, h]; rfl
