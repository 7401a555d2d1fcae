/-! numbers: an int, a long by its integer -/
def J (z : Int) : Int32 := Int32.ofInt z
def JL (z : Int) : Int64 := Int64.ofInt z
/-- a proposition as an int -/
def pI (c : Prop) [Decidable c] : Int := if c then 1 else 0
theorem J_add (a b : Int) : J a + J b = J (a + b) := (Int32.ofInt_add a b).symm
theorem J_sub (a b : Int) : J a - J b = J (a - b) := (Int32.ofInt_sub a b).symm
theorem J_mul (a b : Int) : J a * J b = J (a * b) := (Int32.ofInt_mul a b).symm
theorem J_neg (a : Int) : -J a = J (-a) := (Int32.ofInt_neg a).symm
theorem JL_add (a b : Int) : JL a + JL b = JL (a + b) := (Int64.ofInt_add a b).symm
theorem JL_mul (a b : Int) : JL a * JL b = JL (a * b) := (Int64.ofInt_mul a b).symm
theorem J_toInt {z : Int} (h1 : -2147483648 ≤ z) (h2 : z < 2147483648) : (J z).toInt = z := Int32.toInt_ofInt_of_le (by omega) (by omega)
theorem JL_toInt {z : Int} (h1 : -9223372036854775808 ≤ z) (h2 : z < 9223372036854775808) : (JL z).toInt = z := Int64.toInt_ofInt_of_le (by omega) (by omega)
theorem J_of (x : Int32) : J x.toInt = x := Int32.ofInt_toInt x
theorem J_rng (x : Int32) : -2147483648 ≤ x.toInt ∧ x.toInt < 2147483648 := ⟨by have := x.le_toInt; omega, by have := x.toInt_lt; omega⟩
theorem J_lt {a b : Int} (h1 : -2147483648 ≤ a) (h2 : a < 2147483648) (h3 : -2147483648 ≤ b) (h4 : b < 2147483648) : J a < J b ↔ a < b := by rw [Int32.lt_iff_toInt_lt, J_toInt h1 h2, J_toInt h3 h4]
theorem J_le {a b : Int} (h1 : -2147483648 ≤ a) (h2 : a < 2147483648) (h3 : -2147483648 ≤ b) (h4 : b < 2147483648) : J a ≤ J b ↔ a ≤ b := by rw [Int32.le_iff_toInt_le, J_toInt h1 h2, J_toInt h3 h4]
theorem J_eq {a b : Int} (h1 : -2147483648 ≤ a) (h2 : a < 2147483648) (h3 : -2147483648 ≤ b) (h4 : b < 2147483648) : J a = J b ↔ a = b := ⟨fun h => by have := congrArg Int32.toInt h; rwa [J_toInt h1 h2, J_toInt h3 h4] at this, fun h => by rw [h]⟩
theorem JL_eq {a b : Int} (h1 : -9223372036854775808 ≤ a) (h2 : a < 9223372036854775808) (h3 : -9223372036854775808 ≤ b) (h4 : b < 9223372036854775808) : JL a = JL b ↔ a = b := ⟨fun h => by have := congrArg Int64.toInt h; rwa [JL_toInt h1 h2, JL_toInt h3 h4] at this, fun h => by rw [h]⟩
theorem JL_lt {a b : Int} (h1 : -9223372036854775808 ≤ a) (h2 : a < 9223372036854775808) (h3 : -9223372036854775808 ≤ b) (h4 : b < 9223372036854775808) : JL a < JL b ↔ a < b := by rw [Int64.lt_iff_toInt_lt, JL_toInt h1 h2, JL_toInt h3 h4]
theorem J_nat (n : Nat) : J (n : Int) = nI n := Int32.ofInt_eq_ofNat
theorem J_in {z : Int} {n : Nat} (h0 : 0 ≤ z) (h1 : z < n) (hn : n < 2147483648) : vp_in (J z) n := vp_in_iff.mpr (by rw [J_toInt (by omega) (by omega)]; exact ⟨h0, h1⟩)
theorem J_clamp {z : Int} (h0 : 0 ≤ z) (h1 : z < 2147483648) : (((J z).toNatClampNeg : Nat) : Int) = z := by
  rw [show J z = Int32.ofInt z from rfl, Int32.toNatClampNeg_ofInt_of_le (by omega) (by omega), Int.toNat_of_nonneg h0]
theorem J_div {a b : Int} (h1 : -2147483648 ≤ a) (h2 : a < 2147483648) (h3 : -2147483648 ≤ b) (h4 : b < 2147483648) : J a / J b = J (a.tdiv b) :=
  (Int32.ofInt_tdiv (by rw [Int32.toInt_minValue]; omega) (by rw [Int32.toInt_maxValue]; omega) (by rw [Int32.toInt_minValue]; omega) (by rw [Int32.toInt_maxValue]; omega)).symm
theorem J_divN {a b : Int} (h1 : 0 ≤ a) (h2 : a < 2147483648) (h3 : 0 < b) (h4 : b < 2147483648) : J a / J b = J (a / b) := by
  rw [J_div (by omega) h2 (by omega) h4, Int.tdiv_eq_ediv_of_nonneg h1]
theorem J_remN {a b : Int} (h1 : 0 ≤ a) (h2 : a < 2147483648) (h3 : 0 < b) (h4 : b < 2147483648) : J a - J a / J b * J b = J (a % b) := by
  rw [J_divN h1 h2 h3 h4, J_mul, J_sub]; congr 1; rw [Int.emod_def, Int.mul_comm]
theorem JL_divN {a b : Int} (h1 : 0 ≤ a) (h2 : a < 9223372036854775808) (h3 : 0 < b) (h4 : b < 9223372036854775808) : JL a / JL b = JL (a / b) := by
  rw [← Int.tdiv_eq_ediv_of_nonneg h1]
  exact (Int64.ofInt_tdiv (by rw [Int64.toInt_minValue]; omega) (by rw [Int64.toInt_maxValue]; omega) (by rw [Int64.toInt_minValue]; omega) (by rw [Int64.toInt_maxValue]; omega)).symm
theorem J_i2l {a : Int} (h1 : -2147483648 ≤ a) (h2 : a < 2147483648) : (J a).toInt64 = JL a := Int32.toInt64_ofInt (by rw [Int32.toInt_minValue]; omega) (by rw [Int32.toInt_maxValue]; omega)
theorem J_l2i (a : Int) : (JL a).toInt32 = J a := Int64.toInt32_ofInt
def cmp3 (a b : Int) : Int := if b < a then 1 else if a = b then 0 else -1
theorem J_cmp {a b : Int} (h1 : -9223372036854775808 ≤ a) (h2 : a < 9223372036854775808) (h3 : -9223372036854775808 ≤ b) (h4 : b < 9223372036854775808) : lg_cmp (JL a) (JL b) = J (cmp3 a b) := by
  unfold lg_cmp cmp3
  by_cases q : b < a
  · rw [if_pos (show JL a > JL b from (JL_lt h3 h4 h1 h2).mpr q), if_pos q]; rfl
  · rw [if_neg (show ¬ JL a > JL b from fun z => q ((JL_lt h3 h4 h1 h2).mp z)), if_neg q]
    by_cases q2 : a = b
    · rw [if_pos ((JL_eq h1 h2 h3 h4).mpr q2), if_pos q2]; rfl
    · rw [if_neg (fun z => q2 ((JL_eq h1 h2 h3 h4).mp z)), if_neg q2]; rfl
theorem cmp3_lt {a b : Int} : cmp3 a b < 0 ↔ a < b := by unfold cmp3; (repeat' split) <;> omega
theorem cmp3_eq {a b : Int} : cmp3 a b = 0 ↔ a = b := by unfold cmp3; (repeat' split) <;> omega
theorem cmp3_rng (a b : Int) : -1 ≤ cmp3 a b ∧ cmp3 a b ≤ 1 := by unfold cmp3; (repeat' split) <;> omega
theorem pI_rng (c : Prop) [Decidable c] : 0 ≤ pI c ∧ pI c ≤ 1 := by unfold pI; split <;> omega
theorem pI_t {c : Prop} [Decidable c] (h : c) : pI c = 1 := if_pos h
theorem pI_f {c : Prop} [Decidable c] (h : ¬ c) : pI c = 0 := if_neg h
theorem pI_eq {c d : Prop} [Decidable c] [Decidable d] (h : c ↔ d) : pI c = pI d := by unfold pI; by_cases q : c <;> simp [q, h.symm]
/-- a function of integers, at one place another -/
def uf {α : Type} (f : Int → α) (k : Int) (x : α) : Int → α := fun j => if j = k then x else f j
theorem uf_s {α : Type} (f : Int → α) (k : Int) (x : α) : uf f k x k = x := if_pos rfl
theorem uf_n {α : Type} (f : Int → α) {k j : Int} (x : α) (h : j ≠ k) : uf f k x j = f j := if_neg h
/-! the machine's tables, as every method of ours may take them -/
abbrev GG : Type := va_G × (Nat → ClassId)
def tysG (q : Nat → ClassId) : List (ClassId × FieldType) := [(q 0, .int), (q 1, .long), (q 2, .boolean), (q 3, .object RX0), (q 4, .object RX2), (q 5, .object RX4), (q 6, .object RX6), (q 7, .object RX7)]
def NW (U : State) : Prop := va_Nw (.fieldLinkNest RX8 115 "RateBook$Events" "told" "I" "RateBook") U ∧ va_Nw (.fieldLinkNest RX8 180 "RateBook$Town" "size" "I" "RateBook") U ∧ va_Nw (.fieldLinkNest RX8 211 "RateBook$Lists" "made" "I" "RateBook") U ∧ va_Nw (.fieldLinkNest RX5 35 "RateBook$Events" "told" "I" "RateBook") U ∧ va_Nw (.methodLinkNest RX1 38 yX8_sooner "RateBook") U ∧ va_Nw (.methodLinkNest RX3 31 yX8_sooner "RateBook") U
def AO5 (U : State) : Prop := va_AO RX0 U ∧ va_AO RX2 U ∧ va_AO RX4 U ∧ va_AO RX6 U ∧ va_AO RX7 U
def KK (G : GG) (U : State) : Prop := va_K G.1 vwCl (tysG G.2) U ∧ NW U ∧ AO5 U
theorem KK.w {G : GG} {s U : State} (hW : s.WarmedH U.vm) (h : KK G s) : KK G U :=
  ⟨va_K.moved hW.alike h.1, ⟨va_Nw.warmF hW h.2.1.1, va_Nw.warmF hW h.2.1.2.1, va_Nw.warmF hW h.2.1.2.2.1, va_Nw.warmF hW h.2.1.2.2.2.1, va_Nw.warmM hW h.2.1.2.2.2.2.1, va_Nw.warmM hW h.2.1.2.2.2.2.2⟩,
    ⟨va_AO.moved hW.alike h.2.2.1, va_AO.moved hW.alike h.2.2.2.1, va_AO.moved hW.alike h.2.2.2.2.1, va_AO.moved hW.alike h.2.2.2.2.2.1, va_AO.moved hW.alike h.2.2.2.2.2.2⟩⟩
theorem KK.c {G : GG} {U : State} (g : JFrame) (mk : MethodId) (a : Array Value) (h : KK G U) : KK G (U.calling g mk a) :=
  ⟨va_K.moved (u := U) (U := U.calling g mk a) (Vm.Alike.refl U.vm) h.1, ⟨va_Nw.same rfl rfl h.2.1.1, va_Nw.same rfl rfl h.2.1.2.1, va_Nw.same rfl rfl h.2.1.2.2.1, va_Nw.same rfl rfl h.2.1.2.2.2.1, va_Nw.same rfl rfl h.2.1.2.2.2.2.1, va_Nw.same rfl rfl h.2.1.2.2.2.2.2⟩,
    ⟨va_AO.moved (u := U) (U := U.calling g mk a) (Vm.Alike.refl U.vm) h.2.2.1, va_AO.moved (u := U) (U := U.calling g mk a) (Vm.Alike.refl U.vm) h.2.2.2.1, va_AO.moved (u := U) (U := U.calling g mk a) (Vm.Alike.refl U.vm) h.2.2.2.2.1, va_AO.moved (u := U) (U := U.calling g mk a) (Vm.Alike.refl U.vm) h.2.2.2.2.2.1, va_AO.moved (u := U) (U := U.calling g mk a) (Vm.Alike.refl U.vm) h.2.2.2.2.2.2⟩⟩
/-! cells -/
def At (G : GG) (H : Heap) (a : Nat) (e : va_E) : Prop := va_at G.1 vwCl (a, e) H
def eI (G : GG) (n : Nat) (f : Int → Int) : va_E := .inl (G.2 0, n, .inl (fun j => J (f j)))
def eZ (G : GG) (n : Nat) (f : Int → Int) : va_E := .inl (G.2 2, n, .inl (fun j => J (f j)))
def eL (G : GG) (n : Nat) (f : Int → Int) : va_E := .inl (G.2 1, n, .inr (.inl (fun j => JL (f j))))
def eQ (G : GG) (k : Nat) (n : Nat) (f : Int → Option Nat) : va_E := .inl (G.2 k, n, .inr (.inr (.inr (.inr (fun j => f j)))))
def eO (ci : Nat) (fs : List Value) : va_E := .inr (ci, fs)
theorem At.kept {G : GG} {H H1 : Heap} {a : Nat} {e : va_E} (h : At G H a e) (q : H1[a]? = H[a]?) : At G H1 a e := va_at.kept h q
theorem At.lt {G : GG} {H : Heap} {a : Nat} {e : va_E} (h : At G H a e) : a < H.size := va_at.lt h
theorem At.P {G : GG} {H : Heap} {a : Nat} {e : va_E} (h : At G H a e) : va_P G.1 vwCl [(a, e)] H := fun k q hk => by
  cases k with
  | zero => cases hk; exact h
  | succ k => simp at hk
/-- a heap that is the same, but at one address -/
def Hx (H H1 : Heap) (a : Nat) : Prop := H1.size = H.size ∧ ∀ q : Nat, q ≠ a → H1[q]? = H[q]?
/-- a heap with one cell more -/
def Hn (H H1 : Heap) (a : Nat) : Prop := a = H.size ∧ H1.size = H.size + 1 ∧ ∀ q : Nat, q < H.size → H1[q]? = H[q]?
theorem At.x {G : GG} {H H1 : Heap} {a b : Nat} {e : va_E} (h : At G H b e) (x : Hx H H1 a) (q : b ≠ a) : At G H1 b e := h.kept (x.2 b q)
theorem At.n {G : GG} {H H1 : Heap} {a b : Nat} {e : va_E} (h : At G H b e) (x : Hn H H1 a) : At G H1 b e := h.kept (x.2.2 b h.lt)
