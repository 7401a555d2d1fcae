/-! a unit, of a kind and street, a house left out -/
def unS (V : St) (k s out : Int) : Int := if among V k s out = 0 then -1 else s
def unR (V : St) (k s out : Int) : Int := if among V k s out = 0 then among V k (-1) out else among V k s out
def unM (V : St) (k s out : Int) : Option Int := mid V k (unS V k s out) out ((unR V k s out - 1).tdiv 2)
def unA (V : St) (k s out : Int) : Int := match unM V k s out with
  | none => 10
  | some i => V 5 i
def unB (V : St) (k s out : Int) : Int := match unM V k s out with
  | none => 1
  | some i => V 4 i
def unC (V : St) (k s out : Int) : Int := match unM V k s out with
  | none => 0
  | some _ => unR V k s out
def unD (V : St) (k s out : Int) : Int := match unM V k s out with
  | none => -4
  | some i => i
theorem unM_0 {V : St} {k s out : Int} (h : among V k s out = 0) : unM V k s out = mid V k (-1) out ((among V k (-1) out - 1).tdiv 2) ∧ unR V k s out = among V k (-1) out := by unfold unM unS unR; rw [if_pos h, if_pos h]; exact ⟨rfl, rfl⟩
theorem unM_1 {V : St} {k s out : Int} (h : among V k s out ≠ 0) : unM V k s out = mid V k s out ((among V k s out - 1).tdiv 2) ∧ unR V k s out = among V k s out := by unfold unM unS unR; rw [if_neg h, if_neg h]; exact ⟨rfl, rfl⟩
def eUn (V : St) (k s out : Int) : va_E := eO 6 [.int (J (unA V k s out)), .int (J (unB V k s out)), .int (J (unC V k s out)), .int (J (unD V k s out))]
theorem eUn_n {V : St} {k s out : Int} (h : unM V k s out = none) : eUn V k s out = eO 6 [.int (J 10), .int (J 1), .int (J 0), .int (J (-4))] := by unfold eUn unA unB unC unD; rw [h]
theorem eUn_s {V : St} {k s out i : Int} (h : unM V k s out = some i) : eUn V k s out = eO 6 [.int (J (V 5 i)), .int (J (V 4 i)), .int (J (unR V k s out)), .int (J i)] := by unfold eUn unA unB unC unD; rw [h]
theorem un_rng {V : St} (hV : Iv V) (k s out : Int) : (1 ≤ unA V k s out ∧ unA V k s out ≤ 100000) ∧ (1 ≤ unB V k s out ∧ unB V k s out ≤ 500) := by
  unfold unA unB
  cases h : unM V k s out with
  | none => exact ⟨⟨by show (1 : Int) ≤ 10; omega, by show (10 : Int) ≤ 100000; omega⟩, ⟨by show (1 : Int) ≤ 1; omega, by show (1 : Int) ≤ 500; omega⟩⟩
  | some i =>
    have q := mid_rng hV h
    have w := hV.h q.1.1 q.1.2
    exact ⟨by have := q.2.1.2.2.2; show 1 ≤ V 5 i ∧ V 5 i ≤ 100000; omega, by show 1 ≤ V 4 i ∧ V 4 i ≤ 500; omega⟩
theorem Tn.f {G : GG} {H H1 : Heap} {tw hs : Nat} {ha ea : Int → Nat} {V : St} {S : Nat → Prop} {k : Nat} (h : Tn G H tw hs ha ea V) (x : Fr H H1 S k) (h1 : ¬ S tw) (h2 : ¬ S hs) (h3 : ∀ i, 0 ≤ i → i < V 0 0 → ¬ S (ha i)) : Tn G H1 tw hs ha ea V :=
  ⟨h.1, h.2.1.f x h1, h.2.2.1.f x h2, fun i a b => (h.2.2.2 i a b).f x (h3 i a b)⟩
/-! an event comes into its row -/
def ipos (L : List EvT) (d : Int) : Nat → Nat
  | 0 => 0
  | n + 1 => match L[n]? with
    | none => ipos L d n
    | some e => if eDy e ≤ d then n + 1 else ipos L d n
def insL (L : List EvT) (e : EvT) : List EvT := L.take (ipos L (eDy e) L.length) ++ e :: L.drop (ipos L (eDy e) L.length)
theorem ipos_le (L : List EvT) (d : Int) : ∀ n, ipos L d n ≤ n := by
  intro n
  induction n with
  | zero => exact Nat.le_refl _
  | succ n ih =>
    unfold ipos
    repeat' split
    all_goals omega
theorem insL_len (L : List EvT) (e : EvT) : (insL L e).length = L.length + 1 := by
  have := ipos_le L (eDy e) L.length
  unfold insL
  rw [List.length_append, List.length_cons, List.length_take, List.length_drop]
  omega
theorem ins_get {α : Type} (L : List α) (e : α) {p : Nat} (hp : p ≤ L.length) (j : Nat) : (L.take p ++ e :: L.drop p)[j]? = if j < p then L[j]? else if j = p then some e else L[j - 1]? := by
  have hl : (L.take p).length = p := by rw [List.length_take]; omega
  by_cases h : j < p
  · rw [if_pos h, List.getElem?_append_left (by omega), List.getElem?_take_of_lt h]
  · rw [if_neg h, List.getElem?_append_right (by omega), hl]
    by_cases h2 : j = p
    · subst h2; rw [if_pos rfl, Nat.sub_self]; rfl
    · rw [if_neg h2]
      obtain ⟨q, rfl⟩ : ∃ q, j = p + 1 + q := ⟨j - p - 1, by omega⟩
      rw [show p + 1 + q - p = q + 1 by omega, List.getElem?_cons_succ, List.getElem?_drop, show p + 1 + q - 1 = p + q by omega]
theorem qL_at {L : List EvT} {z : Int} (h0 : 0 ≤ z) (h1 : z < (L.length : Int)) : ∃ e, L[z.toNat]? = some e := ⟨L[z.toNat]'(by omega), List.getElem?_eq_getElem (by omega)⟩
theorem qL_end {L : List EvT} {z : Int} (h : (L.length : Int) ≤ z) : qL L z = none := by
  by_cases h0 : 0 ≤ z
  · exact qL_n h0 (List.getElem?_eq_none (by omega))
  · unfold qL; rw [if_neg h0]
/-- the row, at the end of the moving -/
theorem ins_row {L : List EvT} {e : EvT} {g : Int → Option Nat} {z : Int} (h0 : 0 ≤ z) (h1 : z ≤ (L.length : Int)) (hp : ipos L (eDy e) L.length = z.toNat) (g1 : ∀ j, 0 ≤ j → j < z → g j = qL L j) (g2 : ∀ j, z < j → j ≤ (L.length : Int) → g j = qL L (j - 1)) (g3 : ∀ j, (L.length : Int) < j → g j = none) (j : Int) (hj : 0 ≤ j) : uf g z (some (eAd e)) j = qL (insL L e) j := by
  have q := ins_get L e (p := z.toNat) (by omega) j.toNat
  unfold uf
  unfold qL insL
  rw [if_pos hj, hp, q]
  by_cases a : j < z
  · rw [if_neg (by omega), if_pos (by omega), g1 j hj a]
    unfold qL
    rw [if_pos hj]
  · by_cases b : j = z
    · rw [if_pos b, if_neg (by omega), if_pos (by omega)]; rfl
    · rw [if_neg b, if_neg (by omega), if_neg (by omega)]
      by_cases c : j ≤ (L.length : Int)
      · rw [g2 j (by omega) c]
        unfold qL
        rw [if_pos (by omega), show (j - 1).toNat = j.toNat - 1 by omega]
      · rw [g3 j (by omega), List.getElem?_eq_none (by omega)]; rfl
theorem ipos_hit {L : List EvT} {d z : Int} {e : EvT} (h0 : 0 < z) (h : L[(z - 1).toNat]? = some e) (hd : eDy e ≤ d) : ipos L d z.toNat = z.toNat := by
  obtain ⟨n, rfl⟩ : ∃ n : Nat, z = (n : Int) + 1 := ⟨(z - 1).toNat, by omega⟩
  rw [show ((n : Int) + 1 - 1).toNat = n by omega] at h
  rw [show ((n : Int) + 1).toNat = n + 1 by omega]
  unfold ipos
  rw [h]
  exact if_pos hd
theorem ipos_miss {L : List EvT} {d z : Int} {e : EvT} (h0 : 0 < z) (h : L[(z - 1).toNat]? = some e) (hd : d < eDy e) : ipos L d z.toNat = ipos L d (z - 1).toNat := by
  obtain ⟨n, rfl⟩ : ∃ n : Nat, z = (n : Int) + 1 := ⟨(z - 1).toNat, by omega⟩
  rw [show ((n : Int) + 1 - 1).toNat = n by omega] at h ⊢
  rw [show ((n : Int) + 1).toNat = n + 1 by omega]
  show ipos L d (n + 1) = _
  unfold ipos
  rw [h]
  rw [show (match some e with | none => ipos L d n | some e => if eDy e ≤ d then n + 1 else ipos L d n) = if eDy e ≤ d then n + 1 else ipos L d n from rfl, if_neg (by omega)]
  cases n <;> rfl
/-! the latest told goes -/
def drL (L : List EvT) (n : Int) : List EvT := L.filter (fun e => decide (eNo e ≠ n))
/-- one alone has the number: where it stands, and the row without it -/
theorem dr_pos {n : Int} : ∀ L : List EvT, (drL L n).length + 1 = L.length → ∃ p : Nat, p < L.length ∧ (∃ e, L[p]? = some e ∧ eNo e = n) ∧ (∀ (i : Nat) (e : EvT), L[i]? = some e → eNo e = n → i = p) ∧ ∀ j : Nat, (drL L n)[j]? = if j < p then L[j]? else L[j + 1]? := by
  intro L
  induction L with
  | nil => intro h; exact absurd h (Nat.succ_ne_zero _)
  | cons a L ih =>
    intro h
    by_cases z : eNo a = n
    · have hd : drL (a :: L) n = drL L n := by unfold drL; exact List.filter_cons_of_neg (by simp [z])
      rw [hd, List.length_cons] at h
      have hf : (List.filter (fun e => decide (eNo e ≠ n)) L).length = L.length := Nat.succ.inj h
      have hL : drL L n = L := List.filter_eq_self.mpr (List.length_filter_eq_length_iff.mp hf)
      refine ⟨0, by rw [List.length_cons]; omega, ⟨a, rfl, z⟩, fun i e h1 h2 => ?_, fun j => ?_⟩
      · rcases i with _ | i
        · rfl
        · rw [List.getElem?_cons_succ] at h1
          have hm : e ∈ drL L n := by rw [hL]; exact List.mem_of_getElem? h1
          exact absurd h2 (of_decide_eq_true (List.mem_filter.mp hm).2)
      · have e1 : (a :: L)[j + 1]? = L[j]? := List.getElem?_cons_succ
        rw [hd, hL, if_neg (Nat.not_lt_zero _), e1]
    · have hd : drL (a :: L) n = a :: drL L n := by unfold drL; exact List.filter_cons_of_pos (by simp [z])
      rw [hd, List.length_cons, List.length_cons] at h
      obtain ⟨p, h1, ⟨e, h2, h3⟩, h4, h5⟩ := ih (by omega)
      refine ⟨p + 1, by rw [List.length_cons]; omega, ⟨e, by rw [List.getElem?_cons_succ]; exact h2, h3⟩, fun i e h6 h7 => ?_, fun j => ?_⟩
      · rcases i with _ | i
        · have h8 : a = e := Option.some.inj h6
          exact absurd (by rw [h8]; exact h7) z
        · rw [List.getElem?_cons_succ] at h6
          rw [h4 i e h6 h7]
      · rw [hd]
        rcases j with _ | j
        · rw [if_pos (by omega)]; rfl
        · have e1 : (a :: drL L n)[j + 1]? = (drL L n)[j]? := List.getElem?_cons_succ
          have e2 : (a :: L)[j + 1]? = L[j]? := List.getElem?_cons_succ
          have e3 : (a :: L)[j + 1 + 1]? = L[j + 1]? := List.getElem?_cons_succ
          rw [e1, e2, e3, h5 j]
          by_cases y : j < p
          · rw [if_pos y, if_pos (by omega)]
          · rw [if_neg y, if_neg (by omega)]
theorem dr_at {L : List EvT} {n : Int} {p i : Nat} {e v : EvT} (h2 : L[p]? = some e) (h3 : eNo e = n) (h4 : ∀ (i : Nat) (e : EvT), L[i]? = some e → eNo e = n → i = p) (h : L[i]? = some v) : i = p ↔ eNo v = n := by
  refine ⟨fun z => ?_, fun z => h4 i v h z⟩
  rw [z, h2] at h
  rw [← Option.some.inj h]
  exact h3
/-- the row while it closes up over the place p: those ahead of i have moved -/
def shG (L : List EvT) (p : Nat) (i : Int) : Int → Option Nat := fun j => if (p : Int) ≤ j ∧ j < i then qL L (j + 1) else qL L j
theorem sh_0 (L : List EvT) (p : Nat) (j : Int) (h : 0 ≤ j) : qL L j = shG L p 0 j := by unfold shG; rw [if_neg (by omega)]
theorem sh_at {L : List EvT} {p : Nat} {i j : Int} (h : i ≤ j) : shG L p i j = qL L j := by unfold shG; rw [if_neg (by omega)]
theorem sh_stay {L : List EvT} {p : Nat} {i : Int} (h : i < (p : Int)) (j : Int) : shG L p i j = shG L p (i + 1) j := by unfold shG; rw [if_neg (by omega), if_neg (by omega)]
theorem sh_move {L : List EvT} {p : Nat} {i : Int} {o : Option Nat} (h : (p : Int) ≤ i) (ho : qL L (i + 1) = o) (j : Int) : uf (shG L p i) i o j = shG L p (i + 1) j := by
  by_cases a : j = i
  · rw [a, uf_s]
    unfold shG
    rw [if_pos (by omega)]
    exact ho.symm
  · rw [uf_n _ _ a]
    unfold shG
    by_cases b : (p : Int) ≤ j ∧ j < i
    · rw [if_pos b, if_pos (by omega)]
    · rw [if_neg b, if_neg (by omega)]
