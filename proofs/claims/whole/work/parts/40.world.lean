/-! the class's whole world: roles, their addresses -/
def dom (V : St) (t : Nat) (i : Int) : Prop := (t ≤ 6 ∧ i = 0) ∨ (10 ≤ t ∧ t ≤ 12 ∧ 0 ≤ i ∧ i < V 0 0) ∨ (13 ≤ t ∧ t ≤ 14 ∧ 0 ≤ i ∧ i < V 0 1) ∨ (t = 15 ∧ 0 ≤ i ∧ i < 18 * V 0 1) ∨ (16 ≤ t ∧ t ≤ 18 ∧ 0 ≤ i ∧ i < 10) ∨ (t = 19 ∧ ∃ h e : Int, (0 ≤ h ∧ h < V 0 0) ∧ (0 ≤ e ∧ e < V 6 h) ∧ i = 12 * h + e)
def adr (a : Nat → Nat) (f : Nat → Int → Nat) (t : Nat) (i : Int) : Nat := if t < 10 then a t else f (t - 10) i
def Inj (a : Nat → Nat) (f : Nat → Int → Nat) (V : St) : Prop := ∀ t i t' i', dom V t i → dom V t' i' → adr a f t i = adr a f t' i' → t = t' ∧ i = i'
theorem dA {V : St} (k : Nat) (h : k ≤ 6) : dom V k 0 := Or.inl ⟨h, rfl⟩
theorem dH {V : St} (t : Nat) (h1 : 10 ≤ t) (h2 : t ≤ 12) {i : Int} (h3 : 0 ≤ i) (h4 : i < V 0 0) : dom V t i := Or.inr (Or.inl ⟨h1, h2, h3, h4⟩)
theorem dL {V : St} (t : Nat) (h1 : 13 ≤ t) (h2 : t ≤ 14) {i : Int} (h3 : 0 ≤ i) (h4 : i < V 0 1) : dom V t i := Or.inr (Or.inr (Or.inl ⟨h1, h2, h3, h4⟩))
theorem dU {V : St} {i : Int} (h3 : 0 ≤ i) (h4 : i < 18 * V 0 1) : dom V 15 i := Or.inr (Or.inr (Or.inr (Or.inl ⟨rfl, h3, h4⟩)))
theorem dB {V : St} (t : Nat) (h1 : 16 ≤ t) (h2 : t ≤ 18) {i : Int} (h3 : 0 ≤ i) (h4 : i < 10) : dom V t i := Or.inr (Or.inr (Or.inr (Or.inr (Or.inl ⟨h1, h2, h3, h4⟩))))
theorem dE {V : St} {h e : Int} (h1 : 0 ≤ h) (h2 : h < V 0 0) (h3 : 0 ≤ e) (h4 : e < V 6 h) : dom V 19 (12 * h + e) := Or.inr (Or.inr (Or.inr (Or.inr (Or.inr ⟨rfl, h, e, ⟨h1, h2⟩, ⟨h3, h4⟩, rfl⟩))))
/-! a house's events by their numbers -/
def mkE (V : St) (f9 : Int → Nat) (h j : Int) : EvT := (f9 (12 * h + j), j, V 7 (12 * h + j), V 8 (12 * h + j), V 9 (12 * h + j))
def mkL (V : St) (f9 : Int → Nat) (h : Int) (N : List Int) : List EvT := N.map (mkE V f9 h)
def tld (n : Int) : List Int := (List.range n.toNat).map (fun k : Nat => (k : Int))
def Nok (V : St) (h : Int) (N : List Int) : Prop := (N.length : Int) = V 6 h ∧ (∀ j ∈ N, 0 ≤ j ∧ j < V 6 h) ∧ N.Pairwise (fun a b => V 7 (12 * h + a) ≤ V 7 (12 * h + b)) ∧ ∀ d : Int, N.filter (fun j => decide (V 7 (12 * h + j) = d)) = (tld (V 6 h)).filter (fun j => decide (V 7 (12 * h + j) = d))
def RW (G : GG) (H : Heap) (a : Nat → Nat) (f : Nat → Int → Nat) (N : Int → List Int) (u : Nat → Int → Int) (ys : Int → Int) (V : St) : Prop :=
  RB G H a f (fun h => mkL V (f 9) h (N h)) u V ∧ At G H (a 6) (eL G 40 ys) ∧ (∀ h, 0 ≤ h → h < V 0 0 → Nok V h (N h)) ∧ Inj a f V
theorem mkL_mem {V : St} {f9 : Int → Nat} {h : Int} {N : List Int} {e : EvT} (hm : e ∈ mkL V f9 h N) : ∃ j ∈ N, e = mkE V f9 h j := by
  obtain ⟨j, h1, h2⟩ := List.mem_map.mp hm
  exact ⟨j, h1, h2.symm⟩
theorem mkL_congr {V V' : St} {f9 g9 : Int → Nat} {h : Int} {N : List Int} (hj : ∀ j ∈ N, mkE V' g9 h j = mkE V f9 h j) : mkL V' g9 h N = mkL V f9 h N := List.map_congr_left hj
theorem tld_s {n : Int} (h : 0 ≤ n) : tld (n + 1) = tld n ++ [n] := by
  unfold tld
  rw [show (n + 1).toNat = n.toNat + 1 by omega, List.range_succ, List.map_append]
  simp [Int.toNat_of_nonneg h]
theorem tld_mem {n j : Int} : j ∈ tld n ↔ 0 ≤ j ∧ j < n := by
  unfold tld
  rw [List.mem_map]
  constructor
  · rintro ⟨k, h1, h2⟩
    have := List.mem_range.mp h1
    omega
  · intro h
    exact ⟨j.toNat, List.mem_range.mpr (by omega), by omega⟩
/-! parts of the world, carried over -/
section CARRY
variable {G : GG} {H H1 : Heap} {S : Nat → Prop} {k : Nat} {V V' : St}
theorem tnF {tw hs : Nat} {ha ea : Int → Nat} (h : Tn G H tw hs ha ea V) (hV : Iv V') (x : Fr H H1 S k) (o1 : ¬ S tw) (o2 : ¬ S hs) (o3 : ∀ i, 0 ≤ i → i < V 0 0 → ¬ S (ha i)) (e0 : V' 0 0 = V 0 0) (e1 : V' 1 = V 1) (e2 : V' 2 = V 2) (e3 : V' 3 = V 3) (e4 : V' 4 = V 4) (e5 : V' 5 = V 5) : Tn G H1 tw hs ha ea V' :=
  ⟨hV, by rw [e0]; exact h.2.1.f x o1, by rw [e0]; exact h.2.2.1.f x o2, fun i a b => by
    rw [e0] at b
    have q := (h.2.2.2 i a b).f x (o3 i a b)
    unfold eHo at q ⊢
    rw [e1, e2, e3, e4, e5]; exact q⟩
theorem evF {q b : Nat} {L : List EvT} (h : Evs G H q b L) (x : Fr H H1 S k) (o1 : ¬ S q) (o2 : ¬ S b) (o3 : ∀ e ∈ L, ¬ S (eAd e)) : Evs G H1 q b L :=
  ⟨h.1.f x o1, h.2.1.f x o2, h.2.2.1, fun e he => (h.2.2.2.1 e he).f x (o3 e he), h.2.2.2.2⟩
theorem liF {li lr : Nat} {rl ru un : Int → Nat} {uc ud : Int → Int} (h : Li G H li lr rl ru un uc ud V) (hV : Iv V') (x : Fr H H1 S k) (o1 : ¬ S li) (o2 : ¬ S lr) (o3 : ∀ i, 0 ≤ i → i < V 0 1 → ¬ S (rl i) ∧ ¬ S (ru i)) (o4 : ∀ i, 0 ≤ i → i < 18 * V 0 1 → ¬ S (un i)) (e0 : V' 0 1 = V 0 1) (e1 : V' 10 = V 10) (e2 : V' 11 = V 11) (e3 : V' 12 = V 12) : Li G H1 li lr rl ru un uc ud V' :=
  ⟨hV, by rw [e0]; exact h.2.1.f x o1, by rw [e0]; exact h.2.2.1.f x o2, fun i a b => by rw [e0] at b; rw [e1]; exact (h.2.2.2.1 i a b).f x (o3 i a b).1, fun i a b => by rw [e0] at b; exact (h.2.2.2.2.1 i a b).f x (o3 i a b).2,
    fun i w a b c d => by rw [e0] at b; rw [e2, e3]; exact (h.2.2.2.2.2 i w a b c d).f x (o4 _ (by omega) (by omega))⟩
theorem bkF {yb yl yp : Int → Nat} {y : Int} (h : Bk G H yb yl yp V y) (hV : Iv V') (x : Fr H H1 S k) (o1 : ¬ S (yb y)) (o2 : ¬ S (yl y)) (o3 : ¬ S (yp y)) (e1 : V' 13 y = V 13 y) (e2 : V' 14 y = V 14 y) (e3 : V' 15 y = V 15 y) (e4 : ∀ j, 0 ≤ j → j < 40 → blF V' y j = blF V y j) (e5 : ∀ j, 0 ≤ j → j < 40 → pdF V' y j = pdF V y j) : Bk G H1 yb yl yp V' y :=
  ⟨hV, by unfold eBk; rw [e1, e2, e3]; exact h.2.1.f x o1, eI_congr (fun j a b => (e4 j a (by omega)).symm) (h.2.2.1.f x o2), eI_congr (fun j a b => (e5 j a (by omega)).symm) (h.2.2.2.f x o3)⟩
end CARRY
section STEPS
variable {G : GG} {H H1 : Heap} {a : Nat → Nat} {f : Nat → Int → Nat} {N : Int → List Int} {u : Nat → Int → Int} {ys : Int → Int} {V : St}
theorem RW.iv (h : RW G H a f N u ys V) : Iv V := h.1.1
theorem ev_out_of {S : Nat → Prop} (hN : ∀ h, 0 ≤ h → h < V 0 0 → Nok V h (N h)) (o : ∀ i, dom V 19 i → ¬ S (f 9 i)) {h : Int} (h0 : 0 ≤ h) (h1 : h < V 0 0) : ∀ e ∈ mkL V (f 9) h (N h), ¬ S (eAd e) := by
  intro e he
  obtain ⟨j, hj, rfl⟩ := mkL_mem he
  have q := (hN h h0 h1).2.1 j hj
  exact o _ (dE h0 h1 q.1 q.2)
/-- only new cells -/
theorem RW.fr {S : Nat → Prop} {k : Nat} (h : RW G H a f N u ys V) (x : Fr H H1 S k) (o : ∀ t i, dom V t i → ¬ S (adr a f t i)) : RW G H1 a f N u ys V := by
  obtain ⟨⟨hV, hX, hT, hE, hL, hBa, hBk⟩, hY, hN, hI⟩ := h
  refine ⟨⟨hV, hX.f x (o 0 0 (dA 0 (by omega))), tnF hT hV x (o 1 0 (dA 1 (by omega))) (o 2 0 (dA 2 (by omega))) (fun i p q => o 10 i (dH 10 (by omega) (by omega) p q)) rfl rfl rfl rfl rfl rfl, fun i p q => evF (hE i p q) x (o 11 i (dH 11 (by omega) (by omega) p q)) (o 12 i (dH 12 (by omega) (by omega) p q)) (ev_out_of hN (fun i z => o 19 i z) p q),
    liF hL hV x (o 3 0 (dA 3 (by omega))) (o 4 0 (dA 4 (by omega))) (fun i p q => ⟨o 13 i (dL 13 (by omega) (by omega) p q), o 14 i (dL 14 (by omega) (by omega) p q)⟩) (fun i p q => o 15 i (dU p q)) rfl rfl rfl rfl, hBa.f x (o 5 0 (dA 5 (by omega))),
    fun y p q => bkF (hBk y p q) hV x (o 16 y (dB 16 (by omega) (by omega) p q)) (o 17 y (dB 17 (by omega) (by omega) p q)) (o 18 y (dB 18 (by omega) (by omega) p q)) rfl rfl rfl (fun _ _ _ => rfl) (fun _ _ _ => rfl)⟩, hY.f x (o 6 0 (dA 6 (by omega))), hN, hI⟩
/-- the years' sums -/
theorem RW.sums {ys2 : Int → Int} {k : Nat} (h : RW G H a f N u ys V) (x : Fr H H1 (fun z => z = a 6) k) (hc : At G H1 (a 6) (eL G 40 ys2)) : RW G H1 a f N u ys2 V := by
  obtain ⟨⟨hV, hX, hT, hE, hL, hBa, hBk⟩, hY, hN, hI⟩ := h
  have o : ∀ t i, dom V t i → t ≠ 6 → ¬ (adr a f t i = a 6) := fun t i hd hn z => hn (hI t i 6 0 hd (dA 6 (by omega)) z).1
  refine ⟨⟨hV, hX.f x (o 0 0 (dA 0 (by omega)) (by omega)), tnF hT hV x (o 1 0 (dA 1 (by omega)) (by omega)) (o 2 0 (dA 2 (by omega)) (by omega)) (fun i p q => o 10 i (dH 10 (by omega) (by omega) p q) (by omega)) rfl rfl rfl rfl rfl rfl, fun i p q => evF (hE i p q) x (o 11 i (dH 11 (by omega) (by omega) p q) (by omega)) (o 12 i (dH 12 (by omega) (by omega) p q) (by omega)) (ev_out_of (S := fun z => z = a 6) hN (fun i z => o 19 i z (by omega)) p q),
    liF hL hV x (o 3 0 (dA 3 (by omega)) (by omega)) (o 4 0 (dA 4 (by omega)) (by omega)) (fun i p q => ⟨o 13 i (dL 13 (by omega) (by omega) p q) (by omega), o 14 i (dL 14 (by omega) (by omega) p q) (by omega)⟩) (fun i p q => o 15 i (dU p q) (by omega)) rfl rfl rfl rfl, hBa.f x (o 5 0 (dA 5 (by omega)) (by omega)),
    fun y p q => bkF (hBk y p q) hV x (o 16 y (dB 16 (by omega) (by omega) p q) (by omega)) (o 17 y (dB 17 (by omega) (by omega) p q) (by omega)) (o 18 y (dB 18 (by omega) (by omega) p q) (by omega)) rfl rfl rfl (fun _ _ _ => rfl) (fun _ _ _ => rfl)⟩, hc, hN, hI⟩
theorem Iv.rent {V : St} (h : Iv V) {o r : Int} (hr : 0 ≤ r ∧ r ≤ 100000) : Iv (vu V 5 o r) := by
  refine ⟨h.1, fun i p q => ?_, h.2.2.1, h.2.2.2.1, h.2.2.2.2.1, h.2.2.2.2.2.1, h.2.2.2.2.2.2⟩
  have w := h.h p q
  show (0 ≤ V 1 i ∧ V 1 i ≤ 3) ∧ (0 ≤ V 2 i ∧ V 2 i ≤ 2) ∧ (0 ≤ V 3 i ∧ V 3 i ≤ 5) ∧ (1 ≤ V 4 i ∧ V 4 i ≤ 500) ∧ (0 ≤ (if i = o then r else V 5 i) ∧ (if i = o then r else V 5 i) ≤ 100000) ∧ (0 ≤ V 6 i ∧ V 6 i ≤ 12)
  split <;> omega
theorem RW.rent {hh r : Int} {k : Nat} (h : RW G H a f N u ys V) (h0 : 0 ≤ hh) (h1 : hh < V 0 0) (hr : 0 ≤ r ∧ r ≤ 100000) (x : Fr H H1 (fun z => z = f 0 hh) k) (hc : At G H1 (f 0 hh) (eHo (vu V 5 hh r) (f 1) hh)) : RW G H1 a f N u ys (vu V 5 hh r) := by
  obtain ⟨⟨hV, hX, hT, hE, hL, hBa, hBk⟩, hY, hN, hI⟩ := h
  have o : ∀ t i, dom V t i → ¬ (t = 10 ∧ i = hh) → ¬ (adr a f t i = f 0 hh) := fun t i hd hn z => hn (hI t i 10 hh hd (dH 10 (by omega) (by omega) h0 h1) z)
  have hV2 := hV.rent (o := hh) hr
  refine ⟨⟨hV2, hX.f x (o 0 0 (dA 0 (by omega)) (by omega)), ⟨hV2, hT.2.1.f x (o 1 0 (dA 1 (by omega)) (by omega)), hT.2.2.1.f x (o 2 0 (dA 2 (by omega)) (by omega)), fun i p q => ?_⟩, fun i p q => evF (hE i p q) x (o 11 i (dH 11 (by omega) (by omega) p q) (by omega)) (o 12 i (dH 12 (by omega) (by omega) p q) (by omega)) (ev_out_of (S := fun z => z = f 0 hh) hN (fun i z => o 19 i z (by omega)) p q),
    liF hL hV2 x (o 3 0 (dA 3 (by omega)) (by omega)) (o 4 0 (dA 4 (by omega)) (by omega)) (fun i p q => ⟨o 13 i (dL 13 (by omega) (by omega) p q) (by omega), o 14 i (dL 14 (by omega) (by omega) p q) (by omega)⟩) (fun i p q => o 15 i (dU p q) (by omega)) rfl rfl rfl rfl, hBa.f x (o 5 0 (dA 5 (by omega)) (by omega)),
    fun y p q => bkF (hBk y p q) hV2 x (o 16 y (dB 16 (by omega) (by omega) p q) (by omega)) (o 17 y (dB 17 (by omega) (by omega) p q) (by omega)) (o 18 y (dB 18 (by omega) (by omega) p q) (by omega)) rfl rfl rfl (fun _ _ _ => rfl) (fun _ _ _ => rfl)⟩, hY.f x (o 6 0 (dA 6 (by omega)) (by omega)), hN, hI⟩
  by_cases z : i = hh
  · subst z; exact hc
  · have w := (hT.2.2.2 i p q).f x (o 10 i (dH 10 (by omega) (by omega) p q) (by omega))
    unfold eHo at w ⊢
    rw [show (vu V 5 hh r) 5 i = V 5 i from uf_n _ _ z]
    exact w
theorem Iv.pay {V : St} (h : Iv V) {o y s : Int} (h0 : 0 ≤ o) (h1 : o < 40) (h2 : 0 ≤ y) (h3 : y < 10) (hs : 1 ≤ s) (hm : V 17 (10 * o + y) + s ≤ 10000000) : Iv (sPa V o y s) := by
  refine ⟨h.1, h.2.1, h.2.2.1, h.2.2.2.1, h.2.2.2.2.1, h.2.2.2.2.2.1, fun i z p q c d => ?_⟩
  have w := h.b p q c d
  have w2 := h.b h0 h1 h2 h3
  show (V 16 (10 * i + z) = -4 ∨ (0 ≤ V 16 (10 * i + z) ∧ V 16 (10 * i + z) ≤ 200000000)) ∧ (0 ≤ (if 10 * i + z = 10 * o + y then V 17 (10 * o + y) + s else V 17 (10 * i + z)) ∧ (if 10 * i + z = 10 * o + y then V 17 (10 * o + y) + s else V 17 (10 * i + z)) ≤ 10000000)
  split <;> omega
theorem RW.pay {hh y s : Int} {k : Nat} (h : RW G H a f N u ys V) (h0 : 0 ≤ hh) (h1 : hh < V 0 0) (h2 : 0 ≤ y) (h3 : y < 10) (hs : 1 ≤ s) (hm : V 17 (10 * hh + y) + s ≤ 10000000) (x : Fr H H1 (fun z => z = f 8 y) k) (hc : At G H1 (f 8 y) (eI G 40 (uf (pdF V y) hh (V 17 (10 * hh + y) + s)))) : RW G H1 a f N u ys (sPa V hh y s) := by
  obtain ⟨⟨hV, hX, hT, hE, hL, hBa, hBk⟩, hY, hN, hI⟩ := h
  have hn := hV.n
  have o : ∀ t i, dom V t i → ¬ (t = 18 ∧ i = y) → ¬ (adr a f t i = f 8 y) := fun t i hd hn z => hn (hI t i 18 y hd (dB 18 (by omega) (by omega) h2 h3) z)
  have hV2 : Iv (sPa V hh y s) := hV.pay h0 (by omega) h2 h3 hs hm
  have e17 : ∀ j z : Int, 0 ≤ z → z < 10 → (sPa V hh y s) 17 (10 * j + z) = if j = hh ∧ z = y then V 17 (10 * hh + y) + s else V 17 (10 * j + z) := fun j z p q => by
    show (if 10 * j + z = 10 * hh + y then _ else _) = _
    by_cases w : j = hh ∧ z = y
    · rw [if_pos w, if_pos (by omega)]
    · rw [if_neg w, if_neg (by omega)]
  refine ⟨⟨hV2, hX.f x (o 0 0 (dA 0 (by omega)) (by omega)), tnF hT hV2 x (o 1 0 (dA 1 (by omega)) (by omega)) (o 2 0 (dA 2 (by omega)) (by omega)) (fun i p q => o 10 i (dH 10 (by omega) (by omega) p q) (by omega)) rfl rfl rfl rfl rfl rfl, fun i p q => evF (hE i p q) x (o 11 i (dH 11 (by omega) (by omega) p q) (by omega)) (o 12 i (dH 12 (by omega) (by omega) p q) (by omega)) (ev_out_of (S := fun z => z = f 8 y) hN (fun i z => o 19 i z (by omega)) p q),
    liF hL hV2 x (o 3 0 (dA 3 (by omega)) (by omega)) (o 4 0 (dA 4 (by omega)) (by omega)) (fun i p q => ⟨o 13 i (dL 13 (by omega) (by omega) p q) (by omega), o 14 i (dL 14 (by omega) (by omega) p q) (by omega)⟩) (fun i p q => o 15 i (dU p q) (by omega)) rfl rfl rfl rfl, hBa.f x (o 5 0 (dA 5 (by omega)) (by omega)), fun z p q => ?_⟩, hY.f x (o 6 0 (dA 6 (by omega)) (by omega)), hN, hI⟩
  by_cases w : z = y
  · subst w
    refine ⟨hV2, (hBk z p q).2.1.f x (o 16 z (dB 16 (by omega) (by omega) p q) (by omega)), (hBk z p q).2.2.1.f x (o 17 z (dB 17 (by omega) (by omega) p q) (by omega)), eI_congr (fun j c d => ?_) hc⟩
    show uf (pdF V z) hh _ j = (sPa V hh z s) 17 (10 * j + z)
    rw [e17 j z p q]
    unfold uf pdF
    by_cases v : j = hh
    · rw [if_pos v, if_pos ⟨v, rfl⟩]
    · rw [if_neg v, if_neg (fun y => v y.1)]
  · exact bkF (hBk z p q) hV2 x (o 16 z (dB 16 (by omega) (by omega) p q) (by omega)) (o 17 z (dB 17 (by omega) (by omega) p q) (by omega)) (o 18 z (dB 18 (by omega) (by omega) p q) (by omega)) rfl rfl rfl (fun _ _ _ => rfl) (fun j c d => by
      show (sPa V hh y s) 17 (10 * j + z) = V 17 (10 * j + z)
      rw [e17 j z p q, if_neg (fun v => w v.2)])
end STEPS
