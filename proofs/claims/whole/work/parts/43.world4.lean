/-! a list more -/
def fLi (f : Nat → Int → Nat) (n : Int) (q : Nat) : Nat → Int → Nat := fun t j => if t = 3 ∧ j = n then q else if t = 4 ∧ j = n then q + 1 else if t = 5 ∧ 18 * n ≤ j ∧ j < 18 * n + 18 then q + 1 + (1 + (j - 18 * n).toNat) else f t j
def uLi (u : Nat → Int → Int) (V : St) (n : Int) : Nat → Int → Int := fun t j => if 18 * n ≤ j ∧ j < 18 * n + 18 then (if t = 0 then unC V ((j - 18 * n) / 6) ((j - 18 * n) % 6) (-1) else unD V ((j - 18 * n) / 6) ((j - 18 * n) % 6) (-1)) else u t j
theorem fLi_n {f : Nat → Int → Nat} {n : Int} {q t : Nat} (h : t < 3 ∨ 5 < t) : fLi f n q t = f t := by
  funext j
  unfold fLi
  rw [if_neg (by omega), if_neg (by omega), if_neg (by omega)]
theorem fLi_3 (f : Nat → Int → Nat) (n j : Int) (q : Nat) : fLi f n q 3 j = if j = n then q else f 3 j := by
  unfold fLi
  by_cases e : j = n
  · rw [if_pos ⟨rfl, e⟩, if_pos e]
  · rw [if_neg (fun z => e z.2), if_neg (by omega), if_neg (by omega), if_neg e]
theorem fLi_4 (f : Nat → Int → Nat) (n j : Int) (q : Nat) : fLi f n q 4 j = if j = n then q + 1 else f 4 j := by
  unfold fLi
  by_cases e : j = n
  · rw [if_neg (by omega), if_pos ⟨rfl, e⟩, if_pos e]
  · rw [if_neg (by omega), if_neg (fun z => e z.2), if_neg (by omega), if_neg e]
theorem fLi_5 (f : Nat → Int → Nat) (n j : Int) (q : Nat) : fLi f n q 5 j = if 18 * n ≤ j ∧ j < 18 * n + 18 then q + 1 + (1 + (j - 18 * n).toNat) else f 5 j := by
  unfold fLi
  by_cases e : 18 * n ≤ j ∧ j < 18 * n + 18
  · rw [if_neg (by omega), if_neg (by omega), if_pos ⟨rfl, e⟩, if_pos e]
  · rw [if_neg (by omega), if_neg (by omega), if_neg (fun z => e z.2), if_neg e]
theorem sLi_00 (V : St) (d : Int) : sLi V d 0 0 = V 0 0 := by
  show vu (vu (liW V 18) 10 (V 0 1) d) 0 1 (V 0 1 + 1) 0 0 = _
  rw [vu_s, uf_n _ _ (by omega), vu_n _ _ _ (by omega)]; rfl
theorem sLi_01 (V : St) (d : Int) : sLi V d 0 1 = V 0 1 + 1 := by
  show vu (vu (liW V 18) 10 (V 0 1) d) 0 1 (V 0 1 + 1) 0 1 = _
  rw [vu_s, uf_s]
theorem sLi_10 (V : St) (d j : Int) : sLi V d 10 j = if j = V 0 1 then d else V 10 j := rfl
theorem sLi_11 (V : St) (d j : Int) : sLi V d 11 j = if 18 * V 0 1 ≤ j ∧ j < 18 * V 0 1 + 18 then mUa V ((j - 18 * V 0 1) / 6) ((j - 18 * V 0 1) % 6) (-1) else V 11 j := rfl
theorem sLi_12 (V : St) (d j : Int) : sLi V d 12 j = if 18 * V 0 1 ≤ j ∧ j < 18 * V 0 1 + 18 then mUb V ((j - 18 * V 0 1) / 6) ((j - 18 * V 0 1) % 6) (-1) else V 12 j := rfl
theorem sLi_c (V : St) (d : Int) {c : Nat} (h0 : c ≠ 0) (h : c < 10 ∨ 12 < c) : sLi V d c = V c := by
  show vu (vu (liW V 18) 10 (V 0 1) d) 0 1 (V 0 1 + 1) c = _
  rw [vu_n _ _ _ h0, vu_n _ _ _ (by omega)]
  unfold liW
  rw [if_neg (by omega), if_neg (by omega)]
/-- the two ways to a unit agree -/
def UA (V : St) : Prop := ∀ k s, 0 ≤ k → k < 3 → 0 ≤ s → s < 6 → mUa V k s (-1) = unA V k s (-1) ∧ mUb V k s (-1) = unB V k s (-1)
theorem Iv.list {V : St} (h : Iv V) {d : Int} (hl : V 0 1 ≠ 10) (hd : 0 ≤ d ∧ d < 3650) (hu : UA V) : Iv (sLi V d) := by
  have n := h.n
  have l := h.l
  unfold Iv
  rw [sLi_00, sLi_01, sLi_c V d (c := 1) (by omega) (by omega), sLi_c V d (c := 2) (by omega) (by omega), sLi_c V d (c := 3) (by omega) (by omega), sLi_c V d (c := 4) (by omega) (by omega), sLi_c V d (c := 5) (by omega) (by omega), sLi_c V d (c := 6) (by omega) (by omega), sLi_c V d (c := 7) (by omega) (by omega), sLi_c V d (c := 8) (by omega) (by omega), sLi_c V d (c := 9) (by omega) (by omega), sLi_c V d (c := 13) (by omega) (by omega), sLi_c V d (c := 14) (by omega) (by omega), sLi_c V d (c := 15) (by omega) (by omega), sLi_c V d (c := 16) (by omega) (by omega), sLi_c V d (c := 17) (by omega) (by omega)]
  refine ⟨⟨n, by omega⟩, h.2.1, h.2.2.1, fun i a b => ?_, fun i w a b c e => ?_, h.2.2.2.2.2.1, h.2.2.2.2.2.2⟩
  · rw [sLi_10]
    by_cases z : i = V 0 1
    · rw [if_pos z]; omega
    · rw [if_neg z]; exact h.d a (by omega)
  · rw [sLi_11, sLi_12]
    by_cases z : i = V 0 1
    · subst z
      rw [if_pos (by omega), if_pos (by omega), (hu _ _ (by omega) (by omega) (by omega) (by omega)).1, (hu _ _ (by omega) (by omega) (by omega) (by omega)).2]
      exact un_rng h _ _ _
    · rw [if_neg (by omega), if_neg (by omega)]
      exact h.u a (by omega) c e
section STEPS5
variable {G : GG} {H H1 : Heap} {a : Nat → Nat} {f : Nat → Int → Nat} {N : Int → List Int} {u : Nat → Int → Int} {ys : Int → Int} {V : St}
theorem RW.li {d : Int} {q : Nat} {kk : Nat} (h : RW G H a f N u ys V) (hl : V 0 1 ≠ 10) (hd : 0 ≤ d ∧ d < 3650) (hu : UA V) (hq : q = H.size) (x : Fr H H1 (fun z => z = a 3 ∨ z = a 4) kk)
    (c1 : At G H1 (a 3) (eO 3 [.ref (a 4), .int (J (V 0 1 + 1))])) (c2 : At G H1 (a 4) (eQ G 5 10 (uf (qN (V 0 1) (f 3)) (V 0 1) (some q)))) (c3 : At G H1 q (eO 4 [.int (J d), .ref (q + 1)])) (c4 : At G H1 (q + 1) (eQ G 6 18 (fun j => some (q + 1 + (1 + j.toNat))))) (c5 : ∀ j : Int, 0 ≤ j → j < 18 → At G H1 (q + 1 + (1 + j.toNat)) (eUn V (j / 6) (j % 6) (-1))) :
    RW G H1 a (fLi f (V 0 1) q) N (uLi u V (V 0 1)) ys (sLi V d) := by
  have lt := h.lt
  obtain ⟨⟨hV, hX, hT, hE, hL, hBa, hBk⟩, hY, hN, hI⟩ := h
  have hV2 := hV.list hl hd hu
  have n := hV.n
  have l := hV.l
  have o : ∀ t i, dom V t i → t ≠ 3 → t ≠ 4 → ¬ (adr a f t i = a 3 ∨ adr a f t i = a 4) := fun t i hd hn hm z => by
    rcases z with z | z
    · exact hn (hI t i 3 0 hd (dA 3 (by omega)) z).1
    · exact hm (hI t i 4 0 hd (dA 4 (by omega)) z).1
  have g0 := fLi_n (f := f) (n := V 0 1) (q := q) (t := 0) (by omega)
  have g1 := fLi_n (f := f) (n := V 0 1) (q := q) (t := 1) (by omega)
  have g2 := fLi_n (f := f) (n := V 0 1) (q := q) (t := 2) (by omega)
  have g6 := fLi_n (f := f) (n := V 0 1) (q := q) (t := 6) (by omega)
  have g7 := fLi_n (f := f) (n := V 0 1) (q := q) (t := 7) (by omega)
  have g8 := fLi_n (f := f) (n := V 0 1) (q := q) (t := 8) (by omega)
  have g9 := fLi_n (f := f) (n := V 0 1) (q := q) (t := 9) (by omega)
  refine ⟨⟨hV2, hX.f x (o 0 0 (dA 0 (by omega)) (by omega) (by omega)), ?_, fun i p pq => ?_, ⟨hV2, by rw [sLi_01]; exact c1, ?_, fun i p pq => ?_, fun i p pq => ?_, fun i w p pq c e => ?_⟩, ?_, ?_⟩, hY.f x (o 6 0 (dA 6 (by omega)) (by omega) (by omega)), fun i p pq => ?_, ?_⟩
  · rw [g0, g1]
    exact tnF hT hV2 x (o 1 0 (dA 1 (by omega)) (by omega) (by omega)) (o 2 0 (dA 2 (by omega)) (by omega) (by omega)) (fun i p q => o 10 i (dH 10 (by omega) (by omega) p q) (by omega) (by omega)) (sLi_00 V d) (sLi_c V d (by omega) (by omega)) (sLi_c V d (by omega) (by omega)) (sLi_c V d (by omega) (by omega)) (sLi_c V d (by omega) (by omega)) (sLi_c V d (by omega) (by omega))
  · rw [sLi_00] at pq
    show Evs G H1 (fLi f (V 0 1) q 1 i) (fLi f (V 0 1) q 2 i) (mkL (sLi V d) (fLi f (V 0 1) q 9) i (N i))
    rw [g1, g2, g9, mkL_congr (V := V) (f9 := f 9) (fun j hj => by unfold mkE; rw [sLi_c V d (c := 7) (by omega) (by omega), sLi_c V d (c := 8) (by omega) (by omega), sLi_c V d (c := 9) (by omega) (by omega)])]
    exact evF (hE i p pq) x (o 11 i (dH 11 (by omega) (by omega) p pq) (by omega) (by omega)) (o 12 i (dH 12 (by omega) (by omega) p pq) (by omega) (by omega)) (ev_out_of (S := fun z => z = a 3 ∨ z = a 4) hN (fun i z => o 19 i z (by omega) (by omega)) p pq)
  · rw [sLi_01]
    refine eQ_congr (fun j a b => ?_) c2
    unfold uf qN
    rw [fLi_3]
    by_cases e : j = V 0 1
    · rw [if_pos e, if_pos (by omega), if_pos e]
    · rw [if_neg e, if_neg e]
      by_cases y : 0 ≤ j ∧ j < V 0 1
      · rw [if_pos y, if_pos (by omega)]
      · rw [if_neg y, if_neg (by omega)]
  · rw [sLi_01] at pq
    rw [sLi_10, fLi_3, fLi_4]
    by_cases e : i = V 0 1
    · rw [if_pos e, if_pos e, if_pos e]; exact c3
    · rw [if_neg e, if_neg e, if_neg e]
      exact (hL.2.2.2.1 i p (by omega)).f x (o 13 i (dL 13 (by omega) (by omega) p (by omega)) (by omega) (by omega))
  · rw [sLi_01] at pq
    rw [fLi_4]
    by_cases e : i = V 0 1
    · rw [if_pos e]
      refine eQ_congr (fun j a b => ?_) c4
      rw [fLi_5, e, if_pos (by omega), show 18 * V 0 1 + j - 18 * V 0 1 = j by omega]
    · rw [if_neg e]
      refine eQ_congr (fun j a b => ?_) ((hL.2.2.2.2.1 i p (by omega)).f x (o 14 i (dL 14 (by omega) (by omega) p (by omega)) (by omega) (by omega)))
      rw [fLi_5, if_neg (by omega)]
  · rw [sLi_01] at pq
    rw [fLi_5, sLi_11, sLi_12]
    by_cases z : i = V 0 1
    · subst z
      have w6 := hu (w / 6) (w % 6) (by omega) (by omega) (by omega) (by omega)
      have u0 : uLi u V (V 0 1) 0 (18 * V 0 1 + w) = unC V (w / 6) (w % 6) (-1) := by
        unfold uLi
        rw [if_pos (by omega), if_pos rfl, show 18 * V 0 1 + w - 18 * V 0 1 = w by omega]
      have u1 : uLi u V (V 0 1) 1 (18 * V 0 1 + w) = unD V (w / 6) (w % 6) (-1) := by
        unfold uLi
        rw [if_pos (by omega), if_neg (by omega), show 18 * V 0 1 + w - 18 * V 0 1 = w by omega]
      rw [u0, u1, if_pos (by omega), if_pos (by omega), if_pos (by omega), show 18 * V 0 1 + w - 18 * V 0 1 = w by omega, w6.1, w6.2]
      exact c5 w c e
    · unfold uLi
      rw [if_neg (by omega), if_neg (by omega), if_neg (by omega), if_neg (by omega), if_neg (by omega)]
      exact (hL.2.2.2.2.2 i w p (by omega) c e).f x (o 15 _ (dU (by omega) (by omega)) (by omega) (by omega))
  · rw [g6]; exact hBa.f x (o 5 0 (dA 5 (by omega)) (by omega) (by omega))
  · rw [g6, g7, g8]
    refine fun y p q => bkF (hBk y p q) hV2 x (o 16 y (dB 16 (by omega) (by omega) p q) (by omega) (by omega)) (o 17 y (dB 17 (by omega) (by omega) p q) (by omega) (by omega)) (o 18 y (dB 18 (by omega) (by omega) p q) (by omega) (by omega)) (by rw [sLi_c V d (by omega) (by omega)]) (by rw [sLi_c V d (by omega) (by omega)]) (by rw [sLi_c V d (by omega) (by omega)]) (fun j c e => ?_) (fun j c e => ?_)
    · unfold blF
      rw [sLi_00, sLi_c V d (c := 16) (by omega) (by omega)]
    · unfold pdF
      rw [sLi_c V d (c := 17) (by omega) (by omega)]
  · rw [sLi_00] at pq
    unfold Nok
    rw [sLi_c V d (c := 6) (by omega) (by omega), sLi_c V d (c := 7) (by omega) (by omega)]
    exact hN i p pq
  · refine hI.ext (sz := q) (Q := fun t i => (t = 13 ∧ i = V 0 1) ∨ (t = 14 ∧ i = V 0 1) ∨ (t = 15 ∧ 18 * V 0 1 ≤ i ∧ i < 18 * V 0 1 + 18)) (by rw [hq]; exact lt) (fun t i hd => ?_) (fun t i t' i' h1 h2 he => ?_)
    · have ne : ∀ t i, (t < 13 ∨ 15 < t) → adr a (fLi f (V 0 1) q) t i = adr a f t i := fun t i ht => by
        unfold adr
        by_cases y : t < 10
        · rw [if_pos y, if_pos y]
        · rw [if_neg y, if_neg y, fLi_n (by omega)]
      rcases hd with y | y | y | y | y | y
      · exact Or.inl ⟨Or.inl y, ne t i (by omega)⟩
      · rw [sLi_00] at y
        exact Or.inl ⟨Or.inr (Or.inl y), ne t i (by omega)⟩
      · rw [sLi_01] at y
        by_cases e : i = V 0 1
        · refine Or.inr ⟨?_, by omega⟩
          have : t = 13 ∨ t = 14 := by omega
          rcases this with rfl | rfl
          · show q ≤ fLi f (V 0 1) q 3 i
            rw [fLi_3, if_pos e]; exact Nat.le_refl _
          · show q ≤ fLi f (V 0 1) q 4 i
            rw [fLi_4, if_pos e]; omega
        · refine Or.inl ⟨Or.inr (Or.inr (Or.inl ⟨y.1, y.2.1, y.2.2.1, by omega⟩)), ?_⟩
          have : t = 13 ∨ t = 14 := by omega
          rcases this with rfl | rfl
          · show fLi f (V 0 1) q 3 i = f 3 i
            rw [fLi_3, if_neg e]
          · show fLi f (V 0 1) q 4 i = f 4 i
            rw [fLi_4, if_neg e]
      · rw [sLi_01] at y
        obtain ⟨rfl, y1, y2⟩ := y
        by_cases e : 18 * V 0 1 ≤ i ∧ i < 18 * V 0 1 + 18
        · refine Or.inr ⟨?_, by omega⟩
          show q ≤ fLi f (V 0 1) q 5 i
          rw [fLi_5, if_pos e]; omega
        · refine Or.inl ⟨dU y1 (by omega), ?_⟩
          show fLi f (V 0 1) q 5 i = f 5 i
          rw [fLi_5, if_neg e]
      · exact Or.inl ⟨Or.inr (Or.inr (Or.inr (Or.inr (Or.inl y)))), ne t i (by omega)⟩
      · obtain ⟨rfl, i', e, z1, z2, rfl⟩ := y
        rw [sLi_c V d (c := 6) (by omega) (by omega)] at z2
        rw [sLi_00] at z1
        exact Or.inl ⟨dE z1.1 z1.2 z2.1 z2.2, ne _ _ (by omega)⟩
    · have A3 : ∀ i, i = V 0 1 → adr a (fLi f (V 0 1) q) 13 i = q := fun i e => by
        show fLi f (V 0 1) q 3 i = q
        rw [fLi_3, if_pos e]
      have A4 : ∀ i, i = V 0 1 → adr a (fLi f (V 0 1) q) 14 i = q + 1 := fun i e => by
        show fLi f (V 0 1) q 4 i = q + 1
        rw [fLi_4, if_pos e]
      have A5 : ∀ i, 18 * V 0 1 ≤ i → i < 18 * V 0 1 + 18 → adr a (fLi f (V 0 1) q) 15 i = q + 1 + (1 + (i - 18 * V 0 1).toNat) := fun i e e2 => by
        show fLi f (V 0 1) q 5 i = _
        rw [fLi_5, if_pos ⟨e, e2⟩]
      rcases h1 with ⟨rfl, e1⟩ | ⟨rfl, e1⟩ | ⟨rfl, e1, e3⟩ <;> rcases h2 with ⟨rfl, e2⟩ | ⟨rfl, e2⟩ | ⟨rfl, e2, e4⟩
      · exact ⟨rfl, by omega⟩
      · rw [A3 i e1, A4 i' e2] at he; omega
      · rw [A3 i e1, A5 i' e2 e4] at he; omega
      · rw [A4 i e1, A3 i' e2] at he; omega
      · exact ⟨rfl, by omega⟩
      · rw [A4 i e1, A5 i' e2 e4] at he; omega
      · rw [A5 i e1 e3, A3 i' e2] at he; omega
      · rw [A5 i e1 e3, A4 i' e2] at he; omega
      · rw [A5 i e1 e3, A5 i' e2 e4] at he; exact ⟨rfl, by omega⟩
end STEPS5
/-! a year struck -/
theorem stB_16 {V : St} {y nd p i h z : Int} (hy : 0 ≤ y ∧ y < 10) (h0 : 0 ≤ i) (hz : 0 ≤ z ∧ z < 10) (hh : 0 ≤ h) : stB V y nd p i 16 (10 * h + z) = if z = y ∧ h < i then mYr V h y * p / 365000 else V 16 (10 * h + z) := by
  unfold stB
  refine lo_inv (g := fun X h => vu X 16 (10 * h + y) (mYr V h y * p / 365000)) (fun X i => X 16 (10 * h + z) = if z = y ∧ h < i then mYr V h y * p / 365000 else V 16 (10 * h + z)) h0 ?_ (fun X i a b hx => ?_)
  · rw [if_neg (by omega)]; rfl
  · show vu X 16 (10 * i + y) (mYr V i y * p / 365000) 16 (10 * h + z) = _
    rw [vu_s]
    by_cases e : z = y ∧ h = i
    · rw [e.1, e.2, uf_s, if_pos ⟨rfl, by omega⟩]
    · rw [uf_n _ _ (by omega), hx]
      by_cases w : z = y ∧ h < i
      · rw [if_pos w, if_pos (by omega)]
      · rw [if_neg w, if_neg (by omega)]
theorem stB_c {V : St} {y nd p i : Int} (h0 : 0 ≤ i) {c : Nat} (hc : c ≠ 16) : stB V y nd p i c = stW V y nd p c := by
  unfold stB
  exact lo_keep h0 (fun X j => vu_n _ _ _ hc)
section STEPS6
variable {G : GG} {H H1 : Heap} {a : Nat → Nat} {f : Nat → Int → Nat} {N : Int → List Int} {u : Nat → Int → Int} {ys : Int → Int} {V : St}
theorem sSt_c (hV : Iv V) (y nd : Int) {c : Nat} (h : c < 13 ∨ 16 < c) : sSt V y nd c = V c := by
  unfold sSt
  rw [stB_c hV.n.1 (by omega)]
  unfold stW
  rw [vu_n _ _ _ (by omega), vu_n _ _ _ (by omega), vu_n _ _ _ (by omega)]
theorem sSt_13 (hV : Iv V) (y nd : Int) : sSt V y nd 13 = uf (V 13) y 1 ∧ sSt V y nd 14 = uf (V 14) y (mLp V y nd) ∧ sSt V y nd 15 = uf (V 15) y nd := by
  unfold sSt
  rw [stB_c hV.n.1 (by omega), stB_c hV.n.1 (by omega), stB_c hV.n.1 (by omega)]
  exact ⟨rfl, rfl, rfl⟩
theorem sSt_16 (hV : Iv V) {y nd h z : Int} (hy : 0 ≤ y ∧ y < 10) (hz : 0 ≤ z ∧ z < 10) (hh : 0 ≤ h) : sSt V y nd 16 (10 * h + z) = if z = y ∧ h < V 0 0 then mYr V h y * mLp V y nd / 365000 else V 16 (10 * h + z) := stB_16 hy hV.n.1 hz hh
theorem Iv.st (h : Iv V) {y nd : Int} (hy : 0 ≤ y ∧ y < 10) (hn : 0 ≤ nd ∧ nd ≤ 100000000) (hp : mLp V y nd ≠ -4) : Iv (sSt V y nd) := by
  have p := mLp_rng V y nd
  have w := sSt_13 h y nd
  unfold Iv
  rw [w.1, w.2.1, w.2.2, sSt_c h y nd (c := 0) (by omega), sSt_c h y nd (c := 1) (by omega), sSt_c h y nd (c := 2) (by omega), sSt_c h y nd (c := 3) (by omega), sSt_c h y nd (c := 4) (by omega), sSt_c h y nd (c := 5) (by omega), sSt_c h y nd (c := 6) (by omega), sSt_c h y nd (c := 7) (by omega), sSt_c h y nd (c := 8) (by omega), sSt_c h y nd (c := 9) (by omega), sSt_c h y nd (c := 10) (by omega), sSt_c h y nd (c := 11) (by omega), sSt_c h y nd (c := 12) (by omega), sSt_c h y nd (c := 17) (by omega)]
  refine ⟨h.1, h.2.1, h.2.2.1, h.2.2.2.1, h.2.2.2.2.1, fun z a b => ?_, fun i z a b c d => ?_⟩
  · have q := h.y a b
    by_cases e : z = y
    · rw [e, uf_s, uf_s, uf_s]; omega
    · rw [uf_n _ _ e, uf_n _ _ e, uf_n _ _ e]; exact q
  · have q := h.b a b c d
    rw [sSt_16 h hy ⟨c, d⟩ a]
    by_cases e : z = y ∧ i < V 0 0
    · rw [if_pos e]
      have := bill_rng (mYr_rng h (y := y) a e.2) (p := mLp V y nd) (by omega)
      omega
    · rw [if_neg e]; exact q
theorem RW.st {y nd : Int} {kk : Nat} (h : RW G H a f N u ys V) (hy : 0 ≤ y ∧ y < 10) (hnd : 0 ≤ nd ∧ nd ≤ 100000000) (hp : mLp V y nd ≠ -4) (x : Fr H H1 (fun z => z = f 6 y ∨ z = f 7 y) kk)
    (c1 : At G H1 (f 6 y) (eO 7 [.ref (f 7 y), .ref (f 8 y), .int (J 1), .int (J nd), .int (J (mLp V y nd))])) (c2 : At G H1 (f 7 y) (eI G 40 (blF (sSt V y nd) y))) : RW G H1 a f N u ys (sSt V y nd) := by
  obtain ⟨⟨hV, hX, hT, hE, hL, hBa, hBk⟩, hY, hN, hI⟩ := h
  have hV2 := hV.st hy hnd hp
  have w := sSt_13 hV y nd
  have c : ∀ c, c < 13 ∨ 16 < c → sSt V y nd c = V c := fun c hc => sSt_c hV y nd hc
  have e00 : sSt V y nd 0 0 = V 0 0 := by rw [c 0 (by omega)]
  have o : ∀ t i, dom V t i → ¬ (t = 16 ∧ i = y) → ¬ (t = 17 ∧ i = y) → ¬ (adr a f t i = f 6 y ∨ adr a f t i = f 7 y) := fun t i hd hn hm z => by
    rcases z with z | z
    · exact hn (hI t i 16 y hd (dB 16 (by omega) (by omega) hy.1 hy.2) z)
    · exact hm (hI t i 17 y hd (dB 17 (by omega) (by omega) hy.1 hy.2) z)
  refine ⟨⟨hV2, hX.f x (o 0 0 (dA 0 (by omega)) (by omega) (by omega)), tnF hT hV2 x (o 1 0 (dA 1 (by omega)) (by omega) (by omega)) (o 2 0 (dA 2 (by omega)) (by omega) (by omega)) (fun i p q => o 10 i (dH 10 (by omega) (by omega) p q) (by omega) (by omega)) e00 (c 1 (by omega)) (c 2 (by omega)) (c 3 (by omega)) (c 4 (by omega)) (c 5 (by omega)), fun i p pq => ?_,
    liF hL hV2 x (o 3 0 (dA 3 (by omega)) (by omega) (by omega)) (o 4 0 (dA 4 (by omega)) (by omega) (by omega)) (fun i p q => ⟨o 13 i (dL 13 (by omega) (by omega) p q) (by omega) (by omega), o 14 i (dL 14 (by omega) (by omega) p q) (by omega) (by omega)⟩) (fun i p q => o 15 i (dU p q) (by omega) (by omega)) (by rw [c 0 (by omega)]) (c 10 (by omega)) (c 11 (by omega)) (c 12 (by omega)), hBa.f x (o 5 0 (dA 5 (by omega)) (by omega) (by omega)), fun z p q => ?_⟩, hY.f x (o 6 0 (dA 6 (by omega)) (by omega) (by omega)), fun i p pq => ?_, hI.sub (fun t i hd => ?_)⟩
  · rw [e00] at pq
    show Evs G H1 (f 1 i) (f 2 i) (mkL (sSt V y nd) (f 9) i (N i))
    rw [mkL_congr (V := V) (f9 := f 9) (fun j hj => by unfold mkE; rw [c 7 (by omega), c 8 (by omega), c 9 (by omega)])]
    exact evF (hE i p pq) x (o 11 i (dH 11 (by omega) (by omega) p pq) (by omega) (by omega)) (o 12 i (dH 12 (by omega) (by omega) p pq) (by omega) (by omega)) (ev_out_of (S := fun z => z = f 6 y ∨ z = f 7 y) hN (fun i z => o 19 i z (by omega) (by omega)) p pq)
  · by_cases e : z = y
    · subst e
      refine ⟨hV2, ?_, c2, ?_⟩
      · unfold eBk
        rw [w.1, w.2.1, w.2.2, uf_s, uf_s, uf_s]
        exact c1
      · refine eI_congr (fun j a b => ?_) ((hBk z p q).2.2.2.f x (o 18 z (dB 18 (by omega) (by omega) p q) (by omega) (by omega)))
        unfold pdF
        rw [c 17 (by omega)]
    · refine bkF (hBk z p q) hV2 x (o 16 z (dB 16 (by omega) (by omega) p q) (by omega) (by omega)) (o 17 z (dB 17 (by omega) (by omega) p q) (by omega) (by omega)) (o 18 z (dB 18 (by omega) (by omega) p q) (by omega) (by omega)) (by rw [w.1, uf_n _ _ e]) (by rw [w.2.1, uf_n _ _ e]) (by rw [w.2.2, uf_n _ _ e]) (fun j a b => ?_) (fun j a b => ?_)
      · unfold blF
        rw [e00, sSt_16 hV hy ⟨p, q⟩ a, if_neg (show ¬ (z = y ∧ j < V 0 0) from fun v => e v.1)]
      · unfold pdF
        rw [c 17 (by omega)]
  · rw [e00] at pq
    unfold Nok
    rw [c 6 (by omega), c 7 (by omega)]
    exact hN i p pq
  · unfold dom at hd ⊢
    rw [c 0 (by omega), c 6 (by omega)] at hd
    exact hd
end STEPS6
