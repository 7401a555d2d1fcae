/-! an event less, in the world; a house more; a list more; a year struck -/
theorem RW.lt {G : GG} {H : Heap} {a : Nat → Nat} {f : Nat → Int → Nat} {N : Int → List Int} {u : Nat → Int → Int} {ys : Int → Int} {V : St} (h : RW G H a f N u ys V) : ∀ t i, dom V t i → adr a f t i < H.size := by
  obtain ⟨⟨hV, hX, hT, hE, hL, hBa, hBk⟩, hY, hN, hI⟩ := h
  intro t i hd
  rcases hd with z | z | z | z | z | z
  · obtain ⟨z1, rfl⟩ := z
    show (if t < 10 then a t else f (t - 10) 0) < H.size
    rw [if_pos (by omega)]
    match t, z1 with
    | 0, _ => exact hX.lt
    | 1, _ => exact hT.2.1.lt
    | 2, _ => exact hT.2.2.1.lt
    | 3, _ => exact hL.2.1.lt
    | 4, _ => exact hL.2.2.1.lt
    | 5, _ => exact hBa.lt
    | 6, _ => exact hY.lt
  · obtain ⟨z1, z2, z3, z4⟩ := z
    show (if t < 10 then a t else f (t - 10) i) < H.size
    rw [if_neg (by omega)]
    have : t = 10 ∨ t = 11 ∨ t = 12 := by omega
    rcases this with rfl | rfl | rfl
    · exact (hT.2.2.2 i z3 z4).lt
    · exact (hE i z3 z4).1.lt
    · exact (hE i z3 z4).2.1.lt
  · obtain ⟨z1, z2, z3, z4⟩ := z
    show (if t < 10 then a t else f (t - 10) i) < H.size
    rw [if_neg (by omega)]
    have : t = 13 ∨ t = 14 := by omega
    rcases this with rfl | rfl
    · exact (hL.2.2.2.1 i z3 z4).lt
    · exact (hL.2.2.2.2.1 i z3 z4).lt
  · obtain ⟨rfl, z3, z4⟩ := z
    have w := (hL.2.2.2.2.2 (i / 18) (i % 18) (by omega) (by omega) (by omega) (by omega)).lt
    rw [show 18 * (i / 18) + i % 18 = i by omega] at w
    exact w
  · obtain ⟨z1, z2, z3, z4⟩ := z
    show (if t < 10 then a t else f (t - 10) i) < H.size
    rw [if_neg (by omega)]
    have : t = 16 ∨ t = 17 ∨ t = 18 := by omega
    rcases this with rfl | rfl | rfl
    · exact (hBk i z3 z4).2.1.lt
    · exact (hBk i z3 z4).2.2.1.lt
    · exact (hBk i z3 z4).2.2.2.lt
  · obtain ⟨rfl, hh, e, z1, z2, rfl⟩ := z
    have n := hN hh z1.1 z1.2
    have hm : e ∈ N hh := by
      have w : e ∈ (tld (V 6 hh)).filter (fun j => decide (V 7 (12 * hh + j) = V 7 (12 * hh + e))) := List.mem_filter.mpr ⟨tld_mem.mpr z2, decide_eq_true rfl⟩
      rw [← n.2.2.2] at w
      exact (List.mem_filter.mp w).1
    exact ((hE hh z1.1 z1.2).2.2.2.1 (mkE V (f 9) hh e) (List.mem_map.mpr ⟨e, hm, rfl⟩)).lt
theorem Inj.ext {a : Nat → Nat} {f f' : Nat → Int → Nat} {V V' : St} {sz : Nat} {Q : Nat → Int → Prop} (hI : Inj a f V) (lt : ∀ t i, dom V t i → adr a f t i < sz) (old : ∀ t i, dom V' t i → (dom V t i ∧ adr a f' t i = adr a f t i) ∨ (sz ≤ adr a f' t i ∧ Q t i)) (new : ∀ t i t' i', Q t i → Q t' i' → adr a f' t i = adr a f' t' i' → t = t' ∧ i = i') : Inj a f' V' := by
  intro t i t' i' h1 h2 he
  rcases old t i h1 with ⟨d1, e1⟩ | ⟨b1, c1⟩ <;> rcases old t' i' h2 with ⟨d2, e2⟩ | ⟨b2, c2⟩
  · rw [e1, e2] at he; exact hI t i t' i' d1 d2 he
  · rw [e1] at he; have := lt t i d1; omega
  · rw [e2] at he; have := lt t' i' d2; omega
  · exact new t i t' i' c1 c2 he
theorem Inj.sub {a : Nat → Nat} {f : Nat → Int → Nat} {V V' : St} (hI : Inj a f V) (hs : ∀ t i, dom V' t i → dom V t i) : Inj a f V' := fun t i t' i' h1 h2 he => hI t i t' i' (hs t i h1) (hs t' i' h2) he
theorem filter_comm {α : Type} (p q : α → Bool) (L : List α) : (L.filter p).filter q = (L.filter q).filter p := by
  rw [List.filter_filter, List.filter_filter]
  exact filter_same (fun x _ => Bool.and_comm _ _)
theorem filter_len {α : Type} (p : α → Bool) : ∀ L : List α, L.length = (L.filter p).length + (L.filter (fun x => !p x)).length := by
  intro L
  induction L with
  | nil => rfl
  | cons x L ih =>
    rw [List.filter_cons, List.filter_cons, List.length_cons]
    cases h : p x
    · simp [h]; omega
    · simp [h]; omega
theorem tld_last {n : Int} (h : 0 < n) : (tld n).filter (fun j => decide (j ≠ n - 1)) = tld (n - 1) ∧ (tld n).filter (fun j => decide (j = n - 1)) = [n - 1] := by
  have e : tld n = tld (n - 1) ++ [n - 1] := by
    have := tld_s (n := n - 1) (by omega)
    rw [show n - 1 + 1 = n by omega] at this
    exact this
  rw [e, List.filter_append, List.filter_append]
  refine ⟨?_, ?_⟩
  · rw [List.filter_eq_self.mpr (fun x hx => decide_eq_true (by have := tld_mem.mp hx; omega)), filter_none (L := [n - 1]) (fun x hx => decide_eq_false (by rw [List.mem_singleton.mp hx]; exact fun z => z rfl)), List.append_nil]
  · rw [filter_none (L := tld (n - 1)) (fun x hx => decide_eq_false (by have := tld_mem.mp hx; omega)), List.nil_append, List.filter_eq_self.mpr (fun x hx => decide_eq_true (List.mem_singleton.mp hx))]
theorem drL_mk (V : St) (f9 : Int → Nat) (h n : Int) (N : List Int) : drL (mkL V f9 h N) n = mkL V f9 h (N.filter (fun j => decide (j ≠ n))) := by
  unfold drL mkL
  rw [List.filter_map]
  rfl
/-- the last told is there, once -/
theorem Nok.one {V : St} {h : Int} {N : List Int} (hN : Nok V h N) (h6 : 0 < V 6 h) : N.filter (fun j => decide (j = V 6 h - 1)) = [V 6 h - 1] := by
  have n4 := hN.2.2.2 (V 7 (12 * h + (V 6 h - 1)))
  have a := congrArg (List.filter (fun j => decide (j = V 6 h - 1))) n4
  have b : ∀ M : List Int, (M.filter (fun j => decide (V 7 (12 * h + j) = V 7 (12 * h + (V 6 h - 1))))).filter (fun j => decide (j = V 6 h - 1)) = M.filter (fun j => decide (j = V 6 h - 1)) := fun M => by
    rw [List.filter_filter]
    refine filter_same (fun x _ => ?_)
    by_cases z : x = V 6 h - 1
    · subst z; simp
    · simp [z]
  rw [b, b, (tld_last h6).2] at a
  exact a
theorem Nok.del {V W : St} {h : Int} {N : List Int} (hN : Nok V h N) (h6 : 0 < V 6 h) (e6 : W 6 h = V 6 h - 1) (e7 : W 7 = V 7) : Nok W h (N.filter (fun j => decide (j ≠ V 6 h - 1))) := by
  obtain ⟨n1, n2, n3, n4⟩ := hN
  have one := Nok.one ⟨n1, n2, n3, n4⟩ h6
  refine ⟨?_, fun j hj => ?_, ?_, fun D => ?_⟩
  · have w := filter_len (fun j => decide (j = V 6 h - 1)) N
    rw [one, filter_same (q := fun j => decide (j ≠ V 6 h - 1)) (fun x _ => by simp)] at w
    rw [e6]
    have : ([V 6 h - 1] : List Int).length = 1 := rfl
    omega
  · have w := List.mem_filter.mp hj
    have a := n2 j w.1
    have b : j ≠ V 6 h - 1 := of_decide_eq_true w.2
    rw [e6]; omega
  · rw [e7]; exact n3.sublist List.filter_sublist
  · rw [e6, e7, filter_comm, n4 D, filter_comm, (tld_last h6).1]
theorem sSk_6 (V : St) (h i : Int) : sSk V h 6 i = if i = h then V 6 h - 1 else V 6 i := rfl
theorem Nok.len1 {V : St} {f9 : Int → Nat} {h : Int} {N : List Int} (hN : Nok V h N) (h6 : 0 < V 6 h) : ((drL (mkL V f9 h N) (((mkL V f9 h N).length : Int) - 1)).length : Int) = ((mkL V f9 h N).length : Int) - 1 := by
  rw [mkL_len, hN.1, drL_mk, mkL_len]
  have w := (Nok.del (W := sSk V h) hN h6 (uf_s _ _ _) rfl).1
  rw [sSk_6, if_pos rfl] at w
  exact w
theorem Iv.sk {V : St} (h : Iv V) {o : Int} (h6 : 0 < V 6 o) : Iv (sSk V o) := by
  refine ⟨h.1, fun i a b => ?_, fun i e a b c d => ?_, h.2.2.2.1, h.2.2.2.2.1, h.2.2.2.2.2.1, h.2.2.2.2.2.2⟩
  · have q := h.h a b
    show (0 ≤ V 1 i ∧ V 1 i ≤ 3) ∧ (0 ≤ V 2 i ∧ V 2 i ≤ 2) ∧ (0 ≤ V 3 i ∧ V 3 i ≤ 5) ∧ (1 ≤ V 4 i ∧ V 4 i ≤ 500) ∧ (0 ≤ V 5 i ∧ V 5 i ≤ 100000) ∧ (0 ≤ (if i = o then V 6 o - 1 else V 6 i) ∧ (if i = o then V 6 o - 1 else V 6 i) ≤ 12)
    by_cases z : i = o
    · subst z; rw [if_pos rfl]; omega
    · rw [if_neg z]; omega
  · rw [sSk_6] at d
    refine h.e a b c ?_
    by_cases z : i = o
    · subst z; rw [if_pos rfl] at d; omega
    · rw [if_neg z] at d; exact d
section STEPS3
variable {G : GG} {H H1 : Heap} {a : Nat → Nat} {f : Nat → Int → Nat} {N : Int → List Int} {u : Nat → Int → Int} {ys : Int → Int} {V : St}
theorem RW.sk {hh : Int} {k : Nat} (h : RW G H a f N u ys V) (h0 : 0 ≤ hh) (h1 : hh < V 0 0) (h6 : 0 < V 6 hh) (x : Fr H H1 (fun z => z = f 1 hh ∨ z = f 2 hh) k)
    (hc : Evs G H1 (f 1 hh) (f 2 hh) (drL (mkL V (f 9) hh (N hh)) (((mkL V (f 9) hh (N hh)).length : Int) - 1))) : RW G H1 a f (uf N hh ((N hh).filter (fun j => decide (j ≠ V 6 hh - 1)))) u ys (sSk V hh) := by
  obtain ⟨⟨hV, hX, hT, hE, hL, hBa, hBk⟩, hY, hN, hI⟩ := h
  have hV2 := hV.sk h6
  have o : ∀ t i, dom V t i → ¬ (t = 11 ∧ i = hh) → ¬ (t = 12 ∧ i = hh) → ¬ (adr a f t i = f 1 hh ∨ adr a f t i = f 2 hh) := fun t i hd hn hm z => by
    rcases z with z | z
    · exact hn (hI t i 11 hh hd (dH 11 (by omega) (by omega) h0 h1) z)
    · exact hm (hI t i 12 hh hd (dH 12 (by omega) (by omega) h0 h1) z)
  refine ⟨⟨hV2, hX.f x (o 0 0 (dA 0 (by omega)) (by omega) (by omega)), tnF hT hV2 x (o 1 0 (dA 1 (by omega)) (by omega) (by omega)) (o 2 0 (dA 2 (by omega)) (by omega) (by omega)) (fun i p q => o 10 i (dH 10 (by omega) (by omega) p q) (by omega) (by omega)) rfl rfl rfl rfl rfl rfl, fun i p q => ?_,
    liF hL hV2 x (o 3 0 (dA 3 (by omega)) (by omega) (by omega)) (o 4 0 (dA 4 (by omega)) (by omega) (by omega)) (fun i p q => ⟨o 13 i (dL 13 (by omega) (by omega) p q) (by omega) (by omega), o 14 i (dL 14 (by omega) (by omega) p q) (by omega) (by omega)⟩) (fun i p q => o 15 i (dU p q) (by omega) (by omega)) rfl rfl rfl rfl, hBa.f x (o 5 0 (dA 5 (by omega)) (by omega) (by omega)),
    fun y p q => bkF (hBk y p q) hV2 x (o 16 y (dB 16 (by omega) (by omega) p q) (by omega) (by omega)) (o 17 y (dB 17 (by omega) (by omega) p q) (by omega) (by omega)) (o 18 y (dB 18 (by omega) (by omega) p q) (by omega) (by omega)) rfl rfl rfl (fun _ _ _ => rfl) (fun _ _ _ => rfl)⟩, hY.f x (o 6 0 (dA 6 (by omega)) (by omega) (by omega)), fun i p q => ?_, hI.sub (fun t i hd => ?_)⟩
  · by_cases z : i = hh
    · subst z
      rw [mkL_len, (hN i h0 h1).1, drL_mk] at hc
      show Evs G H1 (f 1 i) (f 2 i) (mkL (sSk V i) (f 9) i (uf N i _ i))
      rw [uf_s]
      exact hc
    · show Evs G H1 (f 1 i) (f 2 i) (mkL (sSk V hh) (f 9) i (uf N hh _ i))
      rw [uf_n _ _ z]
      exact evF (hE i p q) x (o 11 i (dH 11 (by omega) (by omega) p q) (by omega) (by omega)) (o 12 i (dH 12 (by omega) (by omega) p q) (by omega) (by omega)) (ev_out_of (S := fun z => z = f 1 hh ∨ z = f 2 hh) hN (fun i z => o 19 i z (by omega) (by omega)) p q)
  · by_cases z : i = hh
    · subst z
      rw [uf_s]
      exact (hN i h0 h1).del h6 (uf_s _ _ _) rfl
    · rw [uf_n _ _ z]
      have n := hN i p q
      have e6 : sSk V hh 6 i = V 6 i := by rw [sSk_6, if_neg z]
      unfold Nok
      rw [e6]
      exact n
  · rcases hd with z | z | z | z | z | z
    · exact Or.inl z
    · exact Or.inr (Or.inl z)
    · exact Or.inr (Or.inr (Or.inl z))
    · exact Or.inr (Or.inr (Or.inr (Or.inl z)))
    · exact Or.inr (Or.inr (Or.inr (Or.inr (Or.inl z))))
    · obtain ⟨rfl, i', e, z1, z2, rfl⟩ := z
      rw [sSk_6] at z2
      refine dE z1.1 z1.2 z2.1 ?_
      by_cases w : i' = hh
      · subst w; rw [if_pos rfl] at z2; omega
      · rw [if_neg w] at z2; exact z2.2
end STEPS3
/-! a house more -/
def fHo (f : Nat → Int → Nat) (n : Int) (q : Nat) : Nat → Int → Nat := fun t j => if j = n then (if t = 0 then q else if t = 1 then q + 1 else if t = 2 then q + 1 + 1 else f t j) else f t j
theorem fHo_n {f : Nat → Int → Nat} {n : Int} {q t : Nat} (h : 3 ≤ t) : fHo f n q t = f t := by
  funext j
  unfold fHo
  split
  · rw [if_neg (by omega), if_neg (by omega), if_neg (by omega)]
  · rfl
theorem fHo_o {f : Nat → Int → Nat} {n j : Int} {q t : Nat} (h : j ≠ n) : fHo f n q t j = f t j := by unfold fHo; rw [if_neg h]
theorem hoB_o {V : St} {w k t z r i : Int} (h0 : 0 ≤ i) {c : Nat} (hc : c ≠ 16) : hoB V w k t z r i c = hoW V w k t z r c := by
  unfold hoB
  exact lo_keep h0 (fun X j => vu_n _ _ _ hc)
theorem hoB_16 {V : St} {w k t z r i j : Int} (h0 : 0 ≤ i) : hoB V w k t z r i 16 j = if 10 * V 0 0 ≤ j ∧ j < 10 * V 0 0 + i then -4 else V 16 j := by
  unfold hoB
  refine lo_inv (g := fun X y => vu X 16 (10 * V 0 0 + y) (-4)) (fun X i => X 16 j = if 10 * V 0 0 ≤ j ∧ j < 10 * V 0 0 + i then -4 else V 16 j) h0 ?_ (fun X i a b hx => ?_)
  · rw [if_neg (by omega)]; rfl
  · show vu X 16 (10 * V 0 0 + i) (-4) 16 j = _
    rw [vu_s]
    by_cases e : j = 10 * V 0 0 + i
    · rw [e, uf_s, if_pos (by omega)]
    · rw [uf_n _ _ e, hx]
      by_cases y : 10 * V 0 0 ≤ j ∧ j < 10 * V 0 0 + i
      · rw [if_pos y, if_pos (by omega)]
      · rw [if_neg y, if_neg (by omega)]
theorem sHo_00 (V : St) (w k t z r : Int) : sHo V w k t z r 0 0 = V 0 0 + 1 := by
  show vu (hoB V w k t z r 10) 0 0 (V 0 0 + 1) 0 0 = _
  rw [vu_s, uf_s]
theorem sHo_01 (V : St) (w k t z r : Int) : sHo V w k t z r 0 1 = V 0 1 := by
  show vu (hoB V w k t z r 10) 0 0 (V 0 0 + 1) 0 1 = _
  rw [vu_s, uf_n _ _ (by omega), hoB_o (by omega) (by omega)]; rfl
theorem sHo_c (V : St) (w k t z r : Int) {c : Nat} (h0 : c ≠ 0) (h1 : c ≠ 16) : sHo V w k t z r c = hoW V w k t z r c := by
  show vu (hoB V w k t z r 10) 0 0 (V 0 0 + 1) c = _
  rw [vu_n _ _ _ h0, hoB_o (by omega) h1]
theorem sHo_16 (V : St) (w k t z r j : Int) : sHo V w k t z r 16 j = if 10 * V 0 0 ≤ j ∧ j < 10 * V 0 0 + 10 then -4 else V 16 j := by
  show vu (hoB V w k t z r 10) 0 0 (V 0 0 + 1) 16 j = _
  rw [vu_n _ _ _ (by omega), hoB_16 (by omega)]
theorem sHo_old (V : St) (w k t z r : Int) {c : Nat} (h0 : 6 ≤ c) (h1 : c ≠ 16) : sHo V w k t z r c = V c := by
  rw [sHo_c _ _ _ _ _ _ (by omega) h1]
  unfold hoW
  rw [vu_n _ _ _ (by omega), vu_n _ _ _ (by omega), vu_n _ _ _ (by omega), vu_n _ _ _ (by omega), vu_n _ _ _ (by omega)]
theorem sHo_h (V : St) (w k t z r : Int) {c : Nat} {i : Int} (h0 : 1 ≤ c) (h1 : c ≤ 5) (hi : i ≠ V 0 0) : sHo V w k t z r c i = V c i := by
  rw [sHo_c _ _ _ _ _ _ (by omega) (by omega)]
  have : c = 1 ∨ c = 2 ∨ c = 3 ∨ c = 4 ∨ c = 5 := by omega
  rcases this with rfl | rfl | rfl | rfl | rfl <;> exact uf_n _ _ hi
theorem sHo_v (V : St) (w k t z r : Int) : sHo V w k t z r 1 (V 0 0) = w ∧ sHo V w k t z r 2 (V 0 0) = k ∧ sHo V w k t z r 3 (V 0 0) = t ∧ sHo V w k t z r 4 (V 0 0) = z ∧ sHo V w k t z r 5 (V 0 0) = r := by
  rw [sHo_c _ _ _ _ _ _ (by omega) (by omega), sHo_c _ _ _ _ _ _ (by omega) (by omega), sHo_c _ _ _ _ _ _ (by omega) (by omega), sHo_c _ _ _ _ _ _ (by omega) (by omega), sHo_c _ _ _ _ _ _ (by omega) (by omega)]
  exact ⟨uf_s _ _ _, uf_s _ _ _, uf_s _ _ _, uf_s _ _ _, uf_s _ _ _⟩
theorem Iv.ho {V : St} (h : Iv V) {w k t z r : Int} (hn : V 0 0 ≠ 40) (hz : V 6 (V 0 0) = 0) (hw : 0 ≤ w ∧ w ≤ 3) (hk : 0 ≤ k ∧ k ≤ 2) (ht : 0 ≤ t ∧ t ≤ 5) (hs : 1 ≤ z ∧ z ≤ 500) (hr : 0 ≤ r ∧ r ≤ 100000) : Iv (sHo V w k t z r) := by
  have n := h.n
  have l := h.l
  unfold Iv
  rw [sHo_00, sHo_01, sHo_old _ _ _ _ _ _ (c := 6) (by omega) (by omega), sHo_old _ _ _ _ _ _ (c := 7) (by omega) (by omega), sHo_old _ _ _ _ _ _ (c := 8) (by omega) (by omega), sHo_old _ _ _ _ _ _ (c := 9) (by omega) (by omega), sHo_old _ _ _ _ _ _ (c := 10) (by omega) (by omega), sHo_old _ _ _ _ _ _ (c := 11) (by omega) (by omega), sHo_old _ _ _ _ _ _ (c := 12) (by omega) (by omega), sHo_old _ _ _ _ _ _ (c := 13) (by omega) (by omega), sHo_old _ _ _ _ _ _ (c := 14) (by omega) (by omega), sHo_old _ _ _ _ _ _ (c := 15) (by omega) (by omega), sHo_old _ _ _ _ _ _ (c := 17) (by omega) (by omega)]
  refine ⟨⟨by omega, l⟩, fun i a b => ?_, fun i e a b c d => ?_, h.2.2.2.1, h.2.2.2.2.1, h.2.2.2.2.2.1, fun i y a b c d => ?_⟩
  · by_cases e : i = V 0 0
    · have v := sHo_v V w k t z r
      rw [e, v.1, v.2.1, v.2.2.1, v.2.2.2.1, v.2.2.2.2, hz]
      omega
    · rw [sHo_h _ _ _ _ _ _ (c := 1) (by omega) (by omega) e, sHo_h _ _ _ _ _ _ (c := 2) (by omega) (by omega) e, sHo_h _ _ _ _ _ _ (c := 3) (by omega) (by omega) e, sHo_h _ _ _ _ _ _ (c := 4) (by omega) (by omega) e, sHo_h _ _ _ _ _ _ (c := 5) (by omega) (by omega) e]
      exact h.h a (by omega)
  · by_cases q : i = V 0 0
    · rw [q, hz] at d; omega
    · exact h.e a (by omega) c d
  · have w := h.b a b c d
    rw [sHo_16]
    split
    · exact ⟨Or.inl rfl, w.2⟩
    · exact w
section STEPS4
variable {G : GG} {H H1 : Heap} {a : Nat → Nat} {f : Nat → Int → Nat} {N : Int → List Int} {u : Nat → Int → Int} {ys : Int → Int} {V : St}
theorem RW.ho {w k t z r : Int} {q : Nat} {kk : Nat} (h : RW G H a f N u ys V) (hn : V 0 0 ≠ 40) (hz : V 6 (V 0 0) = 0) (hw : 0 ≤ w ∧ w ≤ 3) (hk : 0 ≤ k ∧ k ≤ 2) (ht : 0 ≤ t ∧ t ≤ 5) (hs : 1 ≤ z ∧ z ≤ 500) (hr : 0 ≤ r ∧ r ≤ 100000) (hq : q = H.size) (x : Fr H H1 (fun z => z = a 1 ∨ z = a 2) kk)
    (c1 : At G H1 (a 1) (eO 5 [.ref (a 2), .int (J (V 0 0 + 1))])) (c2 : At G H1 (a 2) (eQ G 4 40 (uf (qN (V 0 0) (f 0)) (V 0 0) (some q)))) (c3 : At G H1 q (eO 2 [.int (J (V 0 0)), .int (J w), .int (J k), .int (J t), .int (J z), .ref (q + 1), .int (J r)])) (c4 : At G H1 (q + 1) (eO 1 [.ref (q + 1 + 1), .int (J 0)])) (c5 : At G H1 (q + 1 + 1) (eQ G 3 12 (fun _ => none))) :
    RW G H1 a (fHo f (V 0 0) q) (uf N (V 0 0) []) u ys (sHo V w k t z r) := by
  have lt := h.lt
  obtain ⟨⟨hV, hX, hT, hE, hL, hBa, hBk⟩, hY, hN, hI⟩ := h
  have hV2 := hV.ho hn hz hw hk ht hs hr
  have n := hV.n
  have o : ∀ t i, dom V t i → t ≠ 1 → t ≠ 2 → ¬ (adr a f t i = a 1 ∨ adr a f t i = a 2) := fun t i hd hn hm z => by
    rcases z with z | z
    · exact hn (hI t i 1 0 hd (dA 1 (by omega)) z).1
    · exact hm (hI t i 2 0 hd (dA 2 (by omega)) z).1
  have g3 := fHo_n (f := f) (n := V 0 0) (q := q) (t := 3) (by omega)
  have g4 := fHo_n (f := f) (n := V 0 0) (q := q) (t := 4) (by omega)
  have g5 := fHo_n (f := f) (n := V 0 0) (q := q) (t := 5) (by omega)
  have g6 := fHo_n (f := f) (n := V 0 0) (q := q) (t := 6) (by omega)
  have g7 := fHo_n (f := f) (n := V 0 0) (q := q) (t := 7) (by omega)
  have g8 := fHo_n (f := f) (n := V 0 0) (q := q) (t := 8) (by omega)
  have g9 := fHo_n (f := f) (n := V 0 0) (q := q) (t := 9) (by omega)
  have s0 : ∀ {t : Nat} {j : Int}, j ≠ V 0 0 → fHo f (V 0 0) q t j = f t j := fun h => fHo_o h
  have v := sHo_v V w k t z r
  refine ⟨⟨hV2, hX.f x (o 0 0 (dA 0 (by omega)) (by omega) (by omega)), ⟨hV2, by rw [sHo_00]; exact c1, ?_, fun i p pq => ?_⟩, fun i p pq => ?_, ?_, ?_, ?_⟩, hY.f x (o 6 0 (dA 6 (by omega)) (by omega) (by omega)), fun i p pq => ?_, ?_⟩
  · rw [sHo_00]
    refine eQ_congr (fun j a b => ?_) c2
    unfold uf qN
    by_cases e : j = V 0 0
    · rw [if_pos e, if_pos (by omega)]; unfold fHo; rw [if_pos e, if_pos rfl]
    · rw [if_neg e]
      by_cases y : 0 ≤ j ∧ j < V 0 0
      · rw [if_pos y, if_pos (by omega), s0 e]
      · rw [if_neg y, if_neg (by omega)]
  · rw [sHo_00] at pq
    by_cases e : i = V 0 0
    · subst e
      unfold eHo
      rw [v.1, v.2.1, v.2.2.1, v.2.2.2.1, v.2.2.2.2]
      unfold fHo
      rw [if_pos rfl, if_pos rfl, if_pos rfl, if_neg (by omega), if_pos rfl]
      exact c3
    · have w := (hT.2.2.2 i p (by omega)).f x (o 10 i (dH 10 (by omega) (by omega) p (by omega)) (by omega) (by omega))
      unfold eHo at w ⊢
      rw [sHo_h _ _ _ _ _ _ (c := 1) (by omega) (by omega) e, sHo_h _ _ _ _ _ _ (c := 2) (by omega) (by omega) e, sHo_h _ _ _ _ _ _ (c := 3) (by omega) (by omega) e, sHo_h _ _ _ _ _ _ (c := 4) (by omega) (by omega) e, sHo_h _ _ _ _ _ _ (c := 5) (by omega) (by omega) e, s0 e, s0 e]
      exact w
  · rw [sHo_00] at pq
    show Evs G H1 (fHo f (V 0 0) q 1 i) (fHo f (V 0 0) q 2 i) (mkL (sHo V w k t z r) (fHo f (V 0 0) q 9) i (uf N (V 0 0) [] i))
    rw [g9]
    by_cases e : i = V 0 0
    · subst e
      rw [uf_s]
      unfold fHo
      rw [if_pos rfl, if_neg (by omega), if_pos rfl, if_pos rfl, if_neg (by omega), if_neg (by omega), if_pos rfl]
      have nn : ∀ (P : EvT → Prop) (e : EvT), e ∈ ([] : List EvT) → P e := fun P e he => absurd he List.not_mem_nil
      exact ⟨c4, eQ_congr (fun j a b => by unfold qL; rw [if_pos a]; rfl) c5, (by show 0 ≤ 12; omega), nn _, nn _⟩
    · rw [uf_n _ _ e, s0 e, s0 e, mkL_congr (V := V) (f9 := f 9) (fun j hj => by unfold mkE; rw [sHo_old _ _ _ _ _ _ (c := 7) (by omega) (by omega), sHo_old _ _ _ _ _ _ (c := 8) (by omega) (by omega), sHo_old _ _ _ _ _ _ (c := 9) (by omega) (by omega)])]
      exact evF (hE i p (by omega)) x (o 11 i (dH 11 (by omega) (by omega) p (by omega)) (by omega) (by omega)) (o 12 i (dH 12 (by omega) (by omega) p (by omega)) (by omega) (by omega)) (ev_out_of (S := fun z => z = a 1 ∨ z = a 2) hN (fun i z => o 19 i z (by omega) (by omega)) p (by omega))
  · rw [g3, g4, g5]
    exact liF hL hV2 x (o 3 0 (dA 3 (by omega)) (by omega) (by omega)) (o 4 0 (dA 4 (by omega)) (by omega) (by omega)) (fun i p q => ⟨o 13 i (dL 13 (by omega) (by omega) p q) (by omega) (by omega), o 14 i (dL 14 (by omega) (by omega) p q) (by omega) (by omega)⟩) (fun i p q => o 15 i (dU p q) (by omega) (by omega)) (sHo_01 _ _ _ _ _ _) (sHo_old _ _ _ _ _ _ (by omega) (by omega)) (sHo_old _ _ _ _ _ _ (by omega) (by omega)) (sHo_old _ _ _ _ _ _ (by omega) (by omega))
  · rw [g6]; exact hBa.f x (o 5 0 (dA 5 (by omega)) (by omega) (by omega))
  · rw [g6, g7, g8]
    refine fun y p q => bkF (hBk y p q) hV2 x (o 16 y (dB 16 (by omega) (by omega) p q) (by omega) (by omega)) (o 17 y (dB 17 (by omega) (by omega) p q) (by omega) (by omega)) (o 18 y (dB 18 (by omega) (by omega) p q) (by omega) (by omega)) (by rw [sHo_old _ _ _ _ _ _ (by omega) (by omega)]) (by rw [sHo_old _ _ _ _ _ _ (by omega) (by omega)]) (by rw [sHo_old _ _ _ _ _ _ (by omega) (by omega)]) (fun j c d => ?_) (fun j c d => ?_)
    · unfold blF
      rw [sHo_00, sHo_16]
      by_cases e : j = V 0 0
      · rw [if_pos (by omega), if_pos (by omega), if_neg (by omega)]
      · by_cases y1 : j < V 0 0
        · rw [if_pos (by omega), if_neg (by omega), if_pos y1]
        · rw [if_neg (by omega), if_neg y1]
    · unfold pdF
      rw [sHo_old _ _ _ _ _ _ (by omega) (by omega)]
  · rw [sHo_00] at pq
    unfold Nok
    rw [sHo_old _ _ _ _ _ _ (c := 6) (by omega) (by omega), sHo_old _ _ _ _ _ _ (c := 7) (by omega) (by omega)]
    by_cases e : i = V 0 0
    · rw [e, uf_s, hz]
      exact ⟨rfl, fun j hj => (by cases hj), List.Pairwise.nil, fun d => rfl⟩
    · rw [uf_n _ _ e]
      exact hN i p (by omega)
  · refine hI.ext (sz := q) (Q := fun t i => i = V 0 0 ∧ 10 ≤ t ∧ t ≤ 12) (by rw [hq]; exact lt) (fun t i hd => ?_) (fun t i t' i' h1 h2 he => ?_)
    · have ne : ∀ t i, (10 ≤ t ∧ t ≤ 12 → i ≠ V 0 0) → adr a (fHo f (V 0 0) q) t i = adr a f t i := fun t i ht => by
        unfold adr
        by_cases y : t < 10
        · rw [if_pos y, if_pos y]
        · rw [if_neg y, if_neg y]
          by_cases y2 : t ≤ 12
          · exact s0 (ht ⟨by omega, y2⟩)
          · rw [fHo_n (by omega)]
      rcases hd with y | y | y | y | y | y
      · exact Or.inl ⟨Or.inl y, ne t i (by omega)⟩
      · rw [sHo_00] at y
        by_cases e : i = V 0 0
        · refine Or.inr ⟨?_, e, y.1, y.2.1⟩
          have : t = 10 ∨ t = 11 ∨ t = 12 := by omega
          unfold adr fHo
          rw [if_neg (by omega), if_pos e]
          rcases this with rfl | rfl | rfl
          · exact Nat.le_refl _
          · show q ≤ q + 1; omega
          · show q ≤ q + 1 + 1; omega
        · exact Or.inl ⟨Or.inr (Or.inl ⟨y.1, y.2.1, y.2.2.1, by omega⟩), ne t i (fun _ => e)⟩
      · rw [sHo_01] at y
        exact Or.inl ⟨Or.inr (Or.inr (Or.inl y)), ne t i (by omega)⟩
      · rw [sHo_01] at y
        exact Or.inl ⟨Or.inr (Or.inr (Or.inr (Or.inl y))), ne t i (by omega)⟩
      · exact Or.inl ⟨Or.inr (Or.inr (Or.inr (Or.inr (Or.inl y)))), ne t i (by omega)⟩
      · obtain ⟨rfl, i', e, z1, z2, rfl⟩ := y
        rw [sHo_old _ _ _ _ _ _ (c := 6) (by omega) (by omega)] at z2
        rw [sHo_00] at z1
        refine Or.inl ⟨dE z1.1 ?_ z2.1 z2.2, ne _ _ (by omega)⟩
        by_cases y : i' = V 0 0
        · rw [y, hz] at z2; omega
        · omega
    · obtain ⟨e1, t1, t2⟩ := h1
      obtain ⟨e2, t3, t4⟩ := h2
      refine ⟨?_, by omega⟩
      unfold adr fHo at he
      rw [if_neg (show ¬ t < 10 by omega), if_pos e1, if_neg (show ¬ t' < 10 by omega), if_pos e2] at he
      have a1 : t = 10 ∨ t = 11 ∨ t = 12 := by omega
      have a2 : t' = 10 ∨ t' = 11 ∨ t' = 12 := by omega
      rcases a1 with rfl | rfl | rfl <;> rcases a2 with rfl | rfl | rfl <;> first | rfl | (exfalso; have hx : q = q + 1 := he; omega) | (exfalso; have hx : q = q + 1 + 1 := he; omega) | (exfalso; have hx : q + 1 = q := he; omega) | (exfalso; have hx : q + 1 = q + 1 + 1 := he; omega) | (exfalso; have hx : q + 1 + 1 = q := he; omega) | (exfalso; have hx : q + 1 + 1 = q + 1 := he; omega)
end STEPS4
