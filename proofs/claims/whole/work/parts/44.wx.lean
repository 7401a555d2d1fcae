/-! what a writing call of the class leaves -/
def WX (G : GG) (A : Nat → Prop) (a : Nat → Nat) (V' : St) (H H1 : Heap) : Prop := (H.size ≤ H1.size ∧ ∀ x, x < H.size → ¬ A x → H1[x]? = H[x]?) ∧ ∃ (f' : Nat → Int → Nat) (N' : Int → List Int) (u' : Nat → Int → Int) (ys' : Int → Int), RW G H1 a f' N' u' ys' V' ∧ ∀ t i, dom V' t i → A (adr a f' t i)
theorem WX.of {G : GG} {A : Nat → Prop} {a : Nat → Nat} {V' : St} {H H1 : Heap} {k : Nat} {f' : Nat → Int → Nat} {N' : Int → List Int} {u' : Nat → Int → Int} {ys' : Int → Int} (x : Fr H H1 A k) (h : RW G H1 a f' N' u' ys' V') (hA : ∀ t i, dom V' t i → A (adr a f' t i)) : WX G A a V' H H1 := ⟨⟨by have := x.1; omega, x.2⟩, f', N', u', ys', h, hA⟩
theorem WX.eq {G : GG} {A : Nat → Prop} {a : Nat → Nat} {V' V2 : St} {H H1 : Heap} (h : WX G A a V' H H1) (e : V2 = V') : WX G A a V2 H H1 := e ▸ h
/-- all that's new lies behind -/
theorem domAd {A : Nat → Prop} {a : Nat → Nat} {f : Nat → Int → Nat} {V : St} {hh d k v : Int} {q : Nat} (hA : ∀ t i, dom V t i → A (adr a f t i)) (hq : A q) : ∀ t i, dom (sAd V hh d k v) t i → A (adr a (fEv f (12 * hh + V 6 hh) q) t i) := by
  intro t i hd
  have ne : ∀ t, t ≠ 19 → adr a (fEv f (12 * hh + V 6 hh) q) t i = adr a f t i := fun t ht => by
    unfold adr
    by_cases w : t < 10
    · rw [if_pos w, if_pos w]
    · rw [if_neg w, if_neg w, fEv_n (by omega)]
  rcases hd with z | z | z | z | z | z
  · rw [ne t (by omega)]; exact hA t i (Or.inl z)
  · rw [ne t (by omega)]; exact hA t i (Or.inr (Or.inl z))
  · rw [ne t (by omega)]; exact hA t i (Or.inr (Or.inr (Or.inl z)))
  · rw [ne t (by omega)]; exact hA t i (Or.inr (Or.inr (Or.inr (Or.inl z))))
  · rw [ne t (by omega)]; exact hA t i (Or.inr (Or.inr (Or.inr (Or.inr (Or.inl z)))))
  · obtain ⟨rfl, i', e, z1, z2, rfl⟩ := z
    have z1' : 0 ≤ i' ∧ i' < V 0 0 := z1
    rw [sAd_6] at z2
    show A (fEv f (12 * hh + V 6 hh) q 9 (12 * i' + e))
    unfold fEv
    by_cases w : 12 * i' + e = 12 * hh + V 6 hh
    · rw [if_pos ⟨rfl, w⟩]; exact hq
    · rw [if_neg (fun y => w y.2)]
      refine hA 19 _ (dE z1'.1 z1'.2 z2.1 ?_)
      by_cases y : i' = hh
      · subst y
        rw [if_pos rfl] at z2
        omega
      · rw [if_neg y] at z2
        exact z2.2
theorem domSk {A : Nat → Prop} {a : Nat → Nat} {f : Nat → Int → Nat} {V : St} {hh : Int} (hA : ∀ t i, dom V t i → A (adr a f t i)) : ∀ t i, dom (sSk V hh) t i → A (adr a f t i) := by
  intro t i hd
  refine hA t i ?_
  rcases hd with z | z | z | z | z | z
  · exact Or.inl z
  · exact Or.inr (Or.inl z)
  · exact Or.inr (Or.inr (Or.inl z))
  · exact Or.inr (Or.inr (Or.inr (Or.inl z)))
  · exact Or.inr (Or.inr (Or.inr (Or.inr (Or.inl z))))
  · obtain ⟨rfl, i', e, z1, z2, rfl⟩ := z
    rw [sSk_6] at z2
    refine dE z1.1 z1.2 z2.1 ?_
    by_cases w : i' = hh
    · subst w; rw [if_pos rfl] at z2; omega
    · rw [if_neg w] at z2; exact z2.2
theorem domHo {A : Nat → Prop} {a : Nat → Nat} {f : Nat → Int → Nat} {V : St} {w k t z r : Int} {q : Nat} (hz : V 6 (V 0 0) = 0) (hA : ∀ t i, dom V t i → A (adr a f t i)) (hq : ∀ x, q ≤ x → A x) : ∀ t' i, dom (sHo V w k t z r) t' i → A (adr a (fHo f (V 0 0) q) t' i) := by
  intro t' i hd
  have ne : ∀ t i, (10 ≤ t ∧ t ≤ 12 → i ≠ V 0 0) → adr a (fHo f (V 0 0) q) t i = adr a f t i := fun t i ht => by
    unfold adr
    by_cases y : t < 10
    · rw [if_pos y, if_pos y]
    · rw [if_neg y, if_neg y]
      by_cases y2 : t ≤ 12
      · exact fHo_o (ht ⟨by omega, y2⟩)
      · rw [fHo_n (by omega)]
  rcases hd with y | y | y | y | y | y
  · rw [ne _ _ (by omega)]; exact hA _ _ (Or.inl y)
  · rw [sHo_00] at y
    by_cases e : i = V 0 0
    · refine hq _ ?_
      have : t' = 10 ∨ t' = 11 ∨ t' = 12 := by omega
      unfold adr fHo
      rw [if_neg (by omega), if_pos e]
      rcases this with rfl | rfl | rfl
      · exact Nat.le_refl _
      · show q ≤ q + 1; omega
      · show q ≤ q + 1 + 1; omega
    · rw [ne _ _ (fun _ => e)]; exact hA _ _ (Or.inr (Or.inl ⟨y.1, y.2.1, y.2.2.1, by omega⟩))
  · rw [sHo_01] at y
    rw [ne _ _ (by omega)]; exact hA _ _ (Or.inr (Or.inr (Or.inl y)))
  · rw [sHo_01] at y
    rw [ne _ _ (by omega)]; exact hA _ _ (Or.inr (Or.inr (Or.inr (Or.inl y))))
  · rw [ne _ _ (by omega)]; exact hA _ _ (Or.inr (Or.inr (Or.inr (Or.inr (Or.inl y)))))
  · obtain ⟨rfl, i', e, z1, z2, rfl⟩ := y
    rw [sHo_old _ _ _ _ _ _ (c := 6) (by omega) (by omega)] at z2
    rw [sHo_00] at z1
    rw [ne _ _ (by omega)]
    refine hA _ _ (dE z1.1 ?_ z2.1 z2.2)
    by_cases y : i' = V 0 0
    · rw [y, hz] at z2; omega
    · omega
theorem domLi {A : Nat → Prop} {a : Nat → Nat} {f : Nat → Int → Nat} {V : St} {d : Int} {q : Nat} (hA : ∀ t i, dom V t i → A (adr a f t i)) (hq : ∀ x, q ≤ x → A x) : ∀ t i, dom (sLi V d) t i → A (adr a (fLi f (V 0 1) q) t i) := by
  intro t i hd
  have ne : ∀ t i, (t < 13 ∨ 15 < t) → adr a (fLi f (V 0 1) q) t i = adr a f t i := fun t i ht => by
    unfold adr
    by_cases y : t < 10
    · rw [if_pos y, if_pos y]
    · rw [if_neg y, if_neg y, fLi_n (by omega)]
  rcases hd with y | y | y | y | y | y
  · rw [ne _ _ (by omega)]; exact hA _ _ (Or.inl y)
  · rw [sLi_00] at y
    rw [ne _ _ (by omega)]; exact hA _ _ (Or.inr (Or.inl y))
  · rw [sLi_01] at y
    have : t = 13 ∨ t = 14 := by omega
    by_cases e : i = V 0 1
    · refine hq _ ?_
      rcases this with rfl | rfl
      · show q ≤ fLi f (V 0 1) q 3 i
        rw [fLi_3, if_pos e]; exact Nat.le_refl _
      · show q ≤ fLi f (V 0 1) q 4 i
        rw [fLi_4, if_pos e]; omega
    · have w := hA t i (Or.inr (Or.inr (Or.inl ⟨y.1, y.2.1, y.2.2.1, by omega⟩)))
      rcases this with rfl | rfl
      · show A (fLi f (V 0 1) q 3 i)
        rw [fLi_3, if_neg e]; exact w
      · show A (fLi f (V 0 1) q 4 i)
        rw [fLi_4, if_neg e]; exact w
  · rw [sLi_01] at y
    obtain ⟨rfl, y1, y2⟩ := y
    show A (fLi f (V 0 1) q 5 i)
    rw [fLi_5]
    by_cases e : 18 * V 0 1 ≤ i ∧ i < 18 * V 0 1 + 18
    · rw [if_pos e]; exact hq _ (by omega)
    · rw [if_neg e]; exact hA 15 i (dU y1 (by omega))
  · rw [ne _ _ (by omega)]; exact hA _ _ (Or.inr (Or.inr (Or.inr (Or.inr (Or.inl y)))))
  · obtain ⟨rfl, i', e, z1, z2, rfl⟩ := y
    rw [sLi_c V d (c := 6) (by omega) (by omega)] at z2
    rw [sLi_00] at z1
    rw [ne _ _ (by omega)]
    exact hA _ _ (dE z1.1 z1.2 z2.1 z2.2)
theorem domSt {A : Nat → Prop} {a : Nat → Nat} {f : Nat → Int → Nat} {V : St} (hV : Iv V) {y nd : Int} (hA : ∀ t i, dom V t i → A (adr a f t i)) : ∀ t i, dom (sSt V y nd) t i → A (adr a f t i) := by
  intro t i hd
  refine hA t i ?_
  unfold dom at hd ⊢
  rw [sSt_c hV y nd (c := 0) (by omega), sSt_c hV y nd (c := 6) (by omega)] at hd
  exact hd
