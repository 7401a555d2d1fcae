theorem ap_sw {α : Type} {Q F : Prop} (q : Q) (x y : α) : @ite α (Q ∧ ¬ F) (Classical.propDecidable _) x y = @ite α F (Classical.propDecidable _) y x := by
  by_cases f : F
  · rw [if_neg (fun z => z.2 f), if_pos f]
  · rw [if_pos ⟨q, f⟩, if_neg f]
theorem ap1Q {V : St} {h lk o : Int} (hl : lk = 0) : apQ V h lk o ↔ o = h := by
  unfold apQ
  constructor
  · rintro (z | z)
    · exact z
    · exact absurd hl z.1
  · exact Or.inl
theorem ap1F {V : St} {h lk : Int} (hl : lk = 0) (h0 : 0 ≤ h) (h1 : h < V 0 0) : apF V h lk ↔ V 6 h = 12 := by
  constructor
  · rintro ⟨o, a, b, c, e⟩
    rw [(ap1Q hl).mp c] at e; exact e
  · exact fun z => ⟨h, h0, h1, (ap1Q hl).mpr rfl, z⟩
theorem ap1N {V : St} {h lk : Int} (hl : lk = 0) (h0 : 0 ≤ h) (h1 : h < V 0 0) : apN V h lk (V 0 0) = 1 := by
  have w : apN V h lk (V 0 0) = if h < V 0 0 then 1 else 0 := by
    refine lo_inv (g := fun x o => if apQ V h lk o then x + 1 else x) (fun x i => x = if h < i then 1 else 0) (by omega) (by rw [if_neg (by omega)]) (fun x j a b hx => ?_)
    show (if apQ V h lk j then x + 1 else x) = _
    rw [hx]
    by_cases z : j = h
    · rw [if_pos ((ap1Q hl).mpr z), if_neg (by omega), if_pos (by omega)]; rfl
    · rw [if_neg (fun y => z ((ap1Q hl).mp y))]
      by_cases y : h < j
      · rw [if_pos y, if_pos (by omega)]
      · rw [if_neg y, if_neg (by omega)]
  rw [w, if_pos h1]
theorem ap1W {V : St} {h d v lk : Int} (hl : lk = 0) (h0 : 0 ≤ h) (h1 : h < V 0 0) : apW V h d v lk (V 0 0) = sAd V h d 2 v := by
  have w : apW V h d v lk (V 0 0) = if h < V 0 0 then sAd V h d 2 v else V := by
    refine lo_inv (g := fun X o => if apQ V h lk o then sAd X o d 2 v else X) (fun X i => X = if h < i then sAd V h d 2 v else V) (by omega) (by rw [if_neg (by omega)]) (fun x j a b hx => ?_)
    show (if apQ V h lk j then sAd x j d 2 v else x) = _
    rw [hx]
    by_cases z : j = h
    · rw [if_pos ((ap1Q hl).mpr z), if_neg (by omega), if_pos (by omega), z]
    · rw [if_neg (fun y => z ((ap1Q hl).mp y))]
      by_cases y : h < j
      · rw [if_pos y, if_pos (by omega)]
      · rw [if_neg y, if_neg (by omega)]
  rw [w, if_pos h1]
theorem ap1P {V : St} {h d v lk : Int} (hl : lk = 0) (q : (0 ≤ h ∧ h < V 0 0) ∧ (0 ≤ d ∧ d < 3650) ∧ 1 ≤ v ∧ v ≤ 900) : @ite St (((0 ≤ h ∧ h < V 0 0) ∧ (0 ≤ d ∧ d < 3650) ∧ 1 ≤ v ∧ v ≤ 900) ∧ ¬ apF V h lk) (Classical.propDecidable _) (apW V h d v lk (V 0 0)) V = if V 6 h = 12 then V else sAd V h d 2 v := by
  rw [ap_sw q]
  by_cases z : V 6 h = 12
  · rw [if_pos z, if_pos ((ap1F hl q.1.1 q.1.2).mpr z)]
  · rw [if_neg z, if_neg (fun y => z ((ap1F hl q.1.1 q.1.2).mp y)), ap1W hl q.1.1 q.1.2]
theorem ap1V {V : St} {h d v lk : Int} (hl : lk = 0) (q : (0 ≤ h ∧ h < V 0 0) ∧ (0 ≤ d ∧ d < 3650) ∧ 1 ≤ v ∧ v ≤ 900) : (if V 6 h = 12 then -3 else 1) = apR V h d v lk := by
  unfold apR
  rw [if_pos q]
  by_cases z : V 6 h = 12
  · rw [if_pos z, if_pos ((ap1F hl q.1.1 q.1.2).mpr z)]
  · rw [if_neg z, if_neg (fun y => z ((ap1F hl q.1.1 q.1.2).mp y)), ap1N hl q.1.1 q.1.2]
