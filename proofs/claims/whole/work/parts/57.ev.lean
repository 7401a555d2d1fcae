/-! the events of a house, by day, against the rows of the reference -/
theorem lo_tld {α : Type} {g : α → Int → α} {a : α} {n : Int} (hn : 0 ≤ n) : lo g a n = (tld n).foldl g a := by
  refine lo_inv (g := g) (fun x k => x = (tld k).foldl g a) hn rfl (fun x k h1 h2 hx => ?_)
  rw [tld_s h1, List.foldl_append, ← hx]
  rfl
theorem tld_pw (n : Int) : (tld n).Pairwise (· < ·) := by
  unfold tld
  rw [List.pairwise_map]
  exact List.Pairwise.imp (fun h => by omega) (List.pairwise_lt_range)
theorem foldl_if {α β : Type} (p : β → Bool) (g : α → β → α) : ∀ (L : List β) (x : α), (L.filter p).foldl g x = L.foldl (fun x e => if p e = true then g x e else x) x := by
  intro L
  induction L with
  | nil => intro x; rfl
  | cons e L ih =>
    intro x
    rw [List.foldl_cons, ← ih]
    by_cases c : p e = true
    · rw [List.filter_cons_of_pos c, List.foldl_cons, if_pos c]
    · rw [List.filter_cons_of_neg c, if_neg c]
section NOKS
variable {V : St} {h : Int} {N : List Int}
theorem Nok.mem (hN : Nok V h N) {j : Int} (h0 : 0 ≤ j) (h1 : j < V 6 h) : j ∈ N := by
  have q : j ∈ (tld (V 6 h)).filter (fun i => decide (V 7 (12 * h + i) = V 7 (12 * h + j))) := List.mem_filter.mpr ⟨tld_mem.mpr ⟨h0, h1⟩, by simp⟩
  rw [← hN.2.2.2] at q
  exact (List.mem_filter.mp q).1
/-- the order in the row: by day, then as told -/
def bef (V : St) (h a b : Int) : Prop := V 7 (12 * h + a) < V 7 (12 * h + b) ∨ (V 7 (12 * h + a) = V 7 (12 * h + b) ∧ a < b)
theorem Nok.pw (hN : Nok V h N) : N.Pairwise (bef V h) := by
  rw [List.pairwise_iff_forall_sublist]
  intro a b hs
  have s1 := List.pairwise_iff_forall_sublist.mp hN.2.2.1 hs
  by_cases c : V 7 (12 * h + a) = V 7 (12 * h + b)
  · refine Or.inr ⟨c, ?_⟩
    have f := hs.filter (fun i => decide (V 7 (12 * h + i) = V 7 (12 * h + b)))
    rw [hN.2.2.2, List.filter_cons_of_pos (by simp [c]), List.filter_cons_of_pos (by simp), List.filter_nil] at f
    exact List.pairwise_iff_forall_sublist.mp (tld_pw (V 6 h)) (f.trans List.filter_sublist)
  · exact Or.inl (by omega)
theorem last_spec {β : Type} {p : β → Prop} {dp : ∀ e, Decidable (p e)} {R : β → β → Prop} : ∀ (L : List β) (x : Option β), L.Pairwise R → (∀ e, x = some e → ∀ e' ∈ L, R e e') → ∀ r, L.foldl (fun x e => @ite _ (p e) (dp e) (some e) x) x = r → (r = none → x = none ∧ ∀ e ∈ L, ¬ p e) ∧ ∀ e, r = some e → ((e ∈ L ∧ p e) ∨ x = some e) ∧ ∀ e' ∈ L, p e' → e' = e ∨ R e' e := by
  intro L
  induction L with
  | nil => intro x _ _ r hr; subst hr; exact ⟨fun q => ⟨q, fun e he => by cases he⟩, fun e he => ⟨Or.inr he, fun e' he' => by cases he'⟩⟩
  | cons a L ih =>
    intro x hp hx r hr
    rw [List.foldl_cons] at hr
    have hp2 := List.pairwise_cons.mp hp
    by_cases c : p a
    · rw [if_pos c] at hr
      have q := ih (some a) hp2.2 (fun e he e' he' => by cases he; exact hp2.1 e' he') r hr
      refine ⟨fun z => (by have := (q.1 z).1; cases this), fun e he => ?_⟩
      have w := q.2 e he
      refine ⟨Or.inl ?_, fun e' he' pe' => ?_⟩
      · rcases w.1 with y | y
        · exact ⟨List.mem_cons_of_mem _ y.1, y.2⟩
        · cases y; exact ⟨List.mem_cons_self, c⟩
      · rcases List.mem_cons.mp he' with y | y
        · subst y
          rcases w.1 with v | v
          · exact Or.inr (hp2.1 e v.1)
          · cases v; exact Or.inl rfl
        · exact w.2 e' y pe'
    · rw [if_neg c] at hr
      have q := ih x hp2.2 (fun e he e' he' => hx e he e' (List.mem_cons_of_mem _ he')) r hr
      refine ⟨fun z => ⟨(q.1 z).1, fun e he => ?_⟩, fun e he => ?_⟩
      · rcases List.mem_cons.mp he with y | y
        · subst y; exact c
        · exact (q.1 z).2 e y
      · have w := q.2 e he
        refine ⟨?_, fun e' he' pe' => ?_⟩
        · rcases w.1 with y | y
          · exact Or.inl ⟨List.mem_cons_of_mem _ y.1, y.2⟩
          · exact Or.inr y
        · rcases List.mem_cons.mp he' with y | y
          · subst y; exact absurd pe' c
          · exact w.2 e' y pe'
/-- the latest, as a number -/
def laN (V : St) (h k d : Int) (N : List Int) : Option Int := N.foldl (fun x j => if V 8 (12 * h + j) = k ∧ V 7 (12 * h + j) ≤ d then some j else x) none
theorem lat_laN (f9 : Int → Nat) (k d : Int) : lat (mkL V f9 h N) k d = (laN V h k d N).map (mkE V f9 h) := by
  have q : ∀ (N : List Int) (x : Option Int), (mkL V f9 h N).foldl (fun x e => if eKi e = k ∧ eDy e ≤ d then some e else x) (x.map (mkE V f9 h)) = (N.foldl (fun x j => if V 8 (12 * h + j) = k ∧ V 7 (12 * h + j) ≤ d then some j else x) x).map (mkE V f9 h) := by
    intro N
    induction N with
    | nil => intro x; rfl
    | cons a N ih =>
      intro x
      show (mkL V f9 h N).foldl _ (if V 8 (12 * h + a) = k ∧ V 7 (12 * h + a) ≤ d then some (mkE V f9 h a) else x.map (mkE V f9 h)) = _
      rw [List.foldl_cons, ← ih]
      congr 1
      by_cases c : V 8 (12 * h + a) = k ∧ V 7 (12 * h + a) ≤ d
      · rw [if_pos c, if_pos c]; rfl
      · rw [if_neg c, if_neg c]
  exact q N none
theorem mCo_spec {k d : Int} (h0 : 0 ≤ h) (hn : 0 ≤ V 6 h) : (mCo V h d k = -1 ∧ ∀ j, 0 ≤ j → j < V 6 h → ¬ (V 8 (12 * h + j) = k ∧ V 7 (12 * h + j) ≤ d)) ∨ ∃ m, (0 ≤ m ∧ m < V 6 h) ∧ mCo V h d k = 12 * h + m ∧ (V 8 (12 * h + m) = k ∧ V 7 (12 * h + m) ≤ d) ∧ ∀ j, 0 ≤ j → j < V 6 h → V 8 (12 * h + j) = k ∧ V 7 (12 * h + j) ≤ d → j = m ∨ bef V h j m := by
  refine lo_inv (g := cnG V h d k) (fun x i => (x = -1 ∧ ∀ j, 0 ≤ j → j < i → ¬ (V 8 (12 * h + j) = k ∧ V 7 (12 * h + j) ≤ d)) ∨ ∃ m, (0 ≤ m ∧ m < i) ∧ x = 12 * h + m ∧ (V 8 (12 * h + m) = k ∧ V 7 (12 * h + m) ≤ d) ∧ ∀ j, 0 ≤ j → j < i → V 8 (12 * h + j) = k ∧ V 7 (12 * h + j) ≤ d → j = m ∨ bef V h j m) hn (Or.inl ⟨rfl, fun j a b => by omega⟩) (fun x i a b hx => ?_)
  unfold cnG
  by_cases c : V 8 (12 * h + i) = k ∧ V 7 (12 * h + i) ≤ d ∧ (x < 0 ∨ V 7 x ≤ V 7 (12 * h + i))
  · rw [if_pos c]
    refine Or.inr ⟨i, ⟨a, by omega⟩, rfl, ⟨c.1, c.2.1⟩, fun j j0 j1 hj => ?_⟩
    by_cases e : j = i
    · exact Or.inl e
    · rcases hx with hx | ⟨m, hm, hxe, hp, hl⟩
      · exact absurd hj (hx.2 j j0 (by omega))
      · have w := hl j j0 (by omega) hj
        have y : V 7 (12 * h + m) ≤ V 7 (12 * h + i) := by
          rcases c.2.2 with z | z
          · omega
          · rw [hxe] at z; exact z
        refine Or.inr ?_
        unfold bef at w ⊢
        rcases w with w | w
        · subst w; omega
        · omega
  · rw [if_neg c]
    rcases hx with hx | ⟨m, hm, hxe, hp, hl⟩
    · refine Or.inl ⟨hx.1, fun j j0 j1 hj => ?_⟩
      by_cases e : j = i
      · subst e; exact c ⟨hj.1, hj.2, Or.inl (by omega)⟩
      · exact hx.2 j j0 (by omega) hj
    · refine Or.inr ⟨m, ⟨hm.1, by omega⟩, hxe, hp, fun j j0 j1 hj => ?_⟩
      by_cases e : j = i
      · subst e
        refine Or.inr (Or.inl ?_)
        by_cases z : V 7 (12 * h + m) ≤ V 7 (12 * h + j)
        · exact absurd ⟨hj.1, hj.2, Or.inr (by rw [hxe]; exact z)⟩ c
        · omega
      · exact hl j j0 (by omega) hj
theorem la_both (hN : Nok V h N) (h0 : 0 ≤ h) (k d : Int) : (laN V h k d N = none ∧ mCo V h d k = -1) ∨ ∃ m, (0 ≤ m ∧ m < V 6 h) ∧ laN V h k d N = some m ∧ mCo V h d k = 12 * h + m := by
  have hn : 0 ≤ V 6 h := by have := hN.1; omega
  have q := last_spec (p := fun j => V 8 (12 * h + j) = k ∧ V 7 (12 * h + j) ≤ d) (dp := fun _ => inferInstance) N none hN.pw (fun e he => by cases he) _ rfl
  have w := mCo_spec (V := V) (h := h) (k := k) (d := d) h0 hn
  cases c : laN V h k d N with
  | none =>
    have z := (q.1 c).2
    rcases w with w | ⟨m, hm, _, hp, _⟩
    · exact Or.inl ⟨rfl, w.1⟩
    · exact absurd hp (z m (hN.mem hm.1 hm.2))
  | some m =>
    have z := q.2 m c
    rcases z.1 with y | y
    · have mr := hN.2.1 m y.1
      rcases w with w | ⟨m2, hm, hc, hp, hl⟩
      · exact absurd y.2 (w.2 m mr.1 mr.2)
      · have e1 := hl m mr.1 mr.2 y.2
        have e2 := z.2 m2 (hN.mem hm.1 hm.2) hp
        have e : m2 = m := by
          unfold bef at e1 e2
          omega
        subst e
        exact Or.inr ⟨m2, hm, rfl, hc⟩
    · cases y
theorem eq_sz (hN : Nok V h N) (h0 : 0 ≤ h) (f9 : Int → Nat) (d : Int) : szO (mkL V f9 h N) (V 4 h) d = mSz V h d := by
  unfold szO mSz
  rw [lat_laN]
  rcases la_both hN h0 0 d with q | ⟨m, hm, q1, q2⟩
  · rw [q.1, q.2]; rfl
  · rw [q1, q2, if_neg (by omega)]; rfl
theorem eq_us (hN : Nok V h N) (h0 : 0 ≤ h) (f9 : Int → Nat) (d : Int) : usO (mkL V f9 h N) d = mUs V h d := by
  unfold usO mUs
  rw [lat_laN]
  rcases la_both hN h0 1 d with q | ⟨m, hm, q1, q2⟩
  · rw [q.1, q.2]; rfl
  · rw [q1, q2, if_neg (by omega)]; rfl
/-! the cuts -/
theorem day_split (f t : Int) (hf : f ≤ t + 1) : ∀ N : List Int, N.Pairwise (fun a b => V 7 (12 * h + a) ≤ V 7 (12 * h + b)) → N.filter (fun j => decide (f ≤ V 7 (12 * h + j) ∧ V 7 (12 * h + j) ≤ t + 1)) = N.filter (fun j => decide (f ≤ V 7 (12 * h + j) ∧ V 7 (12 * h + j) ≤ t)) ++ N.filter (fun j => decide (V 7 (12 * h + j) = t + 1)) := by
  intro N
  induction N with
  | nil => intro _; rfl
  | cons a N ih =>
    intro hp
    have hp2 := List.pairwise_cons.mp hp
    have r := ih hp2.2
    by_cases c : V 7 (12 * h + a) ≤ t
    · by_cases e : f ≤ V 7 (12 * h + a)
      · rw [List.filter_cons_of_pos (by simp; omega), List.filter_cons_of_pos (by simp; omega), List.filter_cons_of_neg (by simp; omega), r]; rfl
      · rw [List.filter_cons_of_neg (by simp; omega), List.filter_cons_of_neg (by simp; omega), List.filter_cons_of_neg (by simp; omega), r]
    · have nil : N.filter (fun j => decide (f ≤ V 7 (12 * h + j) ∧ V 7 (12 * h + j) ≤ t)) = [] := List.filter_eq_nil_iff.mpr (fun j hj => by have := hp2.1 j hj; simp; omega)
      rw [nil, List.nil_append] at r
      rw [List.filter_cons_of_neg (a := a) (p := fun j => decide (f ≤ V 7 (12 * h + j) ∧ V 7 (12 * h + j) ≤ t)) (by simp; omega), nil, List.nil_append]
      by_cases e : V 7 (12 * h + a) = t + 1
      · rw [List.filter_cons_of_pos (by simp; omega), List.filter_cons_of_pos (by simp; omega), r]
      · rw [List.filter_cons_of_neg (by simp; omega), List.filter_cons_of_neg (by simp; omega), r]
def cuS (V : St) (h : Int) : Int → Int → Int := fun w j => if V 8 (12 * h + j) = 2 then w * (1000 - V 9 (12 * h + j)) / 1000 else w
theorem inn_fold (hN : Nok V h N) (dd w : Int) : inn V h dd w = (N.filter (fun j => decide (V 7 (12 * h + j) = dd))).foldl (cuS V h) w := by
  have hn : 0 ≤ V 6 h := by have := hN.1; omega
  unfold inn
  rw [lo_tld hn, hN.2.2.2, foldl_if]
  refine foldl_congr _ _ (fun e _ x => ?_)
  unfold inG cuS
  by_cases c : V 7 (12 * h + e) = dd
  · by_cases c2 : V 8 (12 * h + e) = 2
    · rw [if_pos ⟨c2, c⟩, if_pos (by simp [c]), if_pos c2]
    · rw [if_neg (fun z => c2 z.1), if_pos (by simp [c]), if_neg c2]
  · rw [if_neg (fun z => c z.2), if_neg (by simp [c])]
theorem wUp_fold (hN : Nok V h N) (f w : Int) : ∀ k : Nat, wUp V h f w (f + (k : Int)) = (N.filter (fun j => decide (f ≤ V 7 (12 * h + j) ∧ V 7 (12 * h + j) ≤ f + (k : Int) - 1))).foldl (cuS V h) w := by
  intro k
  induction k with
  | zero =>
    rw [show f + ((0 : Nat) : Int) = f by omega, wUp_0, List.filter_eq_nil_iff.mpr (fun j hj => by simp; omega)]
    rfl
  | succ k ih =>
    rw [show f + ((k + 1 : Nat) : Int) = f + (k : Int) + 1 by omega, wUp_s (by omega), ih, inn_fold hN, ← List.foldl_append]
    have q := day_split (V := V) (h := h) f (f + (k : Int) - 1) (by omega) N hN.2.2.1
    rw [show f + (k : Int) - 1 + 1 = f + (k : Int) by omega] at q
    rw [← q, show f + (k : Int) + 1 - 1 = f + (k : Int) by omega]
theorem ctd_fold (f9 : Int → Nat) (f t w : Int) : ctd (mkL V f9 h N) f t w = (N.filter (fun j => decide (f ≤ V 7 (12 * h + j) ∧ V 7 (12 * h + j) ≤ t))).foldl (cuS V h) w := by
  rw [foldl_if]
  unfold ctd mkL
  rw [List.foldl_map]
  refine foldl_congr _ _ (fun e _ x => ?_)
  show (if V 8 (12 * h + e) = 2 ∧ f ≤ V 7 (12 * h + e) ∧ V 7 (12 * h + e) ≤ t then x * (1000 - V 9 (12 * h + e)) / 1000 else x) = _
  unfold cuS
  by_cases c : f ≤ V 7 (12 * h + e) ∧ V 7 (12 * h + e) ≤ t
  · by_cases c2 : V 8 (12 * h + e) = 2
    · rw [if_pos ⟨c2, c⟩, if_pos (by simp [c]), if_pos c2]
    · rw [if_neg (fun z => c2 z.1), if_pos (by simp [c]), if_neg c2]
  · rw [if_neg (fun z => c z.2), if_neg (by simp only [decide_eq_true_eq]; exact c)]
theorem eq_ct (hN : Nok V h N) (f9 : Int → Nat) {f t w : Int} (hf : f ≤ t + 1) : ctd (mkL V f9 h N) f t w = wUp V h f w (t + 1) := by
  have q := wUp_fold hN f w (t + 1 - f).toNat
  rw [show f + ((t + 1 - f).toNat : Int) = t + 1 by omega, show t + 1 - 1 = t by omega] at q
  rw [q, ctd_fold]
theorem eq_wo (hV : Iv V) (hN : Nok V h N) (h0 : 0 ≤ h) (f9 : Int → Nat) (d : Int) : wO V (mkL V f9 h N) h d = mWo V h d := by
  unfold wO mWo
  by_cases c : stO V d < 0
  · rw [if_pos c, if_pos c]
  · have r := stO_rng hV d
    rw [if_neg c, if_neg c, eq_ct hN f9 (by omega), eq_sz hN h0, show 18 * stO V d + pl V h = 18 * stO V d + 6 * V 2 h + V 3 h by unfold pl; omega]
theorem eq_co (hV : Iv V) (hN : Nok V h N) (h0 : 0 ≤ h) (h1 : h < V 0 0) (f9 : Int → Nat) (d : Int) : cO V (mkL V f9 h N) h d = mCt V h d := by
  unfold cO mCt
  rw [eq_wo hV hN h0, lat_laN]
  rcases la_both hN h0 1 d with q | ⟨m, hm, q1, q2⟩
  · rw [q.1]
    unfold mUs
    rw [q.2]
    rfl
  · have s := mCo_rng hV d 1 h0 h1
    have r := hV.e h0 h1 hm.1 hm.2
    rw [q2] at s
    have eu : mUs V h d = V 9 (12 * h + m) := by unfold mUs; rw [q2, if_neg (by omega)]
    rw [q1, eu, q2]
    show (if V 9 (12 * h + m) = 1 then (if d - V 7 (12 * h + m) < 90 then 0 else mWo V h d / 2) else if V 9 (12 * h + m) = 2 then mWo V h d / 2 else if V 9 (12 * h + m) = 3 then mWo V h d / 5 else mWo V h d) = _
    by_cases c0 : V 9 (12 * h + m) = 0
    · rw [if_pos c0, if_neg (by omega), if_neg (by omega), if_neg (by omega)]
    · rw [if_neg c0]
      by_cases c1 : V 9 (12 * h + m) = 1
      · rw [if_pos c1, if_pos c1]
      · rw [if_neg c1, if_neg c1]
        by_cases c2 : V 9 (12 * h + m) = 2
        · rw [if_pos c2, if_pos c2]
        · rw [if_neg c2, if_neg c2, if_pos (by omega)]
theorem eq_yr (hV : Iv V) (hN : Nok V h N) (h0 : 0 ≤ h) (h1 : h < V 0 0) (f9 : Int → Nat) (y : Int) : yrO V (mkL V f9 h N) h y = mYr V h y :=
  lo_congr 0 (by omega) (fun x j _ _ => by rw [eq_co hV hN h0 h1])
theorem mkL_lenN (hN : Nok V h N) (f9 : Int → Nat) : ((mkL V f9 h N).length : Int) = V 6 h := by
  unfold mkL
  rw [List.length_map]; exact hN.1
end NOKS
/-! bills and wards -/
theorem blF_in {V : St} {y h : Int} (h1 : h < V 0 0) : blF V y h = V 16 (10 * h + y) := if_pos h1
theorem eq_op {V : St} {h y : Int} (h1 : h < V 0 0) : opO V h y = mDu V h y := by
  unfold opO mDu pdF
  rw [blF_in h1]
theorem eq_ow {V : St} {h w : Int} (h1 : h < V 0 0) : owO V h w = mOw V h w :=
  lo_congr 0 (by omega) (fun x y _ _ => by
    rw [eq_op h1]
    congr 1
    by_cases c : w = 0
    · rw [if_pos c]
      by_cases e : 0 < mDu V h y
      · rw [if_pos e]; omega
      · rw [if_neg e]; omega
    · rw [if_neg c]
      by_cases e : 0 < -mDu V h y
      · rw [if_pos e]; omega
      · rw [if_neg e]; omega)
theorem eq_bi {V : St} (hV : Iv V) {w y : Int} (y0 : 0 ≤ y) (y1 : y < 10) : biO V w y = mWa V w y 0 :=
  lo_congr 0 hV.n.1 (fun x i i0 i1 => by
    have n := hV.n
    have r := hV.b (i := i) (y := y) i0 (by omega) y0 y1
    rw [blF_in i1, if_neg (by omega : ¬ (0 : Int) = 1)]
    by_cases c : w = -1 ∨ V 1 i = w
    · rw [if_pos c, if_pos c]
      by_cases e : V 16 (10 * i + y) = -4
      · rw [if_pos e]; omega
      · rw [if_neg e]; omega
    · rw [if_neg c, if_neg c]; omega)
theorem eq_pa {V : St} (hV : Iv V) {w y : Int} : paO V w y = mWa V w y 1 :=
  lo_congr 0 hV.n.1 (fun x i i0 i1 => by
    rw [if_pos (rfl : (1 : Int) = 1)]
    by_cases c : w = -1 ∨ V 1 i = w
    · rw [if_pos c, if_pos c]; rfl
    · rw [if_neg c, if_neg c]; omega)
