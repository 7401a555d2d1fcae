/-! the reference: its object, its rows -/
def mN : Nat → Nat
  | 7 => 480
  | 8 => 480
  | 9 => 480
  | 10 => 10
  | 11 => 180
  | 12 => 180
  | 14 => 10
  | 15 => 10
  | 16 => 400
  | 17 => 400
  | _ => 40
def mE (G : GG) (V : St) (k : Nat) : va_E := if k = 13 then eZ G 10 (V 13) else eI G (mN k) (V k)
def eM (ad : Nat → Nat) (V : St) (fo am : Int) : va_E := eO 9 [.int (J (V 0 0)), .ref (ad 1), .ref (ad 2), .ref (ad 3), .ref (ad 4), .ref (ad 5), .ref (ad 6), .ref (ad 7), .ref (ad 8), .ref (ad 9), .int (J (V 0 1)), .ref (ad 10), .ref (ad 11), .ref (ad 12), .ref (ad 13), .ref (ad 14), .ref (ad 15), .ref (ad 16), .ref (ad 17), .int (J fo), .int (J am), .ref (ad 18)]
def MW (G : GG) (H : Heap) (ad : Nat → Nat) (V : St) (fo am : Int) (ys : Int → Int) : Prop := At G H (ad 0) (eM ad V fo am) ∧ (∀ k, 1 ≤ k → k ≤ 17 → At G H (ad k) (mE G V k)) ∧ At G H (ad 18) (eL G 40 ys)
/-- its cells lie apart -/
def Dj (ad : Nat → Nat) : Prop := ∀ i j, i ≤ 18 → j ≤ 18 → ad i = ad j → i = j
def mS (ad : Nat → Nat) : Nat → Prop := fun x => ∃ i, i ≤ 18 ∧ x = ad i
def vu (V : St) (k : Nat) (z x : Int) : St := fun c => if c = k then uf (V k) z x else V c
theorem vu_s (V : St) (k : Nat) (z x : Int) : vu V k z x k = uf (V k) z x := if_pos rfl
theorem vu_n (V : St) {k c : Nat} (z x : Int) (h : c ≠ k) : vu V k z x c = V c := if_neg h
theorem MW.f {G : GG} {H H1 : Heap} {ad : Nat → Nat} {V : St} {fo am : Int} {ys : Int → Int} {S : Nat → Prop} {k : Nat} (h : MW G H ad V fo am ys) (x : Fr H H1 S k) (hs : ∀ i, i ≤ 18 → ¬ S (ad i)) : MW G H1 ad V fo am ys :=
  ⟨h.1.f x (hs 0 (by omega)), fun c a b => (h.2.1 c a b).f x (hs c (by omega)), h.2.2.f x (hs 18 (by omega))⟩
theorem MW.upd {G : GG} {H H1 : Heap} {ad : Nat → Nat} {V W : St} {fo am : Int} {ys : Int → Int} {k : Nat} (hd : Dj ad) (h : MW G H ad V fo am ys) (x : Hx H H1 (ad k)) (h1 : 1 ≤ k) (h2 : k ≤ 17) (hc : At G H1 (ad k) (mE G W k)) (hw : ∀ c, c ≠ k → W c = V c) : MW G H1 ad W fo am ys := by
  refine ⟨?_, fun c a b => ?_, h.2.2.x x (fun z => by have := hd 18 k (by omega) (by omega) z; omega)⟩
  · have q := h.1.x x (fun z => by have := hd 0 k (by omega) (by omega) z; omega)
    unfold eM at q ⊢
    rw [hw 0 (by omega)]
    exact q
  · by_cases z : c = k
    · subst z; exact hc
    · have q := (h.2.1 c a b).x x (fun y => z (hd c k (by omega) (by omega) y))
      unfold mE at q ⊢
      by_cases y : c = 13
      · subst y
        rw [if_pos rfl] at q ⊢
        rw [hw 13 z]; exact q
      · rw [if_neg y] at q ⊢
        rw [hw c z]; exact q
theorem MW.upd0 {G : GG} {H H1 : Heap} {ad : Nat → Nat} {V W : St} {fo am fo2 am2 : Int} {ys : Int → Int} (hd : Dj ad) (h : MW G H ad V fo am ys) (x : Hx H H1 (ad 0)) (hc : At G H1 (ad 0) (eM ad W fo2 am2)) (hw : ∀ c, c ≠ 0 → W c = V c) : MW G H1 ad W fo2 am2 ys := by
  refine ⟨hc, fun c a b => ?_, h.2.2.x x (fun z => by have := hd 18 0 (by omega) (by omega) z; omega)⟩
  have q := (h.2.1 c a b).x x (fun y => by have := hd c 0 (by omega) (by omega) y; omega)
  unfold mE at q ⊢
  by_cases y : c = 13
  · subst y
    rw [if_pos rfl] at q ⊢
    rw [hw 13 (by omega)]; exact q
  · rw [if_neg y] at q ⊢
    rw [hw c (by omega)]; exact q
theorem MW.updL {G : GG} {H H1 : Heap} {ad : Nat → Nat} {V : St} {fo am : Int} {ys ys2 : Int → Int} (hd : Dj ad) (h : MW G H ad V fo am ys) (x : Hx H H1 (ad 18)) (hc : At G H1 (ad 18) (eL G 40 ys2)) : MW G H1 ad V fo am ys2 :=
  ⟨h.1.x x (fun z => by have := hd 0 18 (by omega) (by omega) z; omega), fun c a b => (h.2.1 c a b).x x (fun z => by have := hd c 18 (by omega) (by omega) z; omega), hc⟩
/-! what the reference answers -/
def cnG (V : St) (h d k : Int) : Int → Int → Int := fun x j => if V 8 (12 * h + j) = k ∧ V 7 (12 * h + j) ≤ d ∧ (x < 0 ∨ V 7 x ≤ V 7 (12 * h + j)) then 12 * h + j else x
def mCo (V : St) (h d k : Int) : Int := lo (cnG V h d k) (-1) (V 6 h)
def mSz (V : St) (h d : Int) : Int := if mCo V h d 0 < 0 then V 4 h else V 9 (mCo V h d 0)
def mUs (V : St) (h d : Int) : Int := if mCo V h d 1 < 0 then 0 else V 9 (mCo V h d 1)
def ncG (V : St) (h f : Int) : Int → Int → Int := fun x j => if V 8 (12 * h + j) = 2 ∧ f ≤ V 7 (12 * h + j) ∧ V 7 (12 * h + j) < x then V 7 (12 * h + j) else x
def mNc (V : St) (h f t : Int) : Int := lo (ncG V h f) (t + 1) (V 6 h)
def inG (V : St) (h dd : Int) : Int → Int → Int := fun w j => if V 8 (12 * h + j) = 2 ∧ V 7 (12 * h + j) = dd then w * (1000 - V 9 (12 * h + j)) / 1000 else w
def inn (V : St) (h dd w : Int) : Int := lo (inG V h dd) w (V 6 h)
/-- the cuts of the days f, f + 1, .. , below d -/
def wUp (V : St) (h f w0 d : Int) : Int := lo (fun w x => inn V h (f + x) w) w0 (d - f)
def mWo (V : St) (h d : Int) : Int := if stO V d < 0 then 0 else wUp V h (V 10 (stO V d)) (mSz V h d * V 11 (18 * stO V d + 6 * V 2 h + V 3 h) / V 12 (18 * stO V d + 6 * V 2 h + V 3 h)) (d + 1)
def mCt (V : St) (h d : Int) : Int := if mUs V h d = 0 then mWo V h d else if mUs V h d = 1 then (if d - V 7 (mCo V h d 1) < 90 then 0 else mWo V h d / 2) else if mUs V h d = 2 then mWo V h d / 2 else mWo V h d / 5
def mYr (V : St) (h y : Int) : Int := lo (fun x j => x + rlv (mCt V h (365 * y + j))) 0 365
def mDu (V : St) (h y : Int) : Int := if V 16 (10 * h + y) = -4 then 0 else V 16 (10 * h + y) - V 17 (10 * h + y)
def mOw (V : St) (h w : Int) : Int := lo (fun x y => x + (if 0 < (if w = 0 then mDu V h y else -mDu V h y) then (if w = 0 then mDu V h y else -mDu V h y) else 0)) 0 10
def mWa (V : St) (w y k : Int) : Int := lo (fun x i => x + (if w = -1 ∨ V 1 i = w then (if k = 1 then V 17 (10 * i + y) else if V 16 (10 * i + y) = -4 then 0 else V 16 (10 * i + y)) else 0)) 0 (V 0 0)
def mSy (V : St) : Int := lo (fun x y => x + pI (V 13 y ≠ 0)) 0 10
theorem Iv.e {V : St} (h : Iv V) {i e : Int} (h0 : 0 ≤ i) (h1 : i < V 0 0) (h2 : 0 ≤ e) (h3 : e < V 6 i) : (0 ≤ V 7 (12 * i + e) ∧ V 7 (12 * i + e) ≤ 3649) ∧ ((V 8 (12 * i + e) = 0 ∧ 1 ≤ V 9 (12 * i + e) ∧ V 9 (12 * i + e) ≤ 500) ∨ (V 8 (12 * i + e) = 1 ∧ 0 ≤ V 9 (12 * i + e) ∧ V 9 (12 * i + e) ≤ 3) ∨ (V 8 (12 * i + e) = 2 ∧ 1 ≤ V 9 (12 * i + e) ∧ V 9 (12 * i + e) ≤ 900)) := h.2.2.1 i e h0 h1 h2 h3
theorem cn_rng {V : St} (hV : Iv V) {h d k j : Int} (h0 : 0 ≤ h) (h1 : h < V 0 0) (j0 : 0 ≤ j) (j1 : j ≤ V 6 h) : lo (cnG V h d k) (-1) j = -1 ∨ ((12 * h ≤ lo (cnG V h d k) (-1) j ∧ lo (cnG V h d k) (-1) j < 12 * h + j) ∧ V 8 (lo (cnG V h d k) (-1) j) = k ∧ V 7 (lo (cnG V h d k) (-1) j) ≤ d) := by
  refine lo_inv (fun x j => x = -1 ∨ ((12 * h ≤ x ∧ x < 12 * h + j) ∧ V 8 x = k ∧ V 7 x ≤ d)) j0 (Or.inl rfl) (fun x j a b hx => ?_)
  unfold cnG
  split
  · rename_i q
    exact Or.inr ⟨⟨by omega, by omega⟩, q.1, q.2.1⟩
  · rcases hx with hx | hx
    · exact Or.inl hx
    · exact Or.inr ⟨⟨hx.1.1, by omega⟩, hx.2⟩
theorem mCo_rng {V : St} (hV : Iv V) {h : Int} (d k : Int) (h0 : 0 ≤ h) (h1 : h < V 0 0) : mCo V h d k = -1 ∨ ((12 * h ≤ mCo V h d k ∧ mCo V h d k < 12 * h + V 6 h) ∧ V 8 (mCo V h d k) = k ∧ V 7 (mCo V h d k) ≤ d) :=
  cn_rng hV h0 h1 (hV.h h0 h1).2.2.2.2.2.1 (Int.le_refl _)
theorem Iv.e2 {V : St} (hV : Iv V) {h x : Int} (h0 : 0 ≤ h) (h1 : h < V 0 0) (h2 : 12 * h ≤ x) (h3 : x < 12 * h + V 6 h) : (0 ≤ V 7 x ∧ V 7 x ≤ 3649) ∧ ((V 8 x = 0 ∧ 1 ≤ V 9 x ∧ V 9 x ≤ 500) ∨ (V 8 x = 1 ∧ 0 ≤ V 9 x ∧ V 9 x ≤ 3) ∨ (V 8 x = 2 ∧ 1 ≤ V 9 x ∧ V 9 x ≤ 900)) := by
  have q := hV.e (i := h) (e := x - 12 * h) h0 h1 (by omega) (by omega)
  rw [show 12 * h + (x - 12 * h) = x by omega] at q
  exact q
theorem mSz_rng {V : St} (hV : Iv V) {h : Int} (d : Int) (h0 : 0 ≤ h) (h1 : h < V 0 0) : 1 ≤ mSz V h d ∧ mSz V h d ≤ 500 := by
  have q := mCo_rng hV d 0 h0 h1
  have hh := hV.h h0 h1
  unfold mSz
  split
  · omega
  · rcases q with q | q
    · omega
    · have := hV.e2 h0 h1 q.1.1 q.1.2
      omega
theorem mUs_rng {V : St} (hV : Iv V) {h : Int} (d : Int) (h0 : 0 ≤ h) (h1 : h < V 0 0) : 0 ≤ mUs V h d ∧ mUs V h d ≤ 3 := by
  have q := mCo_rng hV d 1 h0 h1
  unfold mUs
  split
  · omega
  · rcases q with q | q
    · omega
    · have := hV.e2 h0 h1 q.1.1 q.1.2
      omega
theorem nc_rng {V : St} (hV : Iv V) {h f t j : Int} (h0 : 0 ≤ h) (h1 : h < V 0 0) (hf : f ≤ t + 1) (j0 : 0 ≤ j) (j1 : j ≤ V 6 h) : f ≤ lo (ncG V h f) (t + 1) j ∧ lo (ncG V h f) (t + 1) j ≤ t + 1 := by
  refine lo_inv (fun x _ => f ≤ x ∧ x ≤ t + 1) j0 ⟨hf, Int.le_refl _⟩ (fun x j a b hx => ?_)
  unfold ncG
  split <;> omega
theorem in_rng {V : St} (hV : Iv V) {h dd w j : Int} (h0 : 0 ≤ h) (h1 : h < V 0 0) (hw : 0 ≤ w ∧ w ≤ 50000000) (j0 : 0 ≤ j) (j1 : j ≤ V 6 h) : 0 ≤ lo (inG V h dd) w j ∧ lo (inG V h dd) w j ≤ 50000000 := by
  refine lo_inv (fun x _ => 0 ≤ x ∧ x ≤ 50000000) j0 hw (fun x j a b hx => ?_)
  unfold inG
  split
  · rename_i q
    have r := hV.e h0 h1 a (by omega)
    have m := mulb (a := x) (b := 1000 - V 9 (12 * h + j)) (A := 50000000) (B := 1000) hx.1 hx.2 (by omega) (by omega)
    omega
  · exact hx
theorem wUp_rng {V : St} (hV : Iv V) {h f w d : Int} (h0 : 0 ≤ h) (h1 : h < V 0 0) (hw : 0 ≤ w ∧ w ≤ 50000000) (hd : f ≤ d) : 0 ≤ wUp V h f w d ∧ wUp V h f w d ≤ 50000000 :=
  lo_inv (fun x _ => 0 ≤ x ∧ x ≤ 50000000) (by omega) hw (fun x j _ _ hx => in_rng hV h0 h1 hx (hV.h h0 h1).2.2.2.2.2.1 (Int.le_refl _))
/-- days without a cut -/
theorem in_none {V : St} {h dd w : Int} (hn : 0 ≤ V 6 h) (hq : ∀ j, 0 ≤ j → j < V 6 h → ¬ (V 8 (12 * h + j) = 2 ∧ V 7 (12 * h + j) = dd)) : inn V h dd w = w := by
  have q := lo_stay (g := inG V h dd) w (i := 0) (j := V 6 h) (Int.le_refl _) hn (fun x k a b => by unfold inG; rw [if_neg (hq k a b)])
  exact q
theorem nc_spec {V : St} {h f t : Int} (hn : 0 ≤ V 6 h) {j : Int} (j0 : 0 ≤ j) (j1 : j < V 6 h) (hk : V 8 (12 * h + j) = 2) (hf : f ≤ V 7 (12 * h + j)) : mNc V h f t ≤ V 7 (12 * h + j) := by
  have le : ∀ (x k : Int), ncG V h f x k ≤ x := fun x k => by unfold ncG; split <;> omega
  have q := lo_inv2 (g := ncG V h f) (a := t + 1) (i0 := j + 1) (i := V 6 h) (fun x _ => x ≤ V 7 (12 * h + j)) (by omega) (by omega) (by
    rw [lo_s _ _ j0]
    unfold ncG
    split <;> omega) (fun x k a b hx => by have := le x k; show ncG V h f x k ≤ _; omega)
  exact q
theorem wUp_s {V : St} {h f w d : Int} (hd : f ≤ d) : wUp V h f w (d + 1) = inn V h d (wUp V h f w d) := by
  unfold wUp
  rw [show d + 1 - f = (d - f) + 1 by omega, lo_s _ _ (by omega), show f + (d - f) = d by omega]
theorem wUp_skip {V : St} {h f w d d1 : Int} (hn : 0 ≤ V 6 h) (hd : f ≤ d) (h1 : d ≤ d1) (hq : ∀ j, 0 ≤ j → j < V 6 h → V 8 (12 * h + j) = 2 → d ≤ V 7 (12 * h + j) → d1 ≤ V 7 (12 * h + j)) : wUp V h f w d1 = wUp V h f w d := by
  obtain ⟨k, rfl⟩ : ∃ k : Nat, d1 = d + (k : Int) := ⟨(d1 - d).toNat, by omega⟩
  clear h1
  induction k with
  | zero => rw [show d + ((0 : Nat) : Int) = d by omega]
  | succ k ih =>
    rw [show d + ((k + 1 : Nat) : Int) = d + (k : Int) + 1 by omega, wUp_s (by omega), in_none hn (fun j a b z => by have := hq j a b z.1 (by omega); omega)]
    exact ih (fun j a b c e => by have := hq j a b c e; omega)
theorem mWo_rng {V : St} (hV : Iv V) {h d : Int} (h0 : 0 ≤ h) (h1 : h < V 0 0) : 0 ≤ mWo V h d ∧ mWo V h d ≤ 50000000 := by
  unfold mWo
  split
  · omega
  · have hst := stO_rng hV d
    have hh := hV.h h0 h1
    have hu := hV.u (i := stO V d) (u := 6 * V 2 h + V 3 h) (by omega) (by omega) (by omega) (by omega)
    rw [← Int.add_assoc] at hu
    have hz := mSz_rng hV d h0 h1
    have hm := mulb (a := mSz V h d) (b := V 11 (18 * stO V d + 6 * V 2 h + V 3 h)) (A := 500) (B := 100000) (by omega) (by omega) (by omega) (by omega)
    have hd := div_rng (b := V 12 (18 * stO V d + 6 * V 2 h + V 3 h)) hm.1 hm.2 (by omega)
    exact wUp_rng hV h0 h1 ⟨hd.1, by omega⟩ (by omega)
theorem mCt_rng {V : St} (hV : Iv V) {h d : Int} (h0 : 0 ≤ h) (h1 : h < V 0 0) : 0 ≤ mCt V h d ∧ mCt V h d ≤ 50000000 := by
  have hw := mWo_rng (d := d) hV h0 h1
  unfold mCt
  repeat' split
  all_goals omega
theorem mYr_rng {V : St} (hV : Iv V) {h y : Int} (h0 : 0 ≤ h) (h1 : h < V 0 0) : 0 ≤ mYr V h y ∧ mYr V h y ≤ 20000000000 := by
  have q := lo_sum_rng (g := fun j => rlv (mCt V h (365 * y + j))) (n := 365) (B := 50000000) (by omega) (by omega) (fun j _ _ => rlv_rng (mCt_rng hV h0 h1))
  unfold mYr; omega
