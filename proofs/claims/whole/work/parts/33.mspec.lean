/-! what the writing calls leave -/
def sAd (V : St) (h d k v : Int) : St := vu (vu (vu (vu V 7 (12 * h + V 6 h) d) 8 (12 * h + V 6 h) k) 9 (12 * h + V 6 h) v) 6 h (V 6 h + 1)
def hoW (V : St) (w k t z r : Int) : St := vu (vu (vu (vu (vu V 1 (V 0 0) w) 2 (V 0 0) k) 3 (V 0 0) t) 4 (V 0 0) z) 5 (V 0 0) r
def hoB (V : St) (w k t z r i : Int) : St := lo (fun X y => vu X 16 (10 * V 0 0 + y) (-4)) (hoW V w k t z r) i
def sHo (V : St) (w k t z r : Int) : St := vu (hoB V w k t z r 10) 0 0 (V 0 0 + 1)
def mFo (V : St) (k s out : Int) : Int := lo (fun x h => if asked V k s out h ∧ rank V k s out h = (among V k s out - 1).tdiv 2 then h else x) (-1) (V 0 0)
def fFo (V : St) (k s out : Int) : Int := if mFo V k s out < 0 then mFo V k (-1) out else mFo V k s out
def fAm (V : St) (k s out : Int) : Int := if mFo V k s out < 0 then among V k (-1) out else among V k s out
def mUa (V : St) (k s out : Int) : Int := if fFo V k s out < 0 then 10 else V 5 (fFo V k s out)
def mUb (V : St) (k s out : Int) : Int := if fFo V k s out < 0 then 1 else V 4 (fFo V k s out)
def liW (V : St) (u : Int) : St := fun c => if c = 11 then (fun j => if 18 * V 0 1 ≤ j ∧ j < 18 * V 0 1 + u then mUa V ((j - 18 * V 0 1) / 6) ((j - 18 * V 0 1) % 6) (-1) else V 11 j) else if c = 12 then (fun j => if 18 * V 0 1 ≤ j ∧ j < 18 * V 0 1 + u then mUb V ((j - 18 * V 0 1) / 6) ((j - 18 * V 0 1) % 6) (-1) else V 12 j) else V c
def sLi (V : St) (d : Int) : St := vu (vu (liW V 18) 10 (V 0 1) d) 0 1 (V 0 1 + 1)
abbrev apQ (V : St) (h lk o : Int) : Prop := o = h ∨ (lk ≠ 0 ∧ V 2 o = V 2 h ∧ V 3 o = V 3 h)
def apW (V : St) (h d c lk i : Int) : St := lo (fun X o => if apQ V h lk o then sAd X o d 2 c else X) V i
def apN (V : St) (h lk i : Int) : Int := lo (fun x o => if apQ V h lk o then x + 1 else x) 0 i
def apF (V : St) (h lk : Int) : Prop := ∃ o, 0 ≤ o ∧ o < V 0 0 ∧ apQ V h lk o ∧ V 6 o = 12
def mBt (V : St) (y p : Int) : Int := lo (fun x h => x + mYr V h y * p / 365000) 0 (V 0 0)
def mLp (V : St) (y nd : Int) : Int := lo (fun x p => if x = -4 ∧ nd ≤ mBt V y p then p else x) (-4) 3001
def stW (V : St) (y nd p : Int) : St := vu (vu (vu V 13 y 1) 14 y p) 15 y nd
def stB (V : St) (y nd p i : Int) : St := lo (fun X h => vu X 16 (10 * h + y) (mYr V h y * p / 365000)) (stW V y nd p) i
def sSt (V : St) (y nd : Int) : St := stB V y nd (mLp V y nd) (V 0 0)
def sPa (V : St) (h y s : Int) : St := vu V 17 (10 * h + y) (V 17 (10 * h + y) + s)
def sSk (V : St) (h : Int) : St := vu V 6 h (V 6 h - 1)
theorem mFo_rng {V : St} (hV : Iv V) (k s out : Int) {i : Int} (h0 : 0 ≤ i) : lo (fun x h => if asked V k s out h ∧ rank V k s out h = (among V k s out - 1).tdiv 2 then h else x) (-1) i = -1 ∨ (0 ≤ lo (fun x h => if asked V k s out h ∧ rank V k s out h = (among V k s out - 1).tdiv 2 then h else x) (-1) i ∧ lo (fun x h => if asked V k s out h ∧ rank V k s out h = (among V k s out - 1).tdiv 2 then h else x) (-1) i < i) := by
  refine lo_inv (fun x j => x = -1 ∨ (0 ≤ x ∧ x < j)) h0 (Or.inl rfl) (fun x j a b hx => ?_)
  split
  · exact Or.inr ⟨a, by omega⟩
  · rcases hx with hx | hx
    · exact Or.inl hx
    · exact Or.inr ⟨hx.1, by omega⟩
theorem fFo_rng {V : St} (hV : Iv V) (k s out : Int) : fFo V k s out = -1 ∨ (0 ≤ fFo V k s out ∧ fFo V k s out < V 0 0) := by
  unfold fFo
  split
  · exact mFo_rng hV k (-1) out hV.n.1
  · exact mFo_rng hV k s out hV.n.1
theorem mLp_spec (V : St) (y nd : Int) {p : Int} (h0 : 0 ≤ p) (hp : p ≤ 3001) (hl : ∀ q, 0 ≤ q → q < p → mBt V y q < nd) : (p = 3001 → mLp V y nd = -4) ∧ (p ≤ 3000 → nd ≤ mBt V y p → mLp V y nd = p) := by
  have a : lo (fun x p => if x = -4 ∧ nd ≤ mBt V y p then p else x) (-4) p = -4 := lo_inv (fun x _ => x = -4) h0 rfl (fun x j h1 h2 hx => by
    show (if x = -4 ∧ nd ≤ mBt V y j then j else x) = -4
    have := hl j h1 h2
    rw [if_neg (by omega)]; exact hx)
  refine ⟨fun e => by subst e; exact a, fun h1 h2 => ?_⟩
  refine lo_inv2 (g := fun x p => if x = -4 ∧ nd ≤ mBt V y p then p else x) (a := -4) (i0 := p + 1) (i := 3001) (fun x _ => x = p) (by omega) (by omega) ?_ (fun x j h3 h4 hx => ?_)
  · rw [lo_s _ _ h0, a]
    show (if (-4 : Int) = -4 ∧ nd ≤ mBt V y p then p else -4) = p
    rw [if_pos ⟨rfl, h2⟩]
  · show (if x = -4 ∧ nd ≤ mBt V y j then j else x) = p
    rw [if_neg (by omega)]; exact hx
theorem mBt_rng {V : St} (hV : Iv V) {y p i : Int} (hp : 0 ≤ p ∧ p ≤ 3000) (h0 : 0 ≤ i) (h1 : i ≤ V 0 0) : 0 ≤ lo (fun x h => x + mYr V h y * p / 365000) 0 i ∧ lo (fun x h => x + mYr V h y * p / 365000) 0 i ≤ 6800000000 := by
  have q := lo_sum_rng (g := fun h => mYr V h y * p / 365000) (n := i) (B := 170000000) h0 (by omega) (fun j a b => bill_rng (mYr_rng hV a (by omega)) hp)
  have := hV.n
  omega
/-! the state stays one -/
theorem Iv.li {V : St} (h : Iv V) (u : Int) : Iv (liW V u) := by
  refine ⟨h.1, h.2.1, h.2.2.1, h.2.2.2.1, fun i w h0 h1 h2 h3 => ?_, h.2.2.2.2.2.1, h.2.2.2.2.2.2⟩
  have q := h.u h0 h1 h2 h3
  show (1 ≤ (if 18 * V 0 1 ≤ 18 * i + w ∧ 18 * i + w < 18 * V 0 1 + u then mUa V ((18 * i + w - 18 * V 0 1) / 6) ((18 * i + w - 18 * V 0 1) % 6) (-1) else V 11 (18 * i + w)) ∧ (if 18 * V 0 1 ≤ 18 * i + w ∧ 18 * i + w < 18 * V 0 1 + u then mUa V ((18 * i + w - 18 * V 0 1) / 6) ((18 * i + w - 18 * V 0 1) % 6) (-1) else V 11 (18 * i + w)) ≤ 100000) ∧ (1 ≤ (if 18 * V 0 1 ≤ 18 * i + w ∧ 18 * i + w < 18 * V 0 1 + u then mUb V ((18 * i + w - 18 * V 0 1) / 6) ((18 * i + w - 18 * V 0 1) % 6) (-1) else V 12 (18 * i + w)) ∧ (if 18 * V 0 1 ≤ 18 * i + w ∧ 18 * i + w < 18 * V 0 1 + u then mUb V ((18 * i + w - 18 * V 0 1) / 6) ((18 * i + w - 18 * V 0 1) % 6) (-1) else V 12 (18 * i + w)) ≤ 500)
  have h1' : i < V 0 1 := h1
  rw [if_neg (by omega), if_neg (by omega)]
  exact q
/-- an event more -/
theorem Iv.ad {V : St} (h : Iv V) {o d k v : Int} (h0 : 0 ≤ o) (h1 : o < V 0 0) (h6 : V 6 o < 12) (hd : 0 ≤ d ∧ d ≤ 3649) (hk : (k = 0 ∧ 1 ≤ v ∧ v ≤ 500) ∨ (k = 1 ∧ 0 ≤ v ∧ v ≤ 3) ∨ (k = 2 ∧ 1 ≤ v ∧ v ≤ 900)) : Iv (sAd V o d k v) := by
  have ho := h.h h0 h1
  refine ⟨h.1, fun i a b => ?_, fun i e a b c f => ?_, h.2.2.2.1, h.2.2.2.2.1, h.2.2.2.2.2.1, h.2.2.2.2.2.2⟩
  · have q := h.h a b
    show (0 ≤ V 1 i ∧ V 1 i ≤ 3) ∧ (0 ≤ V 2 i ∧ V 2 i ≤ 2) ∧ (0 ≤ V 3 i ∧ V 3 i ≤ 5) ∧ (1 ≤ V 4 i ∧ V 4 i ≤ 500) ∧ (0 ≤ V 5 i ∧ V 5 i ≤ 100000) ∧ (0 ≤ (if i = o then V 6 o + 1 else V 6 i) ∧ (if i = o then V 6 o + 1 else V 6 i) ≤ 12)
    by_cases z : i = o
    · rw [if_pos z]; omega
    · rw [if_neg z]; omega
  · have f' : e < (if i = o then V 6 o + 1 else V 6 i) := f
    show (0 ≤ (if 12 * i + e = 12 * o + V 6 o then d else V 7 (12 * i + e)) ∧ (if 12 * i + e = 12 * o + V 6 o then d else V 7 (12 * i + e)) ≤ 3649) ∧ (((if 12 * i + e = 12 * o + V 6 o then k else V 8 (12 * i + e)) = 0 ∧ 1 ≤ (if 12 * i + e = 12 * o + V 6 o then v else V 9 (12 * i + e)) ∧ (if 12 * i + e = 12 * o + V 6 o then v else V 9 (12 * i + e)) ≤ 500) ∨ ((if 12 * i + e = 12 * o + V 6 o then k else V 8 (12 * i + e)) = 1 ∧ 0 ≤ (if 12 * i + e = 12 * o + V 6 o then v else V 9 (12 * i + e)) ∧ (if 12 * i + e = 12 * o + V 6 o then v else V 9 (12 * i + e)) ≤ 3) ∨ ((if 12 * i + e = 12 * o + V 6 o then k else V 8 (12 * i + e)) = 2 ∧ 1 ≤ (if 12 * i + e = 12 * o + V 6 o then v else V 9 (12 * i + e)) ∧ (if 12 * i + e = 12 * o + V 6 o then v else V 9 (12 * i + e)) ≤ 900))
    by_cases z : 12 * i + e = 12 * o + V 6 o
    · rw [if_pos z, if_pos z, if_pos z]; exact ⟨hd, hk⟩
    · rw [if_neg z, if_neg z, if_neg z]
      have b' : i < V 0 0 := b
      have hi := h.h a b'
      refine h.e a b' c ?_
      by_cases y : i = o
      · subst y
        rw [if_pos rfl] at f'
        omega
      · rw [if_neg y] at f'
        exact f'
theorem sAd_0 (V : St) (h d k v : Int) (c : Nat) (hc : c ≤ 5) : sAd V h d k v c = V c := by
  unfold sAd
  rw [vu_n _ _ _ (by omega), vu_n _ _ _ (by omega), vu_n _ _ _ (by omega), vu_n _ _ _ (by omega)]
theorem sAd_6 (V : St) (h d k v o : Int) : sAd V h d k v 6 o = if o = h then V 6 h + 1 else V 6 o := rfl
/-- an appeal of all like, so far -/
theorem apW_inv {V : St} (hV : Iv V) {h d c lk i : Int} (hd : 0 ≤ d ∧ d ≤ 3649) (hc : 1 ≤ c ∧ c ≤ 900) (hF : ¬ apF V h lk) (h0 : 0 ≤ i) (h1 : i ≤ V 0 0) : Iv (apW V h d c lk i) ∧ (∀ k, k ≤ 5 → apW V h d c lk i k = V k) ∧ ∀ o, i ≤ o → apW V h d c lk i 6 o = V 6 o := by
  refine lo_inv (g := fun X o => if apQ V h lk o then sAd X o d 2 c else X) (fun X j => Iv X ∧ (∀ k, k ≤ 5 → X k = V k) ∧ ∀ o, j ≤ o → X 6 o = V 6 o) h0 ⟨hV, fun _ _ => rfl, fun _ _ => rfl⟩ (fun X j a b hX => ?_)
  show Iv (if apQ V h lk j then sAd X j d 2 c else X) ∧ (∀ k, k ≤ 5 → (if apQ V h lk j then sAd X j d 2 c else X) k = V k) ∧ ∀ o, j + 1 ≤ o → (if apQ V h lk j then sAd X j d 2 c else X) 6 o = V 6 o
  by_cases q : apQ V h lk j
  · rw [if_pos q]
    have e6 : X 6 j = V 6 j := hX.2.2 j (Int.le_refl _)
    have r6 := (hV.h a (by omega : j < V 0 0)).2.2.2.2.2
    have n6 : V 6 j ≠ 12 := fun z => hF ⟨j, a, by omega, q, z⟩
    have e0 : X 0 0 = V 0 0 := by rw [hX.2.1 0 (by omega)]
    refine ⟨hX.1.ad a (by omega) (by omega) hd (Or.inr (Or.inr ⟨rfl, hc⟩)), fun k hk => by rw [sAd_0 X j d 2 c k hk]; exact hX.2.1 k hk, fun o ho => ?_⟩
    rw [sAd_6, if_neg (by omega)]
    exact hX.2.2 o (by omega)
  · rw [if_neg q]
    exact ⟨hX.1, hX.2.1, fun o ho => hX.2.2 o (by omega)⟩
theorem liW_s {V : St} (hV : Iv V) {k t : Int} (hk : 0 ≤ k ∧ k < 3) (ht : 0 ≤ t ∧ t < 6) : vu (vu (liW V (6 * k + t)) 11 (18 * V 0 1 + 6 * k + t) (mUa V k t (-1))) 12 (18 * V 0 1 + 6 * k + t) (mUb V k t (-1)) = liW V (6 * k + t + 1) := by
  have hl := hV.l
  have e1 : (6 * k + t) / 6 = k := by omega
  have e2 : (6 * k + t) % 6 = t := by omega
  funext c j
  by_cases a : c = 12
  · subst a
    rw [vu_s]
    show (if j = 18 * V 0 1 + 6 * k + t then mUb V k t (-1) else if 18 * V 0 1 ≤ j ∧ j < 18 * V 0 1 + (6 * k + t) then mUb V ((j - 18 * V 0 1) / 6) ((j - 18 * V 0 1) % 6) (-1) else V 12 j) = if 18 * V 0 1 ≤ j ∧ j < 18 * V 0 1 + (6 * k + t + 1) then mUb V ((j - 18 * V 0 1) / 6) ((j - 18 * V 0 1) % 6) (-1) else V 12 j
    by_cases z : j = 18 * V 0 1 + 6 * k + t
    · rw [if_pos z, if_pos (by omega), show j - 18 * V 0 1 = 6 * k + t by omega, e1, e2]
    · rw [if_neg z]
      by_cases y : 18 * V 0 1 ≤ j ∧ j < 18 * V 0 1 + (6 * k + t)
      · rw [if_pos y, if_pos (by omega)]
      · rw [if_neg y, if_neg (by omega)]
  · rw [vu_n _ _ _ a]
    by_cases b : c = 11
    · subst b
      rw [vu_s]
      show (if j = 18 * V 0 1 + 6 * k + t then mUa V k t (-1) else if 18 * V 0 1 ≤ j ∧ j < 18 * V 0 1 + (6 * k + t) then mUa V ((j - 18 * V 0 1) / 6) ((j - 18 * V 0 1) % 6) (-1) else V 11 j) = if 18 * V 0 1 ≤ j ∧ j < 18 * V 0 1 + (6 * k + t + 1) then mUa V ((j - 18 * V 0 1) / 6) ((j - 18 * V 0 1) % 6) (-1) else V 11 j
      by_cases z : j = 18 * V 0 1 + 6 * k + t
      · rw [if_pos z, if_pos (by omega), show j - 18 * V 0 1 = 6 * k + t by omega, e1, e2]
      · rw [if_neg z]
        by_cases y : 18 * V 0 1 ≤ j ∧ j < 18 * V 0 1 + (6 * k + t)
        · rw [if_pos y, if_pos (by omega)]
        · rw [if_neg y, if_neg (by omega)]
    · rw [vu_n _ _ _ b]
      unfold liW
      rw [if_neg b, if_neg a, if_neg b, if_neg a]
theorem liW_0 (V : St) : liW V 0 = V := by
  funext c j
  unfold liW
  by_cases b : c = 11
  · subst b; rw [if_pos rfl]; show (if _ then _ else _) = _; rw [if_neg (by omega)]
  · rw [if_neg b]
    by_cases a : c = 12
    · subst a; rw [if_pos rfl]; show (if _ then _ else _) = _; rw [if_neg (by omega)]
    · rw [if_neg a]
/-- what a unit rests on isn't touched by a list -/
theorem lo_congr0 {α : Type} {g g' : α → Int → α} {a : α} {i : Int} (h : g = g') : lo g a i = lo g' a i := by rw [h]
theorem unit_li (V : St) (u k s out : Int) : mUa (liW V u) k s out = mUa V k s out ∧ mUb (liW V u) k s out = mUb V k s out := ⟨rfl, rfl⟩
/-- the reference, whatever its scratch holds -/
def MX (G : GG) (H : Heap) (ad : Nat → Nat) (V : St) : Prop := ∃ (fo am : Int) (ys : Int → Int), MW G H ad V fo am ys
