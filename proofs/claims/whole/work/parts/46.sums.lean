/-! the years' sums, as the class reads them -/
def yS (V : St) (f9 : Int → Nat) (N : Int → List Int) (y i : Int) : Int := if i < V 0 0 then yrO V (mkL V f9 i (N i)) i y else 0
def yI (V : St) (f9 : Int → Nat) (N : Int → List Int) (ys : Int → Int) (y n : Int) : Int → Int := fun j => if j < n then yS V f9 N y j else ys j
def bI (V : St) (f9 : Int → Nat) (N : Int → List Int) (y p n : Int) : Int → Int := fun j => if j < n then yS V f9 N y j * p / 365000 else blF V y j
theorem yI_st {V : St} {f9 : Int → Nat} {N : Int → List Int} {ys : Int → Int} {y n v : Int} (hv : v = yS V f9 N y n) (j : Int) : uf (yI V f9 N ys y n) n v j = yI V f9 N ys y (n + 1) j := by
  unfold uf yI
  by_cases e : j = n
  · rw [if_pos e, if_pos (by omega), hv, e]
  · rw [if_neg e]
    by_cases z : j < n
    · rw [if_pos z, if_pos (by omega)]
    · rw [if_neg z, if_neg (by omega)]
theorem bI_st {V : St} {f9 : Int → Nat} {N : Int → List Int} {y p n v : Int} (hv : v = yS V f9 N y n * p / 365000) (j : Int) : uf (bI V f9 N y p n) n v j = bI V f9 N y p (n + 1) j := by
  unfold uf bI
  by_cases e : j = n
  · rw [if_pos e, if_pos (by omega), hv, e]
  · rw [if_neg e]
    by_cases z : j < n
    · rw [if_pos z, if_pos (by omega)]
    · rw [if_neg z, if_neg (by omega)]
theorem bt_eq {V : St} (hV : Iv V) {f9 : Int → Nat} {N : Int → List Int} {y : Int} (hq : ∀ h, 0 ≤ h → h < V 0 0 → yrO V (mkL V f9 h (N h)) h y = mYr V h y) (p : Int) : bt (yS V f9 N y) p = mBt V y p := by
  have n := hV.n
  unfold bt mBt
  have a : lo (fun x i => x + yS V f9 N y i * p / 365000) 0 40 = lo (fun x i => x + yS V f9 N y i * p / 365000) 0 (V 0 0) := by
    refine lo_inv2 (g := fun x i => x + yS V f9 N y i * p / 365000) (a := 0) (i0 := V 0 0) (i := 40) (fun x _ => x = lo (fun x i => x + yS V f9 N y i * p / 365000) 0 (V 0 0)) n.1 n.2 rfl (fun x j h3 h4 hx => ?_)
    show x + yS V f9 N y j * p / 365000 = _
    have e : yS V f9 N y j = 0 := if_neg (by omega)
    rw [e, hx, Int.zero_mul, Int.zero_ediv, Int.add_zero]
  rw [a]
  refine lo_congr _ n.1 (fun x j h1 h2 => ?_)
  show x + yS V f9 N y j * p / 365000 = x + mYr V j y * p / 365000
  unfold yS
  rw [if_pos h2, hq j h1 h2]
theorem lp_eq {V : St} (hV : Iv V) {f9 : Int → Nat} {N : Int → List Int} {y : Int} (nd : Int) (hq : ∀ h, 0 ≤ h → h < V 0 0 → yrO V (mkL V f9 h (N h)) h y = mYr V h y) : lpO (yS V f9 N y) nd = mLp V y nd := by
  unfold lpO mLp
  refine lo_congr _ (by omega) (fun x j h1 h2 => ?_)
  show (if x = -4 ∧ nd ≤ bt (yS V f9 N y) j then j else x) = _
  rw [bt_eq hV hq]
theorem bl_eq {V : St} (hV : Iv V) {f9 : Int → Nat} {N : Int → List Int} {y nd : Int} (hy : 0 ≤ y ∧ y < 10) (hq : ∀ h, 0 ≤ h → h < V 0 0 → yrO V (mkL V f9 h (N h)) h y = mYr V h y) {j : Int} (h0 : 0 ≤ j) : bI V f9 N y (mLp V y nd) (V 0 0) j = blF (sSt V y nd) y j := by
  unfold bI blF
  rw [sSt_c hV y nd (c := 0) (by omega)]
  by_cases z : j < V 0 0
  · rw [if_pos z, if_pos z, sSt_16 hV hy hy h0, if_pos ⟨rfl, z⟩]
    unfold yS
    rw [if_pos z, hq j h0 z]
  · rw [if_neg z, if_neg z]
    exact (if_neg z).symm
