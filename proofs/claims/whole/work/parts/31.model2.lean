def inH (V : St) (h dd t : Int) : Int → Int → Int := fun w j => if V 8 (12 * h + j) = 2 ∧ V 7 (12 * h + j) = dd ∧ dd ≤ t then w * (1000 - V 9 (12 * h + j)) / 1000 else w
theorem inH_in {V : St} {h dd t w : Int} (hn : 0 ≤ V 6 h) (hd : dd ≤ t) : lo (inH V h dd t) w (V 6 h) = inn V h dd w := lo_congr w hn (fun x j _ _ => by
  unfold inH inG
  by_cases q : V 8 (12 * h + j) = 2 ∧ V 7 (12 * h + j) = dd
  · rw [if_pos q, if_pos ⟨q.1, q.2, hd⟩]
  · rw [if_neg q, if_neg (fun z => q ⟨z.1, z.2.1⟩)])
theorem inH_out {V : St} {h dd t w : Int} (hn : 0 ≤ V 6 h) (hd : t < dd) : lo (inH V h dd t) w (V 6 h) = w := lo_stay (g := inH V h dd t) w (i := 0) (j := V 6 h) (Int.le_refl _) hn (fun x j _ _ => by unfold inH; rw [if_neg (fun z => by omega)])
theorem inH_rng {V : St} (hV : Iv V) {h dd t w j : Int} (h0 : 0 ≤ h) (h1 : h < V 0 0) (hw : 0 ≤ w ∧ w ≤ 50000000) (j0 : 0 ≤ j) (j1 : j ≤ V 6 h) : 0 ≤ lo (inH V h dd t) w j ∧ lo (inH V h dd t) w j ≤ 50000000 := by
  refine lo_inv (fun x _ => 0 ≤ x ∧ x ≤ 50000000) j0 hw (fun x j a b hx => ?_)
  unfold inH
  split
  · rename_i q
    have r := hV.e h0 h1 a (by omega)
    have m := mulb (a := x) (b := 1000 - V 9 (12 * h + j)) (A := 50000000) (B := 1000) hx.1 hx.2 (by omega) (by omega)
    omega
  · exact hx
theorem wstep {V : St} (hV : Iv V) {h f w0 w dd t : Int} (h0 : 0 ≤ h) (h1 : h < V 0 0) (hf : f ≤ dd) (hd : dd ≤ t) (hw : w = wUp V h f w0 (if dd ≤ t + 1 then dd else t + 1)) : lo (inH V h (mNc V h dd t) t) w (V 6 h) = wUp V h f w0 (if mNc V h dd t + 1 ≤ t + 1 then mNc V h dd t + 1 else t + 1) := by
  have hn := (hV.h h0 h1).2.2.2.2.2.1
  have hr := nc_rng hV (f := dd) (t := t) h0 h1 (by omega) hn (Int.le_refl _)
  rw [show lo (ncG V h dd) (t + 1) (V 6 h) = mNc V h dd t from rfl] at hr
  rw [if_pos (by omega)] at hw
  have sk := wUp_skip (V := V) (h := h) (f := f) (w := w0) (d := dd) (d1 := mNc V h dd t) hn hf hr.1 (fun j a b c e => nc_spec hn a b c e)
  by_cases q : mNc V h dd t ≤ t
  · rw [if_pos (by omega), inH_in hn q, wUp_s (by omega), sk, hw]
  · rw [if_neg (by omega), inH_out hn (by omega), hw, ← sk, show mNc V h dd t = t + 1 by omega]
theorem mUs_pos {V : St} {h d : Int} (hu : mUs V h d ≠ 0) : 0 ≤ mCo V h d 1 := by
  unfold mUs at hu
  by_cases q : mCo V h d 1 < 0
  · rw [if_pos q] at hu; omega
  · omega
theorem wUp_0 (V : St) (h f w : Int) : wUp V h f w f = w := by unfold wUp; rw [Int.sub_self]; rfl
theorem if_neg_or {a b t : Int} (h : ¬ (a ≤ t) ∨ a = t) (hb : b = t) : (if a ≤ b then a else b) = t := by subst hb; split <;> omega
