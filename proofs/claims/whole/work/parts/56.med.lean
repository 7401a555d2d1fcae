/-! counting -/
theorem cn_le {p q : Int → Prop} {dp : ∀ i, Decidable (p i)} {dq : ∀ i, Decidable (q i)} {n : Int} (hn : 0 ≤ n) (h : ∀ i, 0 ≤ i → i < n → p i → q i) : lo (fun x i => x + @pI (p i) (dp i)) 0 n ≤ lo (fun x i => x + @pI (q i) (dq i)) 0 n := by
  obtain ⟨k, rfl⟩ : ∃ k : Nat, n = (k : Int) := ⟨n.toNat, by omega⟩
  clear hn
  induction k with
  | zero => exact Int.le_refl _
  | succ k ih =>
    have e : ((k + 1 : Nat) : Int) = (k : Int) + 1 := by omega
    rw [e, lo_s _ _ (by omega), lo_s _ _ (by omega)]
    have w := ih (fun i a b => h i a (by omega))
    have z : @pI (p k) (dp k) ≤ @pI (q k) (dq k) := by
      unfold pI
      by_cases c : p k
      · rw [if_pos c, if_pos (h k (by omega) (by omega) c)]; exact Int.le_refl _
      · rw [if_neg c]; split <;> omega
    omega
theorem cn_lt {p q : Int → Prop} {dp : ∀ i, Decidable (p i)} {dq : ∀ i, Decidable (q i)} {n : Int} (hn : 0 ≤ n) (h : ∀ i, 0 ≤ i → i < n → p i → q i) {j : Int} (j0 : 0 ≤ j) (j1 : j < n) (hq : q j) (hp : ¬ p j) : lo (fun x i => x + @pI (p i) (dp i)) 0 n < lo (fun x i => x + @pI (q i) (dq i)) 0 n := by
  refine lo_inv2 (g := fun x i => x + @pI (q i) (dq i)) (a := 0) (i0 := j + 1) (i := n) (fun x k => lo (fun x i => x + @pI (p i) (dp i)) 0 k < x) (by omega) (by omega) ?_ (fun x k a b hx => ?_)
  · have w := cn_le (p := p) (q := q) (dp := dp) (dq := dq) (n := j) j0 (fun i a b => h i a (by omega))
    rw [lo_s _ _ j0, lo_s _ _ j0, pI_t hq, pI_f hp]
    omega
  · rw [lo_s _ _ (by omega)]
    have z : @pI (p k) (dp k) ≤ @pI (q k) (dq k) := by
      unfold pI
      by_cases c : p k
      · rw [if_pos c, if_pos (h k (by omega) (by omega) c)]; exact Int.le_refl _
      · rw [if_neg c]; split <;> omega
    omega
theorem cn_eq {p q : Int → Prop} {dp : ∀ i, Decidable (p i)} {dq : ∀ i, Decidable (q i)} {n : Int} (hn : 0 ≤ n) (h : ∀ i, 0 ≤ i → i < n → (p i ↔ q i)) : lo (fun x i => x + @pI (p i) (dp i)) 0 n = lo (fun x i => x + @pI (q i) (dq i)) 0 n := by
  have a := cn_le (dp := dp) (dq := dq) hn (fun i a b => (h i a b).mp)
  have b := cn_le (dp := dq) (dq := dp) hn (fun i a b => (h i a b).mpr)
  omega
theorem cn_0 {p : Int → Prop} {dp : ∀ i, Decidable (p i)} {n : Int} (hn : 0 ≤ n) (h : ∀ i, 0 ≤ i → i < n → ¬ p i) : lo (fun x i => x + @pI (p i) (dp i)) 0 n = 0 := by
  refine lo_inv (g := fun x i => x + @pI (p i) (dp i)) (fun x _ => x = 0) hn rfl (fun x k a b hx => ?_)
  show x + @pI (p k) (dp k) = 0
  rw [pI_f (h k a b)]; omega
theorem cn_one {p : Int → Prop} {dp : ∀ i, Decidable (p i)} {n : Int} (hn : 0 ≤ n) (h : ∀ i j, 0 ≤ i → i < n → 0 ≤ j → j < n → p i → p j → i = j) : lo (fun x i => x + @pI (p i) (dp i)) 0 n ≤ 1 := by
  by_cases c : ∃ j, (0 ≤ j ∧ j < n) ∧ p j
  · obtain ⟨j, hj, hp⟩ := c
    refine lo_inv2 (g := fun x i => x + @pI (p i) (dp i)) (a := 0) (i0 := j + 1) (i := n) (fun x _ => x ≤ 1) (by omega) (by omega) ?_ (fun x k a b hx => ?_)
    · rw [lo_s _ _ hj.1, cn_0 hj.1 (fun i a b q => by have := h i j a (by omega) hj.1 hj.2 q hp; omega), pI_t hp]
      omega
    · show x + @pI (p k) (dp k) ≤ 1
      rw [pI_f (fun q => by have := h k j (by omega) b hj.1 hj.2 q hp; omega)]
      omega
  · rw [cn_0 hn (fun i a b q => c ⟨i, ⟨a, b⟩, q⟩)]
    omega
theorem cn_add {p q r : Int → Prop} {dp : ∀ i, Decidable (p i)} {dq : ∀ i, Decidable (q i)} {dr : ∀ i, Decidable (r i)} {n : Int} (hn : 0 ≤ n) (h : ∀ i, 0 ≤ i → i < n → (r i ↔ p i ∨ q i) ∧ ¬ (p i ∧ q i)) : lo (fun x i => x + @pI (r i) (dr i)) 0 n = lo (fun x i => x + @pI (p i) (dp i)) 0 n + lo (fun x i => x + @pI (q i) (dq i)) 0 n := by
  refine lo_inv (g := fun x i => x + @pI (r i) (dr i)) (fun x k => x = lo (fun x i => x + @pI (p i) (dp i)) 0 k + lo (fun x i => x + @pI (q i) (dq i)) 0 k) hn rfl (fun x k a b hx => ?_)
  rw [lo_s _ _ a, lo_s _ _ a, hx]
  have w := h k a b
  have z : @pI (r k) (dr k) = @pI (p k) (dp k) + @pI (q k) (dq k) := by
    unfold pI
    by_cases c : p k
    · rw [if_pos c, if_pos (w.1.mpr (Or.inl c)), if_neg (fun d => w.2 ⟨c, d⟩)]; rfl
    · by_cases d : q k
      · rw [if_neg c, if_pos (w.1.mpr (Or.inr d)), if_pos d]; rfl
      · rw [if_neg c, if_neg (fun y => (w.1.mp y).elim c d), if_neg d]; rfl
  show _ + @pI (r k) (dr k) = _
  rw [z]; omega
/-- as many places as things, no two on one: each place has one -/
theorem cn_onto {p : Int → Prop} {dp : ∀ i, Decidable (p i)} {rk : Int → Int} {n : Int} (hn : 0 ≤ n) (hr : ∀ i, 0 ≤ i → i < n → p i → 0 ≤ rk i ∧ rk i < lo (fun x i => x + @pI (p i) (dp i)) 0 n) (hu : ∀ i j, 0 ≤ i → i < n → 0 ≤ j → j < n → p i → p j → rk i = rk j → i = j) {r : Int} (r0 : 0 ≤ r) (r1 : r < lo (fun x i => x + @pI (p i) (dp i)) 0 n) : ∃ i, (0 ≤ i ∧ i < n) ∧ p i ∧ rk i = r := by
  by_cases hc : ∃ i, (0 ≤ i ∧ i < n) ∧ p i ∧ rk i = r
  · exact hc
  exfalso
  have below : ∀ m : Nat, lo (fun x i => x + pI (p i ∧ rk i < (m : Int))) 0 n ≤ (m : Int) ∧ (r < (m : Int) → lo (fun x i => x + pI (p i ∧ rk i < (m : Int))) 0 n ≤ (m : Int) - 1) := by
    intro m
    induction m with
    | zero =>
      have z := cn_0 (p := fun i => p i ∧ rk i < ((0 : Nat) : Int)) (dp := fun i => inferInstance) hn (fun i a b q => by have := hr i a b q.1; have := q.2; omega)
      exact ⟨by omega, fun q => by omega⟩
    | succ m ih =>
      have z := cn_add (r := fun i => p i ∧ rk i < ((m + 1 : Nat) : Int)) (p := fun i => p i ∧ rk i < (m : Int)) (q := fun i => p i ∧ rk i = (m : Int)) (dr := fun i => inferInstance) (dp := fun i => inferInstance) (dq := fun i => inferInstance) hn (fun i a b => ⟨⟨fun q => by
        by_cases c : rk i = (m : Int)
        · exact Or.inr ⟨q.1, c⟩
        · exact Or.inl ⟨q.1, by have := q.2; omega⟩, fun q => by
        rcases q with q | q
        · exact ⟨q.1, by have := q.2; omega⟩
        · exact ⟨q.1, by have := q.2; omega⟩⟩, fun q => by have := q.1.2; have := q.2.2; omega⟩)
      have o := cn_one (p := fun i => p i ∧ rk i = (m : Int)) (dp := fun i => inferInstance) hn (fun i j a b c d x y => hu i j a b c d x.1 y.1 (by rw [x.2, y.2]))
      refine ⟨by omega, fun q => ?_⟩
      by_cases c : r = (m : Int)
      · have o0 := cn_0 (p := fun i => p i ∧ rk i = (m : Int)) (dp := fun i => inferInstance) hn (fun i a b x => hc ⟨i, ⟨a, b⟩, x.1, by rw [x.2, c]⟩)
        omega
      · have := ih.2 (by omega)
        omega
  have w := (below (lo (fun x i => x + @pI (p i) (dp i)) 0 n).toNat).2 (by omega)
  have e : lo (fun x i => x + pI (p i ∧ rk i < ((lo (fun x i => x + @pI (p i) (dp i)) 0 n).toNat : Int))) 0 n = lo (fun x i => x + @pI (p i) (dp i)) 0 n := cn_eq hn (fun i a b => ⟨fun q => q.1, fun q => ⟨q, by have := hr i a b q; omega⟩⟩)
  omega
/-! parts, crosswise -/
theorem crs {p1 q1 p2 q2 p3 q3 : Int} (h1 : 0 < q1) (h2 : 0 < q2) (h3 : 0 < q3) (a : p1 * q2 ≤ p2 * q1) (b : p2 * q3 ≤ p3 * q2) : p1 * q3 ≤ p3 * q1 ∧ (p1 * q3 = p3 * q1 → p1 * q2 = p2 * q1 ∧ p2 * q3 = p3 * q2) := by
  have a2 : p1 * q2 * q3 ≤ p2 * q1 * q3 := Int.mul_le_mul_of_nonneg_right a (by omega)
  have b2 : p2 * q3 * q1 ≤ p3 * q2 * q1 := Int.mul_le_mul_of_nonneg_right b (by omega)
  have e1 : p1 * q2 * q3 = q2 * (p1 * q3) := by rw [Int.mul_comm p1 q2, Int.mul_assoc]
  have e2 : p2 * q1 * q3 = p2 * q3 * q1 := Int.mul_right_comm p2 q1 q3
  have e3 : p3 * q2 * q1 = q2 * (p3 * q1) := by rw [Int.mul_comm p3 q2, Int.mul_assoc]
  refine ⟨Int.le_of_mul_le_mul_left (by omega : q2 * (p1 * q3) ≤ q2 * (p3 * q1)) h2, fun h => ?_⟩
  have h' : q2 * (p1 * q3) = q2 * (p3 * q1) := by rw [h]
  have w1 : p1 * q2 * q3 = p2 * q1 * q3 := by omega
  have w2 : p2 * q3 * q1 = p3 * q2 * q1 := by omega
  exact ⟨Int.eq_of_mul_eq_mul_right (by omega) w1, Int.eq_of_mul_eq_mul_right (by omega) w2⟩
theorem less_tr {V : St} {a b c : Int} (h1 : 0 < V 4 a) (h2 : 0 < V 4 b) (h3 : 0 < V 4 c) (x : less V a b) (y : less V b c) : less V a c := by
  have q := crs (p1 := V 5 a) (p2 := V 5 b) (p3 := V 5 c) h1 h2 h3 (by rcases x with x | x <;> omega) (by rcases y with y | y <;> omega)
  by_cases z : V 5 a * V 4 c = V 5 c * V 4 a
  · have w := q.2 z
    exact Or.inr ⟨z, by rcases x with x | x <;> rcases y with y | y <;> omega⟩
  · exact Or.inl (by omega)
theorem less_irr {V : St} {a : Int} : ¬ less V a a := by
  intro h
  rcases h with h | h <;> omega
theorem less_tot {V : St} {a b : Int} (h : a ≠ b) : less V a b ∨ less V b a := by
  by_cases z : V 5 a * V 4 b = V 5 b * V 4 a
  · by_cases y : a < b
    · exact Or.inl (Or.inr ⟨z, y⟩)
    · exact Or.inr (Or.inr ⟨z.symm, by omega⟩)
  · by_cases y : V 5 a * V 4 b < V 5 b * V 4 a
    · exact Or.inl (Or.inl y)
    · exact Or.inr (Or.inl (by omega))
theorem rank_lt {V : St} (hV : Iv V) {k s out a b : Int} (a0 : 0 ≤ a) (a1 : a < V 0 0) (b0 : 0 ≤ b) (b1 : b < V 0 0) (ha : asked V k s out a) (h : less V a b) : rank V k s out a < rank V k s out b :=
  cn_lt hV.n.1 (fun i i0 i1 q => ⟨q.1, less_tr (by have := hV.h i0 i1; omega) (by have := hV.h a0 a1; omega) (by have := hV.h b0 b1; omega) q.2 h⟩) a0 a1 ⟨ha, h⟩ (fun q => less_irr q.2)
theorem rank_inj {V : St} (hV : Iv V) {k s out a b : Int} (a0 : 0 ≤ a) (a1 : a < V 0 0) (b0 : 0 ≤ b) (b1 : b < V 0 0) (ha : asked V k s out a) (hb : asked V k s out b) (h : rank V k s out a = rank V k s out b) : a = b := by
  by_cases c : a = b
  · exact c
  · rcases less_tot (V := V) c with q | q
    · have := rank_lt hV (k := k) (s := s) (out := out) a0 a1 b0 b1 ha q
      omega
    · have := rank_lt hV (k := k) (s := s) (out := out) b0 b1 a0 a1 hb q
      omega
theorem rank_am {V : St} (hV : Iv V) {k s out a : Int} (a0 : 0 ≤ a) (a1 : a < V 0 0) (ha : asked V k s out a) : rank V k s out a < among V k s out :=
  cn_lt hV.n.1 (fun i i0 i1 q => q.1) a0 a1 ha (fun q => less_irr q.2)
theorem med {V : St} (hV : Iv V) (k s out : Int) (h : among V k s out ≠ 0) : ∃ i, (0 ≤ i ∧ i < V 0 0) ∧ asked V k s out i ∧ rank V k s out i = (among V k s out - 1).tdiv 2 := by
  have g := among_rng hV k s out
  have e : (among V k s out - 1).tdiv 2 = (among V k s out - 1) / 2 := Int.tdiv_eq_ediv_of_nonneg (by omega)
  rw [e]
  exact cn_onto hV.n.1 (fun i a b q => ⟨(rank_rng hV k s out i).1, rank_am hV a b q⟩) (fun i j a b c d x y z => rank_inj hV a b c d x y z) (by omega) (by show _ < among V k s out; omega)
theorem med0 {V : St} (hV : Iv V) {k s out i : Int} (h : among V k s out = 0) (h0 : 0 ≤ i) (h1 : i < V 0 0) : ¬ asked V k s out i := by
  intro q
  have w := cn_lt (p := fun _ => False) (q := fun i => asked V k s out i) (dp := fun _ => inferInstance) (dq := fun _ => inferInstance) hV.n.1 (fun i _ _ q => q.elim) h0 h1 q (fun q => q)
  have := cn_0 (p := fun _ => False) (dp := fun _ => inferInstance) hV.n.1 (fun _ _ _ q => q)
  unfold among at h
  omega
theorem mFo_0 {V : St} (hV : Iv V) {k s out : Int} (h : among V k s out = 0) : mFo V k s out = -1 := by
  unfold mFo
  exact lo_inv (g := fun x h => if asked V k s out h ∧ rank V k s out h = (among V k s out - 1).tdiv 2 then h else x) (fun x _ => x = -1) hV.n.1 rfl (fun x j a b hx => by
    show (if asked V k s out j ∧ rank V k s out j = (among V k s out - 1).tdiv 2 then j else x) = -1
    rw [if_neg (fun q => med0 hV h a b q.1)]; exact hx)
theorem mid_0 {V : St} (hV : Iv V) {k s out r : Int} (h : among V k s out = 0) : mid V k s out r = none :=
  lo_inv (g := gMid V k s out r) (fun x _ => x = none) hV.n.1 rfl (fun x j a b hx => by
    unfold gMid
    rw [if_neg (fun q => med0 hV h a b q.2.1)]; exact hx)
theorem mid_1 {V : St} (hV : Iv V) {k s out r i : Int} (h0 : 0 ≤ i) (h1 : i < V 0 0) (h : asked V k s out i) (hr : rank V k s out i = r) : mid V k s out r = some i := by
  refine mid_hit h0 h1 ?_ ⟨h, hr⟩
  rw [lo_gdi h0 (by omega)]
  exact lo_inv (g := gMid V k s out r) (fun x _ => x = none) h0 rfl (fun x j a b hx => by
    unfold gMid
    rw [if_neg (fun q => by
      have := rank_inj hV a (by omega) h0 h1 q.2.1 h (by rw [q.2.2, hr])
      omega)]; exact hx)
theorem mFo_1 {V : St} (hV : Iv V) {k s out i : Int} (h0 : 0 ≤ i) (h1 : i < V 0 0) (h : asked V k s out i) (hr : rank V k s out i = (among V k s out - 1).tdiv 2) : mFo V k s out = i := by
  unfold mFo
  refine lo_inv2 (g := fun x h => if asked V k s out h ∧ rank V k s out h = (among V k s out - 1).tdiv 2 then h else x) (a := -1) (i0 := i + 1) (i := V 0 0) (fun x _ => x = i) (by omega) (by omega) ?_ (fun x j a b hx => ?_)
  · rw [lo_s _ _ h0]
    exact if_pos ⟨h, hr⟩
  · show (if asked V k s out j ∧ rank V k s out j = (among V k s out - 1).tdiv 2 then j else x) = i
    rw [if_neg (fun q => by
      have := rank_inj hV (by omega) b h0 h1 q.1 h (by rw [q.2, hr])
      omega)]; exact hx
/-- both find the same one -/
theorem un_both {V : St} (hV : Iv V) (k s out : Int) : (unM V k s out = none ∧ fFo V k s out = -1 ∧ fAm V k s out = 0) ∨ ∃ i, (0 ≤ i ∧ i < V 0 0) ∧ unM V k s out = some i ∧ fFo V k s out = i ∧ fAm V k s out = unR V k s out := by
  by_cases c : among V k s out = 0
  · have m0 := mFo_0 hV c
    have u := unM_0 c
    by_cases d : among V k (-1) out = 0
    · refine Or.inl ⟨by rw [u.1]; exact mid_0 hV d, ?_, ?_⟩
      · unfold fFo; rw [m0, if_pos (by omega)]; exact mFo_0 hV d
      · unfold fAm; rw [m0, if_pos (by omega)]; exact d
    · obtain ⟨i, hi, ha, hr⟩ := med hV k (-1) out d
      refine Or.inr ⟨i, hi, by rw [u.1]; exact mid_1 hV hi.1 hi.2 ha hr, ?_, ?_⟩
      · unfold fFo; rw [m0, if_pos (by omega)]; exact mFo_1 hV hi.1 hi.2 ha hr
      · unfold fAm; rw [m0, if_pos (by omega), u.2]
  · obtain ⟨i, hi, ha, hr⟩ := med hV k s out c
    have u := unM_1 c
    have m1 := mFo_1 hV hi.1 hi.2 ha hr
    refine Or.inr ⟨i, hi, by rw [u.1]; exact mid_1 hV hi.1 hi.2 ha hr, ?_, ?_⟩
    · unfold fFo; rw [m1, if_neg (by omega)]
    · unfold fAm; rw [m1, if_neg (by omega), u.2]
theorem eq_ua {V : St} (hV : Iv V) (k s out : Int) : unA V k s out = mUa V k s out ∧ unB V k s out = mUb V k s out := by
  unfold unA unB mUa mUb
  rcases un_both hV k s out with h | ⟨i, hi, h1, h2, h3⟩
  · rw [h.1, h.2.1]; exact ⟨rfl, rfl⟩
  · rw [h1, h2, if_neg (by omega), if_neg (by omega)]; exact ⟨rfl, rfl⟩
theorem eq_uc {V : St} (hV : Iv V) (k s out : Int) : unC V k s out = fAm V k s out ∧ unD V k s out = if fFo V k s out < 0 then -4 else fFo V k s out := by
  unfold unC unD
  rcases un_both hV k s out with h | ⟨i, hi, h1, h2, h3⟩
  · rw [h.1, h.2.1, h.2.2]; exact ⟨rfl, rfl⟩
  · rw [h1, h2, h3, if_neg (by omega)]; exact ⟨rfl, rfl⟩
theorem eq_te {V : St} (hV : Iv V) (z k s out : Int) : (if fFo V k s out < 0 then 10 * z else z * V 5 (fFo V k s out) / V 4 (fFo V k s out)) = z * unA V k s out / unB V k s out := by
  unfold unA unB
  rcases un_both hV k s out with h | ⟨i, hi, h1, h2, h3⟩
  · rw [h.1, h.2.1, if_pos (by omega)]
    show 10 * z = z * 10 / 1
    omega
  · rw [h1, h2, if_neg (by omega)]
