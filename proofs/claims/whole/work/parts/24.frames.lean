/-! frames: what is new, and which of the old cells may have changed -/
def Fr (H H1 : Heap) (S : Nat → Prop) (k : Nat) : Prop := H1.size = H.size + k ∧ ∀ x : Nat, x < H.size → ¬ S x → H1[x]? = H[x]?
theorem Fr.rf {H : Heap} {S : Nat → Prop} : Fr H H S 0 := ⟨rfl, fun _ _ _ => rfl⟩
theorem Fr.x {H0 H H1 : Heap} {S : Nat → Prop} {k a : Nat} (h : Fr H0 H S k) (x : Hx H H1 a) (hs : a < H0.size → S a) : Fr H0 H1 S k :=
  ⟨x.1.trans h.1, fun q h1 h2 => (x.2 q (fun z => h2 (z ▸ hs (z ▸ h1)))).trans (h.2 q h1 h2)⟩
theorem Fr.n {H0 H H1 : Heap} {S : Nat → Prop} {k a : Nat} (h : Fr H0 H S k) (x : Hn H H1 a) : Fr H0 H1 S (k + 1) :=
  ⟨by rw [x.2.1, h.1]; omega, fun q h1 h2 => (x.2.2 q (by have := h.1; omega)).trans (h.2 q h1 h2)⟩
theorem Fr.f {H0 H H1 : Heap} {S S' : Nat → Prop} {k k' : Nat} (h : Fr H0 H S k) (x : Fr H H1 S' k') (hs : ∀ a, a < H0.size → S' a → S a) : Fr H0 H1 S (k + k') :=
  ⟨by rw [x.1, h.1]; omega, fun q h1 h2 => (x.2 q (by have := h.1; omega) (fun z => h2 (hs q h1 z))).trans (h.2 q h1 h2)⟩
theorem At.f {G : GG} {H H1 : Heap} {S : Nat → Prop} {k b : Nat} {e : va_E} (h : At G H b e) (x : Fr H H1 S k) (q : ¬ S b) : At G H1 b e := h.kept (x.2 b h.lt q)
theorem arrV_congr {cA : ClassId} {n : Nat} {f g : Nat → Value} (h : ∀ j, j < n → f j = g j) : arrV cA n f = arrV cA n g := by
  unfold arrV
  congr 1
  exact congrArg (fun q => Array.ofFn (n := n) q) (funext fun j => h j.val j.isLt)
theorem eQ_congr {G : GG} {H : Heap} {b k n : Nat} {f g : Int → Option Nat} (h : ∀ j : Int, 0 ≤ j → j < n → f j = g j) (x : At G H b (eQ G k n f)) : At G H b (eQ G k n g) := by
  show H[b]? = some (vp_cell _ _)
  rw [show H[b]? = some (vp_cell _ _) from x, vp_cell_q, vp_cell_q, arrV_congr (fun j hj => by rw [h j (by omega) (by omega)])]
theorem eI_congr {G : GG} {H : Heap} {b n : Nat} {f g : Int → Int} (h : ∀ j : Int, 0 ≤ j → j < n → f j = g j) (x : At G H b (eI G n f)) : At G H b (eI G n g) := by
  show H[b]? = some (vp_cell _ _)
  rw [show H[b]? = some (vp_cell _ _) from x, vp_cell_i, vp_cell_i, arrV_congr (fun j hj => by rw [h j (by omega) (by omega)])]
theorem eL_congr {G : GG} {H : Heap} {b n : Nat} {f g : Int → Int} (h : ∀ j : Int, 0 ≤ j → j < n → f j = g j) (x : At G H b (eL G n f)) : At G H b (eL G n g) := by
  show H[b]? = some (vp_cell _ _)
  rw [show H[b]? = some (vp_cell _ _) from x, vp_cell_l, vp_cell_l, arrV_congr (fun j hj => by rw [h j (by omega) (by omega)])]
