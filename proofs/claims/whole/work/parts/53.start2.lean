/-! the class's world at its start -/
def V0 : St := fun _ _ => 0
def a0 (q sz : Nat) : Nat → Nat := fun k => if k = 0 then q else if k = 1 then sz else if k = 2 then sz + 1 else if k = 3 then sz + 2 else if k = 4 then sz + 3 else if k = 5 then sz + 5 else sz + 4
def f0 (sz : Nat) : Nat → Int → Nat := fun t y => if t = 6 then sz + (6 + 3 * y.toNat) else if t = 7 then sz + (6 + 3 * y.toNat) + 1 else sz + (6 + 3 * y.toNat) + 2
theorem V0_iv : Iv V0 := by
  have e : ∀ c i, c ≠ 16 → V0 c i = 0 := fun _ _ _ => rfl
  refine ⟨⟨⟨by rw [e _ _ (by omega)]; omega, by rw [e _ _ (by omega)]; omega⟩, by rw [e _ _ (by omega)]; omega, by rw [e _ _ (by omega)]; omega⟩, fun h a b => ?_, fun h e' a b => ?_, fun i a b => ?_, fun i u a b => ?_, fun y a b => ?_, fun h y _ _ _ _ => ?_⟩
  · rw [e _ _ (by omega)] at b; omega
  · rw [e _ _ (by omega)] at b; omega
  · rw [e _ _ (by omega)] at b; omega
  · rw [e _ _ (by omega)] at b; omega
  · rw [e _ _ (by omega), e _ _ (by omega), e _ _ (by omega)]; omega
  · exact ⟨Or.inr ⟨by show (0 : Int) ≤ 0; omega, by show (0 : Int) ≤ 200000000; omega⟩, by rw [e _ _ (by omega)]; omega⟩
theorem RW.start {G : GG} {H : Heap} {q sz : Nat} (hq : q < sz) (x0 : At G H q (eO 8 [.ref sz, .ref (sz + 2), .ref (sz + 5), .ref (sz + 4)])) (x1 : At G H sz (eO 5 [.ref (sz + 1), .int (J 0)])) (x2 : At G H (sz + 1) (eQ G 4 40 (fun _ => none))) (x3 : At G H (sz + 2) (eO 3 [.ref (sz + 3), .int (J 0)])) (x4 : At G H (sz + 3) (eQ G 5 10 (fun _ => none))) (x6 : At G H (sz + 4) (eL G 40 (fun _ => 0))) (x5 : At G H (sz + 5) (eQ G 7 10 (fun j => some (sz + (6 + 3 * j.toNat)))))
    (xb : ∀ j : Int, 0 ≤ j → j < 10 → At G H (sz + (6 + 3 * j.toNat)) (eO 7 [.ref (sz + (6 + 3 * j.toNat) + 1), .ref (sz + (6 + 3 * j.toNat) + 2), .int (J 0), .int (J 0), .int (J 0)]) ∧ At G H (sz + (6 + 3 * j.toNat) + 1) (eI G 40 (fun _ => -4)) ∧ At G H (sz + (6 + 3 * j.toNat) + 2) (eI G 40 (fun _ => 0))) (u : Nat → Int → Int) : RW G H (a0 q sz) (f0 sz) (fun _ => []) u (fun _ => 0) V0 := by
  have e : ∀ c i, c ≠ 16 → V0 c i = 0 := fun _ _ _ => rfl
  have e00 : V0 0 0 = 0 := rfl
  have e01 : V0 0 1 = 0 := rfl
  refine ⟨⟨V0_iv, x0, ⟨V0_iv, x1, eQ_congr (fun j a b => (if_neg (by rw [e00]; omega)).symm) x2, fun i p q => absurd q (by rw [e00]; omega)⟩, fun i p q => absurd q (by rw [e00]; omega), ⟨V0_iv, x3, eQ_congr (fun j a b => (if_neg (by rw [e01]; omega)).symm) x4, fun i p q => absurd q (by rw [e01]; omega), fun i p q => absurd q (by rw [e01]; omega), fun i w p q => absurd q (by rw [e01]; omega)⟩, x5, fun y p q => ⟨V0_iv, (xb y p q).1, eI_congr (fun j a b => (if_neg (by rw [e00]; omega)).symm) (xb y p q).2.1, (xb y p q).2.2⟩⟩, x6, fun i p q => absurd q (by rw [e00]; omega), ?_⟩
  have ad : ∀ t i, dom V0 t i → (t ≤ 6 ∧ i = 0 ∧ adr (a0 q sz) (f0 sz) t i = a0 q sz t) ∨ ((16 ≤ t ∧ t ≤ 18) ∧ (0 ≤ i ∧ i < 10) ∧ adr (a0 q sz) (f0 sz) t i = sz + (6 + 3 * i.toNat) + (t - 16)) := by
    intro t i hd
    rcases hd with z | z | z | z | z | z
    · exact Or.inl ⟨z.1, z.2, if_pos (by omega)⟩
    · rw [e00] at z; omega
    · rw [e01] at z; omega
    · rw [e01] at z; omega
    · refine Or.inr ⟨⟨z.1, z.2.1⟩, z.2.2, ?_⟩
      have : t = 16 ∨ t = 17 ∨ t = 18 := by omega
      rcases this with rfl | rfl | rfl <;> rfl
    · obtain ⟨-, h, e', z1, -⟩ := z
      rw [e00] at z1; omega
  have av : ∀ t, t ≤ 6 → a0 q sz t < sz + 6 := fun t ht => by
    unfold a0
    repeat' split
    all_goals omega
  have ai : ∀ t t', t ≤ 6 → t' ≤ 6 → a0 q sz t = a0 q sz t' → t = t' := fun t t' h1 h2 he => by
    unfold a0 at he
    repeat' split at he
    all_goals omega
  intro t i t' i' h1 h2 he
  rcases ad t i h1 with ⟨b1, c1, g1⟩ | ⟨b1, c1, g1⟩ <;> rcases ad t' i' h2 with ⟨b2, c2, g2⟩ | ⟨b2, c2, g2⟩
  · rw [g1, g2] at he; exact ⟨ai t t' b1 b2 he, by omega⟩
  · rw [g1, g2] at he; have := av t b1; omega
  · rw [g1, g2] at he; have := av t' b2; omega
  · rw [g1, g2] at he; exact ⟨by omega, by omega⟩
