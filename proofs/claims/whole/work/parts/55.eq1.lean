/-! what the class answers is what the reference answers -/
theorem eq_sy (V : St) : mSy V = syO V := by
  unfold mSy syO
  refine lo_congr _ (by omega) (fun x j _ _ => ?_)
  show x + pI (V 13 j ≠ 0) = if V 13 j ≠ 0 then x + 1 else x
  by_cases z : V 13 j ≠ 0
  · rw [pI_t z, if_pos z]
  · rw [pI_f z, if_neg z]; omega
