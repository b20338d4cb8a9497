/-! calls that are acts: what is kept of one more -/
section ACTS4
variable {R R' m x : zM} {a k S0 K : Int}
theorem zkeep_rows (m : zM) (k y p v : Int) : zkeep m k y p v 59 = zrw (m 59) (m 58 0) k ∧ zkeep m k y p v 60 = zrw (m 60) (m 58 0) y ∧ zkeep m k y p v 58 = zrw (m 58) 0 (m 58 0 + 1) ∧ zkeep m k y p v 61 = zrw (zrw (m 61) (4 * m 58 0) p) (4 * m 58 0 + 1) v ∧ ∀ b, b < 58 ∨ 61 < b → zkeep m k y p v b = m b := by
  unfold zkeep
  refine ⟨?_, ?_, ?_, zpr_at _ _ _, fun b hb => by rw [zpr_ne (by omega), zpr_ne (by omega), zpr_ne (by omega), zpr_ne (by omega)]⟩ <;> simp (disch := decide) only [zpr_ne, zpr_at]
end ACTS4
