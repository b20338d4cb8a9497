/-! the model: plots, laws that hold, worths -/
theorem z_em (c : Prop) : (¬ c ∨ c) = True := by simp [Classical.em, or_comm, Classical.or_iff_not_imp_left]
