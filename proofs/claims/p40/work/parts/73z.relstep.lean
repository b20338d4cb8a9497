/-! what the relation depends on; single acts keep it -/
section RELS
variable {m w m' w' : zM} {t : Int}
def zhput (m : zM) (o p g : Int) : zM := zpr (zpr m (o + 2) (zrw (m (o + 2)) p g)) o (zrw (m o) 3 (m o 3 + 1))
theorem zhput_rows (m : zM) (o p g : Int) : zhput m o p g (o + 2) = zrw (m (o + 2)) p g ∧ zhput m o p g o = zrw (m o) 3 (m o 3 + 1) ∧ ∀ a, a ≠ o → a ≠ o + 2 → zhput m o p g a = m a := by
  unfold zhput
  refine ⟨?_, ?_, fun a h1 h2 => ?_⟩
  · rw [zpr_ne (by omega), zpr_at]
  · rw [zpr_at]
  · rw [zpr_ne h1, zpr_ne h2]
end RELS
