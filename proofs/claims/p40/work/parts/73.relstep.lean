/-! what the relation depends on; single acts keep it -/
section RELS
variable {m w m' w' : zM} {t : Int}
theorem NV_c {o : Int} (h2 : m' o 2 = m o 2) (h0 : m' o 0 = m o 0) (h5 : m' (o + 5) = m (o + 5)) (h : NV m o) : NV m' o := by
  unfold NV NF at *
  rw [h2, h0, h5]
  exact h
end RELS
