/-! tapes that agree up to their length read alike -/
section SAMEX
variable {f f' : Int → Int} {n : Int}
theorem zb_c (h : ∀ p, 0 ≤ p → p < n → f' p = f p) : zb f' n = zb f n := by
  funext p
  unfold zb
  by_cases c : 0 ≤ p ∧ p < n
  · rw [if_pos c, if_pos c, h p c.1 c.2]
  · rw [if_neg c, if_neg c]
theorem zlx_c (e : zb f' n = zb f n) : zlx f' n = zlx f n := by
  have eL : cL f' n = cL f n := by funext p; unfold cL; rw [e]
  have eF : cF f' n = cF f n := by funext p; unfold cF; rw [e]
  have eS : zsp f' n = zsp f n := by funext i s t; unfold zsp; rw [e]
  have eN : znm f' n = znm f n := by funext s t; unfold znm; rw [eS]
  funext s
  unfold zlx
  rw [eL, eF, eN, e]
theorem zsT_c (e : zb f' n = zb f n) : zsT f' n = zsT f n := by
  have el := zlx_c e
  have eB : cB f' n = cB f n := by funext p; unfold cB; rw [e]
  funext k
  induction k with
  | zero => simp only [zsT, eB]
  | succ k ih => simp only [zsT, ih, el, eB]
theorem pAll_c (h : ∀ p, 0 ≤ p → p < n → f' p = f p) : pAll f' n = pAll f n := by
  have e := zb_c h
  have el := zlx_c e
  have es := zsT_c e
  have ek : zkd f' n = zkd f n := by funext j; unfold zkd; rw [es, el]
  have ev : zva f' n = zva f n := by funext j; unfold zva; rw [es, el]
  have ej : zsj f' n = zsj f n := by funext j; unfold zsj; rw [es]
  have hF : pF f' n = pF f n := by funext j w; unfold pF; rw [ek, ej]
  have hW : pW f' n = pW f n := by funext j l u; unfold pW; rw [ek, ev, hF]
  have hN : pN f' n = pN f n := by funext j l u; unfold pN; rw [ek, ev, ej, hF]
  have hU : pNums f' n = pNums f n := by funext a j; unfold pNums; rw [hN, hW]
  have hH : pHd f' n = pHd f n := by funext j; unfold pHd; rw [ev, hN]
  have hT : pTl f' n = pTl f n := by funext nl L a fr j; unfold pTl; rw [hU, ek, ev, ej, hF]
  have hL : pLaw f' n = pLaw f n := by funext j nl L; unfold pLaw; rw [hH, hW, hT, ek, ev, ej, hF]
  funext k
  induction k with
  | zero => rfl
  | succ k ih => funext j nl L; simp only [pAll, hL, hF, ek, ev, ej, ih]
end SAMEX
