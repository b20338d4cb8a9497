/-! what the relation depends on; single acts keep it -/
section RELS
variable {m w m' w' : zM} {t : Int}
theorem RB_c (hm : ∀ a, t + 1 ≤ a → a ≤ t + 6 → m' a = m a) (h0 : w' 100 0 = w 100 0) (h1 : w' 100 1 = w 100 1) (a1 : w' 101 = w 101) (a2 : w' 102 = w 102) (a3 : w' 103 = w 103) (h : RB m w t) : RB m' w' t := by
  unfold RB BV NV TV NF MV mN at *
  simp only [tn_1_1, tn_1_2, tn_1_3, tn_1_4, tn_1_5, tn_7_1, tn_9_1, tn_9_2, tn_9_3, tn_9_4, tn_9_5, tn_9_6, tn_9_7, tn_9_8, tn_9_9, tn_9_10, tn_9_11, tn_9_12, tn_9_13, tn_9_14, tn_9_15] at *
  rw [hm (t + 1) (by omega) (by omega), hm (t + 2) (by omega) (by omega), hm (t + 3) (by omega) (by omega), hm (t + 4) (by omega) (by omega), hm (t + 5) (by omega) (by omega), hm (t + 6) (by omega) (by omega), h0, h1, a1, a2, a3]
  exact h
theorem RW_c (hm : ∀ a, t + 7 ≤ a → a ≤ t + 8 → m' a = m a) (h8 : w' 100 8 = w 100 8) (a5 : w' 105 = w 105) (h : RW m w t) : RW m' w' t := by
  unfold RW ML at *
  rw [hm (t + 7) (by omega) (by omega), hm (t + 8) (by omega) (by omega), h8, a5]
  exact h
theorem RSe_c (hm : ∀ a, t + 9 ≤ a → a ≤ t + 17 → m' a = m a) (h0 : w' 100 0 = w 100 0) (h1 : w' 100 1 = w 100 1) (h10 : w' 100 10 = w 100 10) (a3 : w' 103 = w 103) (a4 : w' 104 = w 104) (hw : ∀ a, 106 ≤ a → a ≤ 113 → w' a = w a) (h : RSe m w t) : RSe m' w' t := by
  unfold RSe mN at *
  rw [hm (t + 9) (by omega) (by omega), hm (t + 10) (by omega) (by omega), hm (t + 11) (by omega) (by omega), hm (t + 12) (by omega) (by omega), hm (t + 13) (by omega) (by omega), hm (t + 14) (by omega) (by omega), hm (t + 15) (by omega) (by omega), hm (t + 16) (by omega) (by omega), hm (t + 17) (by omega) (by omega), h0, h1, h10, a3, a4, hw 106 (by omega) (by omega), hw 107 (by omega) (by omega), hw 108 (by omega) (by omega), hw 109 (by omega) (by omega), hw 110 (by omega) (by omega), hw 111 (by omega) (by omega), hw 112 (by omega) (by omega), hw 113 (by omega) (by omega)]
  exact h
theorem RYr_c (h3 : m' t 3 = m t 3) (h4 : m' t 4 = m t 4) (h6 : w' 100 6 = w 100 6) (h7 : w' 100 7 = w 100 7) (h : RYr m w t) : RYr m' w' t := by
  unfold RYr at *
  rw [h3, h4, h6, h7]
  exact h
/-- memories that are alike where the relation looks -/
def zqw (w w' : zM) : Prop := (∀ a, 101 ≤ a → a ≤ 113 → w' a = w a) ∧ w' 100 0 = w 100 0 ∧ w' 100 1 = w 100 1 ∧ w' 100 6 = w 100 6 ∧ w' 100 7 = w 100 7 ∧ w' 100 8 = w 100 8 ∧ w' 100 10 = w 100 10
theorem TR_c (hm : ∀ a, t ≤ a → a ≤ t + 17 → m' a = m a) (hw : zqw w w') (h : TR m w t) : TR m' w' t := by
  obtain ⟨hw, h0, h1, h6, h7, h8, h10⟩ := hw
  exact ⟨RB_c (fun a q0 q1 => hm a (by omega) (by omega)) h0 h1 (hw 101 (by omega) (by omega)) (hw 102 (by omega) (by omega)) (hw 103 (by omega) (by omega)) h.1, RW_c (fun a q0 q1 => hm a (by omega) (by omega)) h8 (hw 105 (by omega) (by omega)) h.2.1, RSe_c (fun a q0 q1 => hm a (by omega) (by omega)) h0 h1 h10 (hw 103 (by omega) (by omega)) (hw 104 (by omega) (by omega)) (fun a q0 q1 => hw a (by omega) (by omega)) h.2.2.1, RYr_c (by rw [hm t (by omega) (by omega)]) (by rw [hm t (by omega) (by omega)]) h6 h7 h.2.2.2⟩
theorem zqw_rf (w : zM) : zqw w w := ⟨fun _ _ _ => rfl, rfl, rfl, rfl, rfl, rfl, rfl⟩
theorem NV_c {o : Int} (h2 : m' o 2 = m o 2) (h0 : m' o 0 = m o 0) (h5 : m' (o + 5) = m (o + 5)) (h : NV m o) : NV m' o := by
  unfold NV NF at *
  rw [h2, h0, h5]
  exact h
theorem RB_ground (h : RB m w t) {p g : Int} (hp : 0 ≤ p ∧ p < mN w) (hg : 0 ≤ g ∧ g ≤ 2) : RB (zgput m (t + 1) p g) (zpr w 101 (zrw (w 101) p g)) t := by
  have en := RB_n h
  obtain ⟨⟨hB, hN, hT⟩, hV, e0, e1, hr⟩ := h
  have ok := zgput_ok hB hT (by rw [en]; exact hp) hg
  obtain ⟨r1, r0, r4, rr⟩ := zgput_rows m (t + 1) p g
  have n : ∀ a : Int, a ≠ 101 → zpr w 101 (zrw (w 101) p g) a = w a := fun a ha => zpr_ne ha
  refine ⟨⟨ok.1, NV_c (by rw [r0]; rfl) (by rw [r0]; rfl) (rr _ (by omega) (by omega) (by omega)) hN, ok.2⟩, ?_, ?_, ?_, ?_⟩
  · unfold MV mN at *
    rw [n 100 (by decide), n 102 (by decide), n 103 (by decide), zpr_at]
    refine ⟨hV.1, hV.2.1, fun q q0 q1 => ?_⟩
    have := hV.2.2 q q0 q1
    refine ⟨?_, this.2⟩
    rw [zrw_if]
    split
    · exact hg
    · exact this.1
  · rw [r0, n 100 (by decide)]; exact e0
  · rw [r0, n 100 (by decide)]; exact e1
  · intro q q0 q1
    rw [mN_e (by rw [n 100 (by decide)]) (by rw [n 100 (by decide)])] at q1
    have := hr q q0 q1
    rw [show t + 2 = t + 1 + 1 by omega, r1, rr (t + 3) (by omega) (by omega) (by omega), rr (t + 4) (by omega) (by omega) (by omega), n 102 (by decide), n 103 (by decide), zpr_at, zrw_if, zrw_if]
    refine ⟨?_, this.2⟩
    split
    · rfl
    · rw [show t + 1 + 1 = t + 2 by omega]; exact this.1
theorem TR_ground (h : TR m w t) {p g : Int} (hp : 0 ≤ p ∧ p < mN w) (hg : 0 ≤ g ∧ g ≤ 2) : TR (zgput m (t + 1) p g) (zpr w 101 (zrw (w 101) p g)) t := by
  obtain ⟨r1, r0, r4, rr⟩ := zgput_rows m (t + 1) p g
  have n : ∀ a : Int, a ≠ 101 → zpr w 101 (zrw (w 101) p g) a = w a := fun a ha => zpr_ne ha
  exact ⟨RB_ground h.1 hp hg, RW_c (fun a q0 q1 => rr a (by omega) (by omega) (by omega)) (by rw [n 100 (by decide)]) (n 105 (by decide)) h.2.1, RSe_c (fun a q0 q1 => rr a (by omega) (by omega) (by omega)) (by rw [n 100 (by decide)]) (by rw [n 100 (by decide)]) (by rw [n 100 (by decide)]) (n 103 (by decide)) (n 104 (by decide)) (fun a q0 q1 => n a (by omega)) h.2.2.1, RYr_c (by rw [rr t (by omega) (by omega) (by omega)]) (by rw [rr t (by omega) (by omega) (by omega)]) (by rw [n 100 (by decide)]) (by rw [n 100 (by decide)]) h.2.2.2⟩
/-- a height put on a board -/
def zhput (m : zM) (o p g : Int) : zM := zpr (zpr m (o + 2) (zrw (m (o + 2)) p g)) o (zrw (m o) 3 (m o 3 + 1))
theorem zhput_rows (m : zM) (o p g : Int) : zhput m o p g (o + 2) = zrw (m (o + 2)) p g ∧ zhput m o p g o = zrw (m o) 3 (m o 3 + 1) ∧ ∀ a, a ≠ o → a ≠ o + 2 → zhput m o p g a = m a := by
  unfold zhput
  refine ⟨?_, ?_, fun a h1 h2 => ?_⟩
  · rw [zpr_ne (by omega), zpr_at]
  · rw [zpr_at]
  · rw [zpr_ne h1, zpr_ne h2]
theorem TR_height (h : TR m w t) {p g : Int} (hp : 0 ≤ p ∧ p < mN w) (hg : 0 ≤ g ∧ g ≤ 9) : TR (zhput m (t + 1) p g) (zpr w 102 (zrw (w 102) p g)) t := by
  obtain ⟨r2, r0, rr⟩ := zhput_rows m (t + 1) p g
  have n : ∀ a : Int, a ≠ 102 → zpr w 102 (zrw (w 102) p g) a = w a := fun a ha => zpr_ne ha
  refine ⟨?_, RW_c (fun a q0 q1 => rr a (by omega) (by omega)) (by rw [n 100 (by decide)]) (n 105 (by decide)) h.2.1, RSe_c (fun a q0 q1 => rr a (by omega) (by omega)) (by rw [n 100 (by decide)]) (by rw [n 100 (by decide)]) (by rw [n 100 (by decide)]) (n 103 (by decide)) (n 104 (by decide)) (fun a q0 q1 => n a (by omega)) h.2.2.1, RYr_c (by rw [rr t (by omega) (by omega)]) (by rw [rr t (by omega) (by omega)]) (by rw [n 100 (by decide)]) (by rw [n 100 (by decide)]) h.2.2.2⟩
  have en := RB_n h.1
  obtain ⟨⟨hB, hN, hT⟩, hV, e0, e1, hr⟩ := h.1
  obtain ⟨z0, z1, z2⟩ := zrw3 (m (t + 1)) (m (t + 1) 3 + 1)
  refine ⟨⟨?_, NV_c (by rw [r0]; rfl) (by rw [r0]; rfl) (rr _ (by omega) (by omega)) hN, ?_⟩, ?_, ?_, ?_, ?_⟩
  · unfold BV at *
    rw [r0, z0, z1, z2, rr (t + 1 + 1) (by omega) (by omega), rr (t + 1 + 3) (by omega) (by omega), r2]
    refine ⟨hB.1, hB.2.1, hB.2.2.1, hB.2.2.2.1, hB.2.2.2.2.1, hB.2.2.2.2.2.1, hB.2.2.2.2.2.2.1, fun q h1 h2 => ?_⟩
    have := hB.2.2.2.2.2.2.2 q h1 h2
    refine ⟨this.1, ?_, this.2.2⟩
    rw [zrw_if]
    split
    · exact hg
    · exact this.2.1
  · unfold TV at *
    rw [r0, z2, rr (t + 1 + 1) (by omega) (by omega), rr (t + 1 + 3) (by omega) (by omega), rr (t + 1 + 4) (by omega) (by omega)]
    exact hT
  · unfold MV mN at *
    rw [n 100 (by decide), n 101 (by decide), n 103 (by decide), zpr_at]
    refine ⟨hV.1, hV.2.1, fun q q0 q1 => ?_⟩
    have := hV.2.2 q q0 q1
    refine ⟨this.1, ?_, this.2.2⟩
    rw [zrw_if]
    split
    · exact hg
    · exact this.2.1
  · rw [r0, n 100 (by decide)]; exact e0
  · rw [r0, n 100 (by decide)]; exact e1
  · intro q q0 q1
    rw [mN_e (by rw [n 100 (by decide)]) (by rw [n 100 (by decide)])] at q1
    have := hr q q0 q1
    rw [show t + 3 = t + 1 + 2 by omega, r2, rr (t + 2) (by omega) (by omega), rr (t + 4) (by omega) (by omega), n 101 (by decide), n 103 (by decide), zpr_at, zrw_if, zrw_if]
    refine ⟨this.1, ?_, this.2.2⟩
    split
    · rfl
    · rw [show t + 1 + 2 = t + 3 by omega]; exact this.2.1
/-- a use put: the owner leaves -/
theorem RB_use (h : RB m w t) {p u : Int} (hp : 0 ≤ p ∧ p < mN w) (hu : 0 ≤ u ∧ u ≤ 3) : RB (zuput m (t + 1) p u) (zpr w 103 (zrw (w 103) p u)) t := by
  have en := RB_n h
  obtain ⟨⟨hB, hN, hT⟩, hV, e0, e1, hr⟩ := h
  have ok := zuput_ok hB hT (by rw [en]; exact hp) hu
  obtain ⟨r3, r4, rr⟩ := zuput_rows m (t + 1) p u
  have n : ∀ a : Int, a ≠ 103 → zpr w 103 (zrw (w 103) p u) a = w a := fun a ha => zpr_ne ha
  refine ⟨⟨ok.1, NV_c (by rw [rr _ (by omega) (by omega)]) (by rw [rr _ (by omega) (by omega)]) (rr _ (by omega) (by omega)) hN, ok.2⟩, ?_, ?_, ?_, ?_⟩
  · unfold MV mN at *
    rw [n 100 (by decide), n 101 (by decide), n 102 (by decide), zpr_at]
    refine ⟨hV.1, hV.2.1, fun q q0 q1 => ?_⟩
    have := hV.2.2 q q0 q1
    refine ⟨this.1, this.2.1, ?_⟩
    rw [zrw_if]
    split
    · exact hu
    · exact this.2.2
  · rw [rr (t + 1) (by omega) (by omega), n 100 (by decide)]; exact e0
  · rw [rr (t + 1) (by omega) (by omega), n 100 (by decide)]; exact e1
  · intro q q0 q1
    rw [mN_e (by rw [n 100 (by decide)]) (by rw [n 100 (by decide)])] at q1
    have := hr q q0 q1
    rw [show t + 4 = t + 1 + 3 by omega, r3, rr (t + 2) (by omega) (by omega), rr (t + 3) (by omega) (by omega), n 101 (by decide), n 102 (by decide), zpr_at, zrw_if, zrw_if]
    refine ⟨this.1, this.2.1, ?_⟩
    split
    · rfl
    · rw [show t + 1 + 3 = t + 4 by omega]; exact this.2.2
/-- what the model does as it frees a plot -/
def zmfree (w : zM) (p : Int) : zM := if w 104 p = -4 then zpr w 104 (zrw (w 104) p (-4)) else zpr (zpr (zpr w 111 (zrw (w 111) (w 104 p) 1)) 110 (zrw (w 110) (w 104 p) (-4))) 104 (zrw (w 104) p (-4))
def zlvo (m : zM) (t r : Int) : zM := zpr (zpr m (t + 14) (zrw (m (t + 14)) r (-4))) (t + 15) (zrw (m (t + 15)) r 1)
theorem TR_use (h : TR m w t) {p u : Int} (hp : 0 ≤ p ∧ p < mN w) (hu : 0 ≤ u ∧ u ≤ 3) {m1 : zM} (h1 : ((∀ s, 0 ≤ s → s < m (t + 9) 0 → m (t + 14) s ≠ p) ∧ m1 = m) ∨ ∃ r, 0 ≤ r ∧ r < m (t + 9) 0 ∧ m (t + 14) r = p ∧ (∀ s, 0 ≤ s → s < r → m (t + 14) s ≠ p) ∧ m1 = zlvo m t r) : TR (zuput m1 (t + 1) p u) (zpr (zmfree w p) 103 (zrw (zmfree w p 103) p u)) t := by
  obtain ⟨hB, hW, hS, hY⟩ := h
  have en := RB_n hB
  obtain ⟨nc0, enc, hs, ho⟩ := id hS
  have m1f : ∀ a, a ≠ t + 14 → a ≠ t + 15 → m1 a = m a := by
    intro a a1 a2
    rcases h1 with ⟨-, e⟩ | ⟨r, -, -, -, -, e⟩
    · rw [e]
    · rw [e]; unfold zlvo; rw [zpr_ne a2, zpr_ne a1]
  have w1f : ∀ a, a ≠ 104 → a ≠ 110 → a ≠ 111 → zmfree w p a = w a := by
    intro a a1 a2 a3
    unfold zmfree
    split
    · rw [zpr_ne a1]
    · rw [zpr_ne a1, zpr_ne a2, zpr_ne a3]
  have B1 : RB m1 (zmfree w p) t := RB_c (fun a q0 q1 => m1f a (by omega) (by omega)) (by rw [w1f 100 (by decide) (by decide) (by decide)]) (by rw [w1f 100 (by decide) (by decide) (by decide)]) (w1f 101 (by decide) (by decide) (by decide)) (w1f 102 (by decide) (by decide) (by decide)) (w1f 103 (by decide) (by decide) (by decide)) hB
  have eN : mN (zmfree w p) = mN w := mN_e (by rw [w1f 100 (by decide) (by decide) (by decide)]) (by rw [w1f 100 (by decide) (by decide) (by decide)])
  have W1 : RW m1 (zmfree w p) t := RW_c (fun a q0 q1 => m1f a (by omega) (by omega)) (by rw [w1f 100 (by decide) (by decide) (by decide)]) (w1f 105 (by decide) (by decide) (by decide)) hW
  obtain ⟨r3, r4, rr⟩ := zuput_rows m1 (t + 1) p u
  have n : ∀ a : Int, a ≠ 103 → zpr (zmfree w p) 103 (zrw (zmfree w p 103) p u) a = zmfree w p a := fun a ha => zpr_ne ha
  refine ⟨RB_use B1 (by rw [eN]; exact hp) hu, RW_c (fun a q0 q1 => rr a (by omega) (by omega)) (by rw [n 100 (by decide)]) (n 105 (by decide)) W1, ?_, RYr_c (by rw [rr t (by omega) (by omega), m1f t (by omega) (by omega)]) (by rw [rr t (by omega) (by omega), m1f t (by omega) (by omega)]) (by rw [n 100 (by decide), w1f 100 (by decide) (by decide) (by decide)]) (by rw [n 100 (by decide), w1f 100 (by decide) (by decide) (by decide)]) hY⟩
  have k : ∀ a : Int, a ≠ 103 → a ≠ 104 → a ≠ 110 → a ≠ 111 → zpr (zmfree w p) 103 (zrw (zmfree w p 103) p u) a = w a := fun a a0 a1 a2 a3 => (n a a0).trans (w1f a a1 a2 a3)
  have km : ∀ a, t + 9 ≤ a → a ≤ t + 13 ∨ t + 16 ≤ a → zuput m1 (t + 1) p u a = m a := fun a a0 a1 => (rr a (by omega) (by omega)).trans (m1f a (by omega) (by omega))
  have eN2 : mN (zpr (zmfree w p) 103 (zrw (zmfree w p 103) p u)) = mN w := mN_e (by rw [k 100 (by decide) (by decide) (by decide) (by decide)]) (by rw [k 100 (by decide) (by decide) (by decide) (by decide)])
  unfold RSe
  rw [eN2, k 100 (by decide) (by decide) (by decide) (by decide), k 106 (by decide) (by decide) (by decide) (by decide), k 107 (by decide) (by decide) (by decide) (by decide), k 108 (by decide) (by decide) (by decide) (by decide), k 109 (by decide) (by decide) (by decide) (by decide), k 112 (by decide) (by decide) (by decide) (by decide), k 113 (by decide) (by decide) (by decide) (by decide), km (t + 9) (by omega) (by omega), km (t + 10) (by omega) (by omega), km (t + 11) (by omega) (by omega), km (t + 12) (by omega) (by omega), km (t + 13) (by omega) (by omega), km (t + 16) (by omega) (by omega), km (t + 17) (by omega) (by omega), rr (t + 14) (by omega) (by omega), rr (t + 15) (by omega) (by omega), n 104 (by decide), n 110 (by decide), n 111 (by decide), zpr_at, w1f 103 (by decide) (by decide) (by decide)]
  clear r3 r4 rr n k km W1 B1 m1f w1f eN eN2 hB hY hW
  refine ⟨nc0, enc, ?_⟩
  by_cases c : w 104 p = -4
  · have no : ∀ s, 0 ≤ s → s < w 100 10 → w 110 s ≠ p := by
      intro s s0 s1 e
      rcases (hs s s0 s1).2.2 with d | d
      · omega
      · rw [e, c] at d; omega
    have e1 : m1 = m := by
      rcases h1 with ⟨-, e⟩ | ⟨r, r0, r1, r2, -⟩
      · exact e
      · exfalso
        rw [enc] at r1
        have := (hs r r0 r1).2.1.2.2.2.2.1
        exact no r r0 r1 (by rw [← this]; exact r2)
    subst e1
    unfold zmfree
    rw [if_pos c, zpr_at, zpr_ne (by decide), zpr_ne (by decide)]
    have e4 : zrw (w 104) p (-4) = w 104 := by funext q; rw [zrw_if]; split <;> simp_all
    rw [e4]
    refine ⟨fun s s0 s1 => ?_, ho⟩
    obtain ⟨a, b, d⟩ := hs s s0 s1
    refine ⟨a, b, ?_⟩
    rcases d with d | ⟨d0, d1, d2, d3⟩
    · left; exact d
    · right
      refine ⟨d0, d1, d2, ?_⟩
      rw [zrw_ne (no s s0 s1)]
      exact d3
  · have ob : 0 ≤ w 104 p ∧ w 104 p < w 100 10 ∧ w 110 (w 104 p) = p := (ho p hp.1 hp.2).elim (fun d => absurd d c) (fun d => d)
    have e1 : m1 = zlvo m t (w 104 p) := by
      rcases h1 with ⟨q, -⟩ | ⟨r, r0, r1, r2, -, e⟩
      · exfalso
        have := (hs _ ob.1 ob.2.1).2.1.2.2.2.2.1
        exact q _ ob.1 (by rw [enc]; exact ob.2.1) (by rw [this]; exact ob.2.2)
      · rw [enc] at r1
        have q := (hs r r0 r1).2.1.2.2.2.2.1
        have : w 104 p = r := by
          rcases (hs r r0 r1).2.2 with d | d
          · omega
          · rw [← q, r2] at d; exact d.2.2.1
        rw [this]; exact e
    subst e1
    unfold zmfree zlvo
    rw [if_neg c, zpr_at, zpr_ne (show (110 : Int) ≠ 104 by decide), zpr_at, zpr_ne (show (111 : Int) ≠ 104 by decide), zpr_ne (show (111 : Int) ≠ 110 by decide), zpr_at, zpr_at, zpr_ne (show t + 14 ≠ t + 15 by omega), zpr_at]
    generalize hr : w 104 p = r at *
    refine ⟨fun s s0 s1 => ?_, ?_⟩
    · obtain ⟨a, ⟨b1, b2, b3, b4, b5, b6, b7, b8⟩, d⟩ := hs s s0 s1
      refine ⟨a, ⟨b1, b2, b3, b4, ?_, ?_, b7, b8⟩, ?_⟩
      · rw [zrw_if, zrw_if, b5]
      · rw [zrw_if, zrw_if, b6]
      · by_cases e : s = r
        · left; rw [e, zrw_at]
        · rw [zrw_ne e]
          rcases d with d | ⟨d0, d1, d2, d3⟩
          · left; exact d
          · right
            have : w 110 s ≠ p := fun z => by rw [z, hr] at d2; exact e d2.symm
            exact ⟨d0, d1, by rw [zrw_ne this]; exact d2, by rw [zrw_ne this]; exact d3⟩
    · intro q q0 q1
      by_cases e : q = p
      · left; rw [e, zrw_at]
      · rw [zrw_ne e]
        rcases ho q q0 q1 with d | ⟨d0, d1, d2⟩
        · left; exact d
        · right
          refine ⟨d0, d1, ?_⟩
          rw [zrw_ne]
          · exact d2
          · intro z; rw [z] at d2; exact e (d2.symm.trans ob.2.2)
end RELS
