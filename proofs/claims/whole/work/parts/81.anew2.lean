/-! a year in both; the town grown anew in both -/
section YBOTH
variable {R m g m' : zM} {t : Int}
theorem TR_yr (hM : MK R) (hT : TR m g t) {Q : zP} (h1 : zfin (m (t + 1) 2) (m (t + 9) 0) (zwts m t) (zcas m t) (m (t + 11)) (zvas m t) Q) (hP : zPI (m (t + 1) 2) (m (t + 9) 0) Q) (hY : YR m m' t Q) (hlt : m t 3 < 24) : ∃ g' : zM, ev 273 0 [(2, 100), (9, 0), (9, 0)] [] R g = some ((9, 0), R, g') ∧ TR m' (zpr g' 100 (zrw (g' 100) 6 (m t 3 + 1))) t ∧ ME [103, 104, 110, 111, 112, 113, 124, 125, 126, 127, 128, 129] [7, 44, 45, 46] g g' ∧ (∀ p, 0 ≤ p → p < mN g → gU2 m t Q p = g' 103 p) ∧ gUs m t Q = mN g - zuses (mN g) (g' 103) 0 ∧ g' 100 44 = zcnt (fun s => decide (0 ≤ Q.1 s)) (m (t + 9) 0).toNat ∧ g' 100 45 = zcnt (gLv m t Q) (m (t + 9) 0).toNat ∧ g' 100 46 = gTx m t Q ∧ MV g' := by
  have hc := hT.2.2.2.2.1
  have h3 := hT.2.2.2.1
  have e4 := hT.2.2.2.2.2.2
  have enc := hT.2.2.1.2.1
  obtain ⟨g', Q', f2, -, a, hMY⟩ := tz_mgoYear (R := R) hM hT.1.2.1 hT.2.1 (TR_MQ hT) (TR_ow hT) (by rw [← e4]; omega)
  have eQ := TR_fin hT h1 f2
  subst eQ
  rw [RB_n hT.1, enc] at hP
  obtain ⟨⟨r1, r2, r3⟩, c4, l5, x6, u7, u8⟩ := TR_year hT hP f2 hY hMY
  obtain ⟨fM, M7, M44, M45, M46, MP, MSs⟩ := hMY
  have z : ∀ a : Int, a ≠ 100 → zpr g' 100 (zrw (g' 100) 6 (m t 3 + 1)) a = g' a := fun a h => zpr_ne h
  have k : ∀ k : Int, k ≠ 6 → zpr g' 100 (zrw (g' 100) 6 (m t 3 + 1)) 100 k = g' 100 k := fun k h => by rw [zpr_at, zrw_ne h]
  have hx := gTx_bd (TR_TG hT) (TR_SQ hT) Q'
  refine ⟨g', a, ⟨?_, ?_, ?_, ?_⟩, fM, u8, u7, M44, ?_, ?_, r1.2.1⟩
  · exact RB_c (fun _ _ _ => rfl) (k 0 (by decide)) (k 1 (by decide)) (z 101 (by decide)) (z 102 (by decide)) (z 103 (by decide)) r1
  · exact RW_c (fun _ _ _ => rfl) (k 8 (by decide)) (z 105 (by decide)) r2
  · exact RSe_c (fun _ _ _ => rfl) (k 0 (by decide)) (k 1 (by decide)) (k 10 (by decide)) (z 103 (by decide)) (z 104 (by decide)) (fun a q0 q1 => z a (by omega)) r3
  · unfold RYr
    rw [k 7 (by decide), zpr_at, zrw_at, ← c4, hY.2.2.1, hY.2.2.2.1]
    refine ⟨by omega, by omega, rfl, rfl⟩
  · rw [M45, enc, l5]
  · rw [M46, x6]
end YBOTH
section ANEW2
variable {R m : zM}
theorem AOk_c {mc w : zM} {a : Int} (h : ∀ b, 58 ≤ b → b ≤ 61 → mc b = m b) (h2 : ∀ b, 153 ≤ b → mc b = m b) (hA : AOk R m w a) : AOk R mc w a := by
  obtain ⟨h0, h1, h3, h4, h5, h6, h7, h8, h9, h10⟩ := hA
  refine ⟨h0, by rw [h 59 (by omega) (by omega)]; exact h1, by rw [h 60 (by omega) (by omega)]; exact h3, fun z => by rw [h 61 (by omega) (by omega)]; exact h4 z, h5, h6, h7, h8, fun z => by rw [h 61 (by omega) (by omega)]; exact h9 z, fun z => ?_⟩
  obtain ⟨q1, q2, q3, q4, q5⟩ := h10 z
  rw [h2 _ q1, h2 (R 62 a + 1) (by omega)]
  exact ⟨q1, q2, q3, q4, q5⟩
theorem TR_g6 {mc g : zM} {t y : Int} (h : TR mc g t) (e : g 100 6 = y) : TR mc (zpr g 100 (zrw (g 100) 6 y)) t := by
  have : zpr g 100 (zrw (g 100) 6 y) = g := by
    funext b
    by_cases h : b = 100
    · subst h
      rw [zpr_at]
      funext k
      rw [zrw_if]
      split
      next q => rw [q, e]
      next => rfl
    · rw [zpr_ne h]
  rw [this]
  exact h
theorem zc3_step (m : zM) {i : Int} (h : 0 ≤ i) : zc3 m (i + 1) = zc3 m i + if m 114 i = 3 then 1 else 0 := by
  unfold zc3
  rw [zcnt_step _ h]
  simp only [decide_eq_true_eq]
theorem zc3_le (m : zM) {i j : Int} (h : i ≤ j) : zc3 m i ≤ zc3 m j := by
  unfold zc3
  have : ∀ a b : Nat, a ≤ b → zcnt (fun b => decide (m 114 b = 3)) a ≤ zcnt (fun b => decide (m 114 b = 3)) b := by
    intro a b hab
    induction hab with
    | refl => exact Int.le_refl _
    | step h ih => simp only [zcnt]; split <;> omega
  exact this _ _ (by omega)
/-- what the model's growing anew leaves -/
def GR (m mc g c : zM) : Prop := (∀ b, b < 100 ∨ 152 < b → g b = c b) ∧ (∀ b, (106 ≤ b ∧ b ≤ 109) ∨ (114 ≤ b ∧ b ≤ 123) ∨ (131 ≤ b ∧ b ≤ 152) → g b = m b) ∧ (∃ f, ASF m f ∧ ASF g f) ∧ (∀ k, k ∉ [44, 45, 46, 49, 50] → g 100 k = m 100 k) ∧ FUp m mc g (m 100 6) ∧ MEp m mc g (m 100 6)
theorem GG_act {mc mc' g g' c : zM} {y i : Int} (hA : ARl R m m) (hi : 0 ≤ i ∧ i < m 100 19) (h : GG m mc g c y i) (e6 : g 100 6 = y) (hT : TR mc' g' 30) (hb : ∀ b, b < 100 ∨ 113 < b → g' b = g b) (hk : ∀ k, k ≠ 8 → k ≠ 10 → g' 100 k = g 100 k) (hS : ASk m g g' i) (h55 : mc' 55 = mc 55 ∧ mc' 56 = mc 56) : GG m mc' g' c y (i + 1) ∧ g' 100 6 = y := by
  obtain ⟨-, a1, a2, a3, ⟨s1, s2, s3, s4⟩, a5, a6, a7, a8⟩ := h
  have e6' : g' 100 6 = y := by rw [hk 6 (by decide) (by decide), e6]
  refine ⟨⟨TR_g6 hT e6', ?_, ?_, ?_, ?_, ?_, ?_, ?_, ?_⟩, e6'⟩
  · intro b h; rw [hb b (by omega)]; exact a1 b h
  · intro b h; rw [hb b (by omega)]; exact a2 b h
  · rw [hb 130 (by omega)]; exact a3
  · by_cases c3 : m 114 i = 3
    · obtain ⟨q1, q2, q3, q4, -⟩ := hS.1 c3
      obtain ⟨w1, w2, w3, w4⟩ := hA.2.2.2.2.2 i hi.1 hi.2 c3
      have self : ∀ (f : Int → Int) (k v : Int), f k = v → zrw f k v = f := fun f k v h => by
        funext q; rw [zrw_if]; split
        next e => rw [e, h]
        next => rfl
      rw [q1, q2, q3, q4, a6, s1, s2, s3, s4]
      exact ⟨self _ _ _ w1, self _ _ _ w2, self _ _ _ w3, self _ _ _ w4⟩
    · obtain ⟨q1, q2, q3, q4, -⟩ := hS.2 c3
      rw [q1, q2, q3, q4]; exact ⟨s1, s2, s3, s4⟩
  · intro k h
    rw [hk k (by intro e; subst e; simp at h) (by intro e; subst e; simp at h)]
    exact a5 k h
  · rw [zc3_step m hi.1]
    by_cases c3 : m 114 i = 3
    · rw [if_pos c3, (hS.1 c3).2.2.2.2, a6]
    · rw [if_neg c3, (hS.2 c3).2.2.2.2, a6, Int.add_zero]
  · unfold FUp at *
    rw [hk 49 (by decide) (by decide), h55.1]; exact a7
  · unfold MEp at *
    rw [hk 50 (by decide) (by decide), h55.2]; exact a8
theorem GG_year {mc mc' g g' c : zM} {y i : Int} {Q : zP} {u : Int} (hN : mN g = mN m) (hn64 : mN m ≤ 64) (hy : 0 ≤ y) (e3 : mc 30 3 = y) (en : mc 31 2 = mN m) (h : GG m mc g c y i) (hY : YR mc mc' 30 Q) (hT : TR mc' (zpr g' 100 (zrw (g' 100) 6 (y + 1))) 30) (hM : ME [103, 104, 110, 111, 112, 113, 124, 125, 126, 127, 128, 129] [7, 44, 45, 46] g g') (hU : ∀ p, 0 ≤ p → p < mN g → gU2 mc 30 Q p = g' 103 p) (hUs : gUs mc 30 Q = u) : GG m mc' (zpr g' 100 (zrw (zrw (g' 100) 49 (if zany (fun p => decide (g' 103 p ≠ g' 118 (64 * y + p))) (mN g').toNat = true ∧ g' 100 49 = -4 then y else g' 100 49)) 50 (zw (u - g' 119 (4 * y + 3))))) c (y + 1) i := by
  obtain ⟨-, a1, a2, a3, a4, a5, a6, a7, a8⟩ := h
  obtain ⟨hr, hk⟩ := hM
  have f : ∀ b : Int, b ∉ [103, 104, 110, 111, 112, 113, 124, 125, 126, 127, 128, 129] → b ≠ 100 → g' b = g b := hr
  have kk : ∀ k : Int, k ∉ [7, 44, 45, 46] → g' 100 k = g 100 k := hk
  have eN : mN g' = mN m := (mN_e (kk 0 (by decide)) (kk 1 (by decide))).trans hN
  have e118 : g' 118 = m 118 := by rw [f 118 (by decide) (by decide)]; exact a2 118 (by omega)
  have e119 : g' 119 = m 119 := by rw [f 119 (by decide) (by decide)]; exact a2 119 (by omega)
  have e49 : g' 100 49 = g 100 49 := kk 49 (by decide)
  obtain ⟨-, -, -, -, -, -, Yu, Yo, ⟨-, -, -, Yf⟩, -⟩ := hY
  have Yu : ∀ p, 0 ≤ p → p < mN m → mc' 55 (64 * y + p) = g' 103 p := by
    intro p p0 p1
    have := Yu p p0 (by rw [show (30 : Int) + 1 = 31 by decide, en]; exact p1)
    rw [show (30 : Int) + 25 = 55 by decide, e3] at this
    rw [this, hU p p0 (by rw [hN]; exact p1)]
  have Yo : ∀ y' p, y' < y → 0 ≤ p → p < mN m → mc' 55 (64 * y' + p) = mc 55 (64 * y' + p) := by
    intro y' p h p0 p1
    have := Yo (64 * y' + p) (by rw [e3]; omega)
    exact this
  have Yf : mc' 56 (4 * y + 3) = u := by
    rw [← hUs, ← Yf, e3]; rfl
  generalize hfu : (if zany (fun p => decide (g' 103 p ≠ g' 118 (64 * y + p))) (mN g').toNat = true ∧ g' 100 49 = -4 then y else g' 100 49) = fu
  have n : ∀ b : Int, b ≠ 100 → zpr g' 100 (zrw (zrw (g' 100) 49 fu) 50 (zw (u - g' 119 (4 * y + 3)))) b = g' b := fun b h => zpr_ne h
  have nk : ∀ k : Int, k ≠ 49 → k ≠ 50 → zpr g' 100 (zrw (zrw (g' 100) 49 fu) 50 (zw (u - g' 119 (4 * y + 3)))) 100 k = g' 100 k := fun k h1 h2 => by rw [zpr_at, zrw_ne h2, zrw_ne h1]
  have n49 : zpr g' 100 (zrw (zrw (g' 100) 49 fu) 50 (zw (u - g' 119 (4 * y + 3)))) 100 49 = fu := by rw [zpr_at, zrw_ne (by decide), zrw_at]
  have n50 : zpr g' 100 (zrw (zrw (g' 100) 49 fu) 50 (zw (u - g' 119 (4 * y + 3)))) 100 50 = zw (u - m 119 (4 * y + 3)) := by rw [zpr_at, zrw_at, e119]
  refine ⟨?_, ?_, ?_, ?_, ?_, ?_, ?_, ?_, ?_⟩
  · refine TR_c (fun _ _ _ => rfl) ⟨fun a q0 q1 => ?_, ?_, ?_, ?_, ?_, ?_, ?_⟩ hT
    · rw [zpr_ne (by omega), zpr_ne (by omega), zpr_ne (by omega)]
    all_goals simp (disch := decide) only [zpr_at, zrw_ne, zrw_at]
  · intro b h
    rw [n b (by omega), f b (by simp only [List.mem_cons, List.not_mem_nil, or_false, not_or]; omega) (by omega)]
    exact a1 b h
  · intro b h
    rw [n b (by omega), f b (by simp only [List.mem_cons, List.not_mem_nil, or_false, not_or]; omega) (by omega)]
    exact a2 b h
  · rw [n 130 (by decide), f 130 (by decide) (by decide)]; exact a3
  · rw [n 106 (by decide), n 107 (by decide), n 108 (by decide), n 109 (by decide), f 106 (by decide) (by decide), f 107 (by decide) (by decide), f 108 (by decide) (by decide), f 109 (by decide) (by decide)]
    exact a4
  · intro k h
    have h' := h
    simp only [List.mem_cons, List.not_mem_nil, or_false, not_or] at h'
    rw [nk k (by omega) (by omega), kk k (by simp only [List.mem_cons, List.not_mem_nil, or_false, not_or]; omega)]
    exact a5 k h
  · rw [nk 10 (by decide) (by decide), kk 10 (by decide)]; exact a6
  · unfold FUp
    rw [n49]
    have an : (zany (fun p => decide (g' 103 p ≠ g' 118 (64 * y + p))) (mN g').toNat = true) ↔ ∃ p, 0 ≤ p ∧ p < mN m ∧ mc' 55 (64 * y + p) ≠ m 118 (64 * y + p) := by
      rw [zany_iff, eN]
      constructor
      · rintro ⟨p, p0, p1, h⟩
        have p1 : p < mN m := by omega
        refine ⟨p, p0, p1, ?_⟩
        rw [Yu p p0 p1, ← e118]
        exact of_decide_eq_true h
      · rintro ⟨p, p0, p1, h⟩
        refine ⟨p, p0, by omega, ?_⟩
        rw [Yu p p0 p1, ← e118] at h
        exact decide_eq_true h
    rw [e49] at hfu
    rcases a7 with ⟨b1, b2⟩ | ⟨b1, ⟨p, p0, p1, b2⟩, b3⟩
    · by_cases c : zany (fun p => decide (g' 103 p ≠ g' 118 (64 * y + p))) (mN g').toNat = true
      · rw [if_pos ⟨c, b1⟩] at hfu
        subst hfu
        right
        refine ⟨by omega, an.1 c, fun y' p q0 q1 p0 p1 => ?_⟩
        rw [Yo y' p q1 p0 p1]
        exact b2 y' p q0 q1 p0 p1
      · rw [if_neg (fun z => c z.1), b1] at hfu
        subst hfu
        left
        refine ⟨rfl, fun y' p q0 q1 p0 p1 => ?_⟩
        by_cases e : y' = y
        · subst e
          exact Classical.byContradiction fun z => c (an.2 ⟨p, p0, p1, z⟩)
        · rw [Yo y' p (by omega) p0 p1]
          exact b2 y' p q0 (by omega) p0 p1
    · rw [if_neg (fun z => by omega)] at hfu
      subst hfu
      right
      refine ⟨by omega, ⟨p, p0, p1, by rw [Yo _ p b1.2 p0 p1]; exact b2⟩, fun y' p q0 q1 p0 p1 => ?_⟩
      rw [Yo y' p (by omega) p0 p1]
      exact b3 y' p q0 q1 p0 p1
  · unfold MEp
    rw [n50, if_neg (by omega), show y + 1 - 1 = y by omega, Yf]
end ANEW2
