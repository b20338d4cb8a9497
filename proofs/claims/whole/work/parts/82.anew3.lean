/-! the town grown anew: the loops -/
section ANEW3
variable {R m : zM}
theorem TR_g6r {mc g : zM} {t y : Int} (h : TR mc (zpr g 100 (zrw (g 100) 6 y)) t) (e : g 100 6 = y) : TR mc g t := by
  have : zpr g 100 (zrw (g 100) 6 y) = g := by
    funext b
    by_cases h : b = 100
    · subst h
      rw [zpr_at]
      funext k
      rw [zrw_if]
      split
      next q => rw [q, e]
      next => rfl
    · rw [zpr_ne h]
  rw [this] at h
  exact h
theorem GG_g6 {mc g c : zM} {y i : Int} (h : GG m mc g c y i) : GG m mc (zpr g 100 (zrw (g 100) 6 y)) c y i ∧ zpr g 100 (zrw (g 100) 6 y) 100 6 = y := by
  have e6 : zpr g 100 (zrw (g 100) 6 y) 100 6 = y := by rw [zpr_at, zrw_at]
  obtain ⟨a0, a1, a2, a3, a4, a5, a6, a7, a8⟩ := h
  have n : ∀ b : Int, b ≠ 100 → zpr g 100 (zrw (g 100) 6 y) b = g b := fun b h => zpr_ne h
  have nk : ∀ k : Int, k ≠ 6 → zpr g 100 (zrw (g 100) 6 y) 100 k = g 100 k := fun k h => by rw [zpr_at, zrw_ne h]
  refine ⟨⟨TR_g6 a0 e6, ?_, ?_, ?_, ?_, ?_, ?_, ?_, ?_⟩, e6⟩
  · intro b h; rw [n b (by omega)]; exact a1 b h
  · intro b h; rw [n b (by omega)]; exact a2 b h
  · rw [n 130 (by decide)]; exact a3
  · rw [n 106 (by decide), n 107 (by decide), n 108 (by decide), n 109 (by decide)]; exact a4
  · intro k h; rw [nk k (by intro e; subst e; simp at h)]; exact a5 k h
  · rw [nk 10 (by decide)]; exact a6
  · unfold FUp at *; rw [nk 49 (by decide)]; exact a7
  · unfold MEp at *; rw [nk 50 (by decide)]; exact a8
theorem tz_anskip (hM : MK R) {g : zM} {lo Y y i j : Int} (hij : i ≤ j) (h0 : 0 ≤ i) (hj : j ≤ g 100 19) (h60 : g 100 19 ≤ 60) (hy : ∀ a, i ≤ a → a < j → g 115 a ≠ y) (l5 : zV) : ev 279 39 [(2, 100), (0, lo), (0, Y), (0, y), (0, i), l5] [] R g = ev 279 39 [(2, 100), (0, lo), (0, Y), (0, y), (0, j), l5] [] R g := by
  have key := zloop (fun r => r = ev 279 39 [(2, 100), (0, lo), (0, Y), (0, y), (0, j), l5] [] R g) (fun a (_ : Unit) => ev 279 39 [(2, 100), (0, lo), (0, Y), (0, y), (0, a), l5] [] R g) j (fun a _ => i ≤ a) (fun a _ ha a0 ih => by
    try dsimp only at ih ⊢
    rw [tz_an2 hM ⟨by omega, by omega⟩ h60 (hy a a0 ha)]
    exact ih () (by omega)) (fun _ _ => rfl) i () hij (Int.le_refl _)
  exact key
theorem tz_growAnew (hG : GK R) (hAK : AK R) (hB2 : TK R 2) (hB : TK R 30) (hM : MK R) (hT : TR m m 2) (hA : ARl R m m) (hN : NV m 31 ∧ BV m 31) (hC : 0 ≤ m 31 3 ∧ m 31 3 ≤ 1900000000) (lo : Int) : ∃ (mc : zM) (i : Int), ev 201 0 [(2, 1), (0, lo), (9, 0), (9, 0)] [] R m = some ((9, 0), R, mc) ∧ GC m mc (m 2 3) i ∧ ∀ c, (∀ b, 100 ≤ b → b ≤ 152 → c b = m b) → ∃ g, ev 279 0 [(2, 100), (0, lo), (9, 0), (9, 0), (9, 0), (9, 0)] [] R c = some ((9, 0), R, g) ∧ GR m mc g c := by
  obtain ⟨Y, hYe⟩ : ∃ Y, m 2 3 = Y := ⟨_, rfl⟩
  have hY24 := hT.2.2.2.1
  have hY6 := hT.2.2.2.2.2.1
  rw [hYe] at hY24 hY6 ⊢
  obtain ⟨hA0, hA1, hA2, hA3, hA4, hA5⟩ := id hA
  have hn64 := (MV_n hT.1.2.1).2
  have hv : 1 ≤ m 3 0 ∧ m 3 0 ≤ 8 := ⟨hT.1.1.1.1, hT.1.1.1.2.1⟩
  have hh : 1 ≤ m 3 1 ∧ m 3 1 ≤ 8 := ⟨hT.1.1.1.2.2.1, hT.1.1.1.2.2.2.1⟩
  have ev0 : m 100 0 = m 3 0 := hT.1.2.2.1.symm
  have eh0 : m 100 1 = m 3 1 := hT.1.2.2.2.1.symm
  obtain ⟨m1, a1, hTB⟩ := tz_tbegin (R := R) (m := m) hB hv hh ⟨hC.1, by have := hC.2; show m 31 3 < 2000000000; omega⟩ hN
  have f1 : ∀ b, b < 30 ∨ 57 < b → m1 b = m b := fun b hb => hTB.1 b (by simp only [List.mem_cons, List.not_mem_nil, or_false, not_or]; omega)
  have c1 : m1 31 3 = m 31 3 + 1 := hTB.2.2.1
  rw [tz_ca0 hG hB2 a1]
  refine zloop (fun r => ∃ (mc : zM) (i : Int), r = some ((9, 0), R, mc) ∧ GC m mc Y i ∧ ∀ c, (∀ b, 100 ≤ b → b ≤ 152 → c b = m b) → ∃ g, ev 279 0 [(2, 100), (0, lo), (9, 0), (9, 0), (9, 0), (9, 0)] [] R c = some ((9, 0), R, g) ∧ GR m mc g c) (fun y (s : Int × zM) => ev 201 31 [(2, 1), (0, lo), (0, s.1), (0, y)] [] R s.2) Y (fun y s => 0 ≤ y ∧ GC m s.2 y s.1 ∧ (∀ b, 0 ≤ b → b < s.1 → m 115 b < y) ∧ ∀ c, (∀ b, 100 ≤ b → b ≤ 152 → c b = m b) → ∃ (g : zM) (l4 l5 : zV), ev 279 0 [(2, 100), (0, lo), (9, 0), (9, 0), (9, 0), (9, 0)] [] R c = ev 279 26 [(2, 100), (0, lo), (0, Y), (0, y), l4, l5] [] R g ∧ GG m s.2 g c y s.1) ?_ ?_ 0 (0, m1) hY24.1 ⟨by omega, ⟨f1, ?_, ?_, ?_, ?_⟩, ?_, ?_⟩
  · rintro y ⟨i, mc⟩ hy ⟨y0, hGC, hlt, hsim⟩ ih
    dsimp only at hGC hlt hsim ih ⊢
    have e23 : mc 2 3 = Y := by rw [hGC.1 2 (by omega), hYe]
    rw [tz_ca1 hG (by omega)]
    refine zloopM (fun r => ∃ (mc : zM) (i : Int), r = some ((9, 0), R, mc) ∧ GC m mc Y i ∧ ∀ c, (∀ b, 100 ≤ b → b ≤ 152 → c b = m b) → ∃ g, ev 279 0 [(2, 100), (0, lo), (9, 0), (9, 0), (9, 0), (9, 0)] [] R c = some ((9, 0), R, g) ∧ GR m mc g c) (fun (s : Int × zM) => ev 201 42 [(2, 1), (0, lo), (0, s.1), (0, y)] [] R s.2) (fun s => (m 58 0 - s.1).toNat) (fun s => GC m s.2 y s.1 ∧ (∀ b, 0 ≤ b → b < s.1 → m 115 b ≤ y) ∧ ∀ c, (∀ b, 100 ≤ b → b ≤ 152 → c b = m b) → ∃ (g : zM) (l5 : zV), ev 279 0 [(2, 100), (0, lo), (9, 0), (9, 0), (9, 0), (9, 0)] [] R c = ev 279 39 [(2, 100), (0, lo), (0, Y), (0, y), (0, s.1), l5] [] R g ∧ GG m s.2 g c y s.1 ∧ g 100 6 = y) ?_ (i, mc) ⟨hGC, fun b b0 b1 => Int.le_of_lt (hlt b b0 b1), fun c hc => ?_⟩
    · clear hGC hlt hsim e23 mc i
      rintro ⟨i, mc⟩ ⟨hGC, hle, hsim⟩ ih2
      dsimp only at hGC hle hsim ih2 ⊢
      obtain ⟨fr, ch, hi, hge, g0, hT0, eN0, e10, e6, q4, q6, q7⟩ := id hGC
      have e58 : mc 58 = m 58 := fr 58 (by omega)
      have e60 : mc 60 = m 60 := fr 60 (by omega)
      have h60 : mc 58 0 ≤ 60 := by rw [e58, hA1]; exact hA0.2
      by_cases hx : i < m 58 0 ∧ m 115 i = y
      · have hi2 : 0 ≤ i ∧ i < m 100 19 := by rw [← hA1]; omega
        have hAi := (hA2 i hi2.1 hi2.2).1
        have hAc : AOk R mc m i := AOk_c (fun b b0 b1 => fr b (by omega)) (fun b b0 => fr b (by omega)) hAi
        have hs : m 114 i = 3 → mc (30 + 9) 0 < 20 := by
          intro h3
          rw [hT0.2.2.1.2.1, e10]
          have s1 := zc3_step m hi2.1
          rw [if_pos h3] at s1
          have s2 := zc3_le m (show i + 1 ≤ m 100 19 by omega)
          have s3 := hT.2.2.1.1.2
          omega
        obtain ⟨m', b1, b2, b3, b4⟩ := tz_act (R := R) (m := mc) (w := m) hB hAK hM (by omega) h60 (a := i) (by rw [e58]; omega) hT0 (by have := hC.2; have := hA0.2; rw [show (30 : Int) + 1 = 31 by decide]; omega) hAc eN0 hs lo
        have y60 : mc 60 i = y := by rw [e60, hAi.2.2.1]; exact hx.2
        rw [tz_ca2 hG hAK h60 (by rw [e58]; omega) y60 b1]
        have r55 : m' 55 = mc 55 ∧ m' 56 = mc 56 := ⟨b2 55 (by omega), b2 56 (by omega)⟩
        refine ih2 (i + 1, m') ⟨⟨fun b hb => (b2 b (by omega)).trans (fr b hb), ?_, by dsimp only; omega, fun b b0 b1 => hge b (by omega) b1, ?_⟩, ?_, ?_⟩ (by dsimp only; omega)
        · rw [show (30 : Int) + 1 = 31 by decide] at b3
          dsimp only; omega
        · obtain ⟨g', -, t', n', k', s'⟩ := b4 g0 hT0 q4 q6 q7
          refine ⟨g', t', (mN_e (k' 0 (by decide) (by decide)) (k' 1 (by decide) (by decide))).trans eN0, ?_, by rw [k' 6 (by decide) (by decide), e6], by rw [n' 114 (by omega), q4], by rw [n' 116 (by omega), q6], by rw [n' 117 (by omega), q7]⟩
          dsimp only
          rw [zc3_step m hi2.1]
          by_cases c3 : m 114 i = 3
          · rw [if_pos c3, (s'.1 c3).2.2.2.2, e10]
          · rw [if_neg c3, (s'.2 c3).2.2.2.2, e10, Int.add_zero]
        · intro b b0 b1
          dsimp only at b1
          by_cases e : b = i
          · subst e; omega
          · exact hle b b0 (by omega)
        · intro c hc
          obtain ⟨g, l5, e, hg, eg6⟩ := hsim c hc
          have r := hg.2.2.1
          obtain ⟨g', s1, t', n', k', s'⟩ := b4 g (TR_g6r hg.1 eg6) (r 114 (by omega)) (r 116 (by omega)) (r 117 (by omega))
          have g19 : g 100 19 = m 100 19 := hg.2.2.2.2.2.1 19 (by decide)
          have := tz_an3 (R := R) hM (Y := Y) (l5 := l5) (a := i) (y := y) (by rw [g19]; exact hi2) (by rw [g19]; exact hA0.2) (by rw [r 115 (by omega)]; exact hx.2) s1
          obtain ⟨G1, G2⟩ := GG_act hA hi2 hg eg6 t' n' k' s' r55
          exact ⟨g', l5, e.trans this, G1, G2⟩
      · have hTG := TR_TG hT0
        have hSQ := TR_SQ hT0
        have e303 : mc 30 3 = y := by rw [hT0.2.2.2.2.2.1, e6]
        have hch := hT0.2.2.2.2.1
        rw [e303] at hch
        obtain ⟨m', Q, hfin, hPI, b1, hYR⟩ := tz_grow (R := R) hB hTG hSQ (by rw [e303]; omega) (by omega)
        have en : mc 31 2 = mN m := (RB_n hT0.1).trans eN0
        have fr' : ∀ b, b < 30 ∨ 57 < b ∨ b = 31 → m' b = mc b := fun b hb => hYR.1 b (by simp only [List.mem_cons, List.not_mem_nil, or_false, not_or]; omega)
        have hne : ∀ b, i ≤ b → b < m 58 0 → y < m 115 b := by
          intro b b0 b1
          have h1 := hge i (Int.le_refl _) (by omega)
          have h2 : m 115 i ≠ y := fun z => hx ⟨by omega, z⟩
          have h3 := hA3 i b hi.1 b0 (by rw [← hA1]; exact b1)
          omega
        have y60 : i = mc 58 0 ∨ mc 60 i ≠ y := by
          rw [e58, e60]
          by_cases z : i = m 58 0
          · left; exact z
          · right
            rw [(hA2 i hi.1 (by rw [← hA1]; omega)).1.2.2.1]
            have := hne i (Int.le_refl _) (by omega)
            omega
        rw [tz_ca3 hG hAK h60 (by rw [e58]; exact hi) y60 b1 (by omega)]
        refine ih (i, m') ⟨by omega, ⟨fun b hb => (fr' b (by omega)).trans (fr b hb), ?_, hi, fun b b0 b1 => hne b b0 b1, ?_⟩, ?_, ?_⟩
        · dsimp only; rw [fr' 31 (by omega)]; exact ch
        · obtain ⟨g', -, t', n', -⟩ := TR_yr (R := R) hM hT0 hfin hPI hYR (by rw [e303]; omega)
          rw [e303] at t'
          have kk := n'.2
          refine ⟨_, t', (mN_e (by rw [zpr_at]; rfl) (by rw [zpr_at]; rfl)).trans ((mN_e (kk 0 (by decide)) (kk 1 (by decide))).trans eN0), ?_, by rw [zpr_at, zrw_at], ?_, ?_, ?_⟩
          · rw [zpr_at, zrw_ne (by decide), kk 10 (by decide), e10]
          · rw [zpr_ne (by decide), n'.1 114 (by decide) (by decide), q4]
          · rw [zpr_ne (by decide), n'.1 116 (by decide) (by decide), q6]
          · rw [zpr_ne (by decide), n'.1 117 (by decide) (by decide), q7]
        · intro b b0 b1
          have := hle b b0 b1
          omega
        · intro c hc
          obtain ⟨g, l5, e, hg, eg6⟩ := hsim c hc
          have hTg : TR mc g 30 := TR_g6r hg.1 eg6
          have eNg : mN g = mN m := (RB_n hTg.1).symm.trans en
          obtain ⟨g', s1, t', n', u', us', -, -, -, v'⟩ := TR_yr (R := R) hM hTg hfin hPI hYR (by rw [e303]; omega)
          have g19 : g 100 19 = m 100 19 := hg.2.2.2.2.2.1 19 (by decide)
          have sk := tz_anskip (R := R) hM (g := g) (lo := lo) (Y := Y) (y := y) (i := i) (j := g 100 19) (by rw [g19, ← hA1]; exact hi.2) hi.1 (Int.le_refl _) (by rw [g19]; exact hA0.2) (fun a a0 a1 => by
            rw [hg.2.2.1 115 (by omega)]
            have := hne a a0 (by rw [hA1, ← g19]; exact a1)
            omega) l5
          have s4 := tz_an4 (R := R) hM (lo := lo) (Y := Y) (y := y) (a := g 100 19) rfl s1 l5
          obtain ⟨l5', s5⟩ := tz_an5 (R := R) hM v' (lo := lo) (Y := Y) (y := y) (by omega)
          have eNg' : mN g' = mN g := mN_e (n'.2 0 (by decide)) (n'.2 1 (by decide))
          rw [e303] at t'
          have G := GG_year (u := mN g' - zuses (mN g') (g' 103) 0) eNg hn64 y0 e303 en hg hYR t' n' u' (by rw [us', eNg'])
          exact ⟨_, _, l5', ((e.trans sk).trans s4).trans s5, G⟩
    · obtain ⟨g, l4, l5, e, hg⟩ := hsim c hc
      obtain ⟨G1, G2⟩ := GG_g6 hg
      have s1 := tz_an1 (R := R) hM (g := g) (lo := lo) hy l4 l5
      have g19 : zpr g 100 (zrw (g 100) 6 y) 100 19 = m 100 19 := G1.2.2.2.2.2.1 19 (by decide)
      have sk := tz_anskip (R := R) hM (g := zpr g 100 (zrw (g 100) 6 y)) (lo := lo) (Y := Y) (y := y) (i := 0) (j := i) hGC.2.2.1.1 (Int.le_refl _) (by rw [g19, ← hA1]; exact hGC.2.2.1.2) (by rw [g19]; exact hA0.2) (fun a a0 a1 => by
        rw [G1.2.2.1 115 (by omega)]
        have := hlt a a0 a1
        omega) l5
      exact ⟨_, l5, (e.trans s1).trans sk, G1, G2⟩
  · rintro ⟨i, mc⟩ ⟨y0, hGC, hlt, hsim⟩
    dsimp only at hGC hlt hsim ⊢
    have e23 : mc 2 3 = Y := by rw [hGC.1 2 (by omega), hYe]
    rw [tz_ca4 hG (by omega)]
    refine ⟨mc, i, rfl, hGC, fun c hc => ?_⟩
    obtain ⟨g, l4, l5, e, hg⟩ := hsim c hc
    obtain ⟨g', b1, b2, b3, b4⟩ := tz_bringBack (R := R) (w := g) hM
    have s6 := tz_an6 (R := R) hM (lo := lo) (Y := Y) b1 l4 l5
    obtain ⟨-, d1, d2, d3, ⟨d4, d5, d6, d7⟩, d8, d9, dA, dB⟩ := hg
    refine ⟨g', e.trans s6, ?_, ?_, ⟨g 130, d3, b4⟩, ?_, ?_, ?_⟩
    · intro b hb
      rw [b2 b (by omega) (by omega)]
      exact d1 b hb
    · intro b hb
      rw [b2 b (by omega) (by omega)]
      by_cases q : 114 ≤ b
      · exact d2 b (by omega)
      · have : b = 106 ∨ b = 107 ∨ b = 108 ∨ b = 109 := by omega
        rcases this with rfl | rfl | rfl | rfl <;> assumption
    · intro k hk
      have hk' := hk
      simp only [List.mem_cons, List.not_mem_nil, or_false, not_or] at hk'
      by_cases k6 : k = 6
      · subst k6; rw [← b4.2.2.2.2.2.1, d3.2.2.2.2.2.1]
      · by_cases k7 : k = 7
        · subst k7; rw [← b4.2.2.2.2.2.2, d3.2.2.2.2.2.2]
        · by_cases k8 : k = 8
          · subst k8; rw [← b4.2.2.2.1, d3.2.2.2.1]
          · by_cases k10 : k = 10
            · subst k10; rw [← b4.2.2.2.2.1, d3.2.2.2.2.1]
            · rw [b3 k k6 k7 k8 k10]
              exact d8 k (by simp only [List.mem_cons, List.not_mem_nil, or_false, not_or]; omega)
    · rw [← hY6]
      unfold FUp at *
      rw [b3 49 (by decide) (by decide) (by decide) (by decide)]
      exact dA
    · rw [← hY6]
      unfold MEp at *
      rw [b3 50 (by decide) (by decide) (by decide) (by decide)]
      exact dB
  · dsimp only; omega
  · dsimp only; omega
  · intro b b0 b1
    exact (hA2 b b0 (by rw [← hA1]; exact b1)).2.1
  · dsimp only
    refine ⟨zmclr m, TR_begin hTB ev0 eh0, ?_, ?_, ?_, ?_, ?_, ?_⟩
    · exact mN_e rfl rfl
    · rfl
    · rfl
    · unfold zmclr; simp (disch := decide) only [zpr_ne]
    · unfold zmclr; simp (disch := decide) only [zpr_ne]
    · unfold zmclr; simp (disch := decide) only [zpr_ne]
  · intro b b0 b1
    dsimp only at b1
    omega
  · intro c hc
    dsimp only
    obtain ⟨f, b1, b2⟩ := tz_putAside (R := R) (w := c) hM
    have s0 := tz_an0 (R := R) hM (lo := lo) b1 (9, 0) (9, 0)
    have cY : zpr c 130 f 100 6 = Y := by rw [zpr_ne (by decide), hc 100 (by omega) (by omega), ← hY6]
    rw [cY] at s0
    have c100 : zpr c 130 f 100 = m 100 := by rw [zpr_ne (by decide), hc 100 (by omega) (by omega)]
    have w0 : ∀ b : Int, b ≠ 100 → b ≠ 130 → (b < 101 ∨ 104 < b) → zmclr (zpr (zpr c 130 f) 100 (zrw (zrw (zpr c 130 f 100) 49 (-4)) 50 0)) b = c b := by
      intro b h1 h2 h3
      unfold zmclr
      simp (disch := omega) only [zpr_ne]
    have w1 : zmclr (zpr (zpr c 130 f) 100 (zrw (zrw (zpr c 130 f 100) 49 (-4)) 50 0)) 100 = zrw (zrw (zrw (zrw (zrw (zrw (m 100) 49 (-4)) 50 0) 6 0) 7 0) 8 0) 10 0 := by
      unfold zmclr
      rw [zpr_at, zpr_at, c100]
    have w2 : zmclr (zpr (zpr c 130 f) 100 (zrw (zrw (zpr c 130 f 100) 49 (-4)) 50 0)) 130 = f := by
      unfold zmclr
      simp (disch := decide) only [zpr_ne, zpr_at]
    refine ⟨_, _, _, s0, ?_, ?_, ?_, ?_, ?_, ?_, ?_, ?_, ?_⟩
    · exact TR_g6 (TR_begin hTB (by rw [zpr_at, c100]; exact ev0) (by rw [zpr_at, c100]; exact eh0)) (by rw [w1]; rfl)
    · intro b hb
      rw [w0 b (by omega) (by omega) (by omega)]
    · intro b hb
      rw [w0 b (by omega) (by omega) (by omega), hc b (by omega) (by omega)]
    · rw [w2]
      unfold ASF at *
      rw [hc 101 (by omega) (by omega), hc 102 (by omega) (by omega), hc 103 (by omega) (by omega), hc 104 (by omega) (by omega), hc 105 (by omega) (by omega), hc 110 (by omega) (by omega), hc 111 (by omega) (by omega), hc 112 (by omega) (by omega), hc 113 (by omega) (by omega), hc 100 (by omega) (by omega)] at b2
      exact b2
    · rw [w0 106 (by decide) (by decide) (by decide), w0 107 (by decide) (by decide) (by decide), w0 108 (by decide) (by decide) (by decide), w0 109 (by decide) (by decide) (by decide), hc 106 (by omega) (by omega), hc 107 (by omega) (by omega), hc 108 (by omega) (by omega), hc 109 (by omega) (by omega)]
      exact ⟨rfl, rfl, rfl, rfl⟩
    · intro k hk
      simp only [List.mem_cons, List.not_mem_nil, or_false, not_or] at hk
      rw [w1, zrw_ne (by omega), zrw_ne (by omega), zrw_ne (by omega), zrw_ne (by omega), zrw_ne (by omega), zrw_ne (by omega)]
    · rw [w1]; rfl
    · left
      rw [w1]
      exact ⟨rfl, fun y' p a b => by omega⟩
    · unfold MEp
      rw [w1]
      rfl
end ANEW3
