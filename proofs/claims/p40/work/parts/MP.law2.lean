section LAWALL2
variable {R m : zM} {x : Int}
theorem l_law (h0 : R 0 0 = 0) (h1 : R 0 1 = 0) (hR0 : 0 ≤ R 0 2 ∧ R 0 2 ≤ 260) (hm : ∀ b, m b = fun _ => 0) (hz : ∀ a k, a ≠ 0 → R a k = 0) : ∃ R' m', ev 0 0 [(4, x), (9, 0), (9, 0), (9, 0), (9, 0), (9, 0), (9, 0), (9, 0), (9, 0), (9, 0), (9, 0), (9, 0), (9, 0), (9, 0), (9, 0), (9, 0), (9, 0), (9, 0), (9, 0), (9, 0), (9, 0), (9, 0), (9, 0), (9, 0), (9, 0)] [] R m = some ((0, 1), R', m') ∧ (0 ≤ R' 0 0 ∧ R' 0 0 ≤ 1000) ∧ (0 ≤ R' 0 1 ∧ R' 0 1 ≤ 30000) ∧ ∀ k, 2 ≤ k → R' 0 k = R 0 k := by
  obtain ⟨R1, m1, KK, n, w, h, N, T1, hLS1, hLm1, hwh, hw, hSV1, z6, b58, z87, z91, ⟨bc0, bc1⟩, bs1, q1⟩ := l_start (R := R) (m := m) (x := x) h0 h1 hR0 hm hz
  have hN16 : 1 ≤ N ∧ N ≤ 16 := by rw [← hwh]; exact zwh4 hLS1.2.2.2.2.1 hLS1.2.2.2.2.2.1
  obtain ⟨m2, T2, hU⟩ := l_uses (R := R1) (m := m1) (m0 := m1) (x := x) (N := N) hLS1 ⟨hSV1, by omega, fun b _ _ _ => rfl⟩ hLm1.1.2
  obtain ⟨hSV2, b58b, f2⟩ := hU
  obtain ⟨c1, hc1⟩ : ∃ c1, R1 0 0 = c1 := ⟨_, rfl⟩
  rw [hc1] at bc0 bc1
  obtain ⟨R3, m3, T3, E3, n3, s3, Ia, Ib, Id, f3⟩ := l_rows (R := R1) (m := m2) (x := x) (N := N) hLS1 hc1 ⟨bc0, by omega⟩
  have hLS3 := LSr_E E3 hLS1 (by omega)
  have g3 : ∀ b, b ≠ 6 → b ≠ 7 → (b < 58 ∨ 61 < b) → b ≤ c1 → m3 b = m1 b := fun b b6 b7 b58 bc => by rw [f3 b bc, f2 b b6 b7 b58]
  have S3 : SV m3 40 := SV_c (fun q q0 q1 => f3 q (by omega)) hSV2
  have N3 : m3 3 2 = N := by rw [g3 3 (by decide) (by decide) (by omega) (by omega)]; exact hLm1.1.2
  have P3 : PLs m3 0 N := ⟨by rw [g3 87 (by decide) (by decide) (by omega) (by omega)]; exact z87, by decide, fun k k0 k1 => by omega⟩
  have PI3 : PI m3 m3 (c1 + 1) (c1 + 2) (c1 + 3) N 0 := ⟨P3, fun i i0 i1 => by omega, fun i i0 i1 => by omega, fun _ _ _ _ _ => rfl⟩
  obtain ⟨m4, np, u11, u12, u13, T4, PI4, hnp⟩ := l_plans (R := R3) (m := m3) (m0 := m3) (x := x) (c0 := 40) hLS3 S3 N3 Ia Ib Id (by omega) PI3
  obtain ⟨P4, r4, b4, f4⟩ := PI4
  have g4 : ∀ b, b ≠ 6 → b ≠ 7 → (b < 58 ∨ 61 < b) → (b < 87 ∨ 90 < b) → b ≤ c1 → m4 b = m1 b := fun b b6 b7 b58 b87 bc => by rw [f4 b b87 (by omega) (by omega) (by omega), g3 b b6 b7 b58 bc]
  have S4 : SV m4 40 := SV_c (fun q q0 q1 => f4 q (by omega) (by omega) (by omega) (by omega)) S3
  have L4 : LPl m4 w h N KK n (c1 + 1) (c1 + 2) (c1 + 3) np := by
    obtain ⟨h20, h21, h22, h23, h24, h25⟩ := hLm1
    refine ⟨S4, ⟨?_, ?_, ?_, ?_, ?_, ?_⟩, P4, r4, b4, hN16, hnp⟩
    · rw [g4 3 (by decide) (by decide) (by omega) (by omega) (by omega)]; exact h20
    · rw [g4 9 (by decide) (by decide) (by omega) (by omega) (by omega)]; exact h21
    · rw [g4 10 (by decide) (by decide) (by omega) (by omega) (by omega)]; exact h22
    · unfold LRw; rw [g4 100 (by decide) (by decide) (by omega) (by omega) (by omega)]; exact h23
    · rw [g4 63 (by decide) (by decide) (by omega) (by omega) (by omega)]; exact h24
    · rw [g4 2 (by decide) (by decide) (by omega) (by omega) (by omega)]; exact h25
  have PR3 : PR R3 (c1 + 1) (c1 + 2) (c1 + 3) := ⟨Ia, Ib, Id, by omega, by omega, by omega, by omega⟩
  obtain ⟨R5, m5, B, v15, v16, v17, v18, v19, v20, v21, v22, v23, v24, T5, bB, E5, n5, s5, f5⟩ := l_best (R := R3) (m := m4) (x := x) (u11 := u11) (u12 := u12) (u13 := u13) hLS3 PR3 L4 n3 (by omega)
  have E5' := E5.1
  have hLS5 := LSr_E E5 hLS3 (by omega)
  have PR5 := PR_E E5 PR3
  have L5 : LPl m5 w h N KK n (c1 + 1) (c1 + 2) (c1 + 3) np := LPl_c f5 (by omega) L4
  have eB : ∀ k, pBm m5 2 np B k = pBm m4 2 np B k := pBm_c ⟨by rw [f5 3 (by omega)], by rw [f5 3 (by omega)]⟩ (f5 9 (by omega)) (f5 2 (by omega)) (f5 10 (by omega)) (f5 4 (by omega)) (f5 6 (by omega)) (f5 88 (by omega)) (f5 89 (by omega)) (f5 90 (by omega))
  have e90 : m5 90 = m4 90 := f5 90 (by omega)
  obtain ⟨S5, hLm5, P5, r5, b5, -, -⟩ := L5
  have N5 : m5 3 2 = N := hLm5.1.2
  obtain ⟨m6, T6, S6, K6⟩ := l_choice (R := R5) (m := m5) (x := x) (w := w) (N := N) (a := c1 + 1) (b := c1 + 2) (d := c1 + 3) (B := B) (s := ((2 ^ np : Nat) : Int)) (n := n) (np := np) (v15 := v15) (v16 := v16) (v17 := v17) (v18 := v18) (v19 := v19) (v20 := v20) (v21 := v21) (v22 := v22) (v23 := v23) (v24 := v24) hLS5.1 S5 (by rw [N5]; exact P5) bB
  rw [eB, e90] at T6
  have N6 : m6 3 2 = N := by rw [K6.2.1 2 (by decide), N5]
  have g6 : ∀ b, b ≠ 3 → b ≠ 7 → b ≠ 87 → m6 b = m5 b := K6.1
  have b58e : 0 ≤ m6 58 0 ∧ m6 58 0 ≤ 44 := by
    rw [g6 58 (by decide) (by decide) (by decide), f5 58 (by omega), f4 58 (by omega) (by omega) (by omega) (by omega), f3 58 (by omega)]
    exact b58b
  obtain ⟨m7, s7, T7, S7, f7, f73, b587⟩ := l_build (R := R5) (m := m6) (x := x) (B := B) (bs := (pBm m4 2 np B (2 ^ np - 1)).1) (bm := (pBm m4 2 np B (2 ^ np - 1)).2) (bc := pCo (m4 90) (pBm m4 2 np B (2 ^ np - 1)).1 np) (s := ((2 ^ np : Nat) : Int)) (v15 := v15) (v16 := v16) (v17 := v17) (v18 := v18) (v19 := v19) (v20 := v20) (v21 := v21) (v22 := v22) (v23 := v23) (v24 := v24) hLS5 PR5 S6 (KCh_PLs K6 P5) N6 hnp (by omega) (by rw [g6 (c1 + 1) (by omega) (by omega) (by omega), g6 (c1 + 2) (by omega) (by omega) (by omega), g6 (c1 + 3) (by omega) (by omega) (by omega), g6 88 (by decide) (by decide) (by decide), g6 89 (by decide) (by decide) (by decide), g6 90 (by decide) (by decide) (by decide)]; exact r5) (by rw [g6 4 (by decide) (by decide) (by decide), g6 6 (by decide) (by decide) (by decide), g6 88 (by decide) (by decide) (by decide)]; exact b5)
  have y7 : m7 2 3 = 0 := by rw [f7 2 (by decide) (by decide) (by decide) (by decide) (by decide), g6 2 (by decide) (by decide) (by decide)]; exact hLm5.2.2.2.2.2
  obtain ⟨m8, T8, S8, y8, f8⟩ := l_years (R := R5) (m := m7) (x := x) (w := w) (N := N) (a := c1 + 1) (b := c1 + 2) (d := c1 + 3) (B := B) (bs := (pBm m4 2 np B (2 ^ np - 1)).1) (bm := (pBm m4 2 np B (2 ^ np - 1)).2) (bc := pCo (m4 90) (pBm m4 2 np B (2 ^ np - 1)).1 np) (s := s7) (n := n) (np := np) (v15 := v15) (v16 := v16) (v17 := v17) (v18 := v18) (v19 := v19) (v20 := v20) (v21 := v21) (v22 := v22) (v23 := v23) (v24 := v24) hLS5.1 S7 y7
  obtain ⟨c5, hc5⟩ : ∃ c5, R5 0 0 = c5 := ⟨_, rfl⟩
  obtain ⟨R9, m9, T9, E9, n9, s9, I9, z9, f9⟩ := l_told (R := R5) (m := m8) (x := x) (w := w) (N := N) (a := c1 + 1) (b := c1 + 2) (d := c1 + 3) (B := B) (bs := (pBm m4 2 np B (2 ^ np - 1)).1) (bm := (pBm m4 2 np B (2 ^ np - 1)).2) (bc := pCo (m4 90) (pBm m4 2 np B (2 ^ np - 1)).1 np) (n := n) (np := np) (v15 := v15) (v16 := v16) (v17 := v17) (v18 := v18) (v19 := v19) (v20 := v20) (v21 := v21) (v22 := v22) (v23 := v23) (v24 := v24) hc5 (by omega)
  have hLS9 := LSr_E E9 hLS5 (by omega)
  -- what is left of the rows
  have g9 : ∀ b, b ≠ 2 → b ≠ 3 → b ≠ 4 → b ≠ 6 → b ≠ 7 → (b < 16 ∨ 29 < b) → (b < 58 ∨ 61 < b) → (b < 87 ∨ 90 < b) → b ≤ 99 → m9 b = m1 b := fun b q2 q3 q4 q6 q7 q16 q58 q87 q99 => by
    rw [f9 b (by omega), f8 b q2 q6 q7 q16, f7 b q3 q4 q6 q7 q58, g6 b q3 q7 (by omega), f5 b (by omega), g4 b q6 q7 q58 q87 (by omega)]
  have S9 : SV m9 2441 := SV_c (fun q q0 q1 => f9 q (by omega)) S8
  have y9 : m9 2 3 = 3 := by rw [f9 2 (by omega), y8]
  have N9 : m9 3 2 = N := by rw [f9 3 (by omega), f8 3 (by decide) (by decide) (by decide) (by decide), f73 2 (by decide), N6]
  have NT9 : NT m9 (c5 + 1) 0 := ⟨by rw [g9 91 (by decide) (by decide) (by decide) (by decide) (by decide) (by decide) (by decide) (by decide) (by decide)]; exact z91, fun i i0 i1 => by omega, fun yr p _ _ _ _ => by rw [z9]; rfl⟩
  have b589 : 0 ≤ m9 58 0 ∧ m9 58 0 ≤ 45 := by rw [f9 58 (by omega), f8 58 (by decide) (by decide) (by decide) (by decide)]; omega
  have z63 : m9 63 0 = 0 := by rw [g9 63 (by decide) (by decide) (by decide) (by decide) (by decide) (by decide) (by decide) (by decide) (by decide)]; exact hLm1.2.2.2.2.1
  obtain ⟨m10, u16, u17, u18, u19, T10, S10, y10, NT10, f10⟩ := l_notes (R := R9) (m := m9) (m0 := m9) (x := x) (a := c1 + 1) (b := c1 + 2) (d := c1 + 3) (B := B) (bs := (pBm m4 2 np B (2 ^ np - 1)).1) (bm := (pBm m4 2 np B (2 ^ np - 1)).2) (bc := pCo (m4 90) (pBm m4 2 np B (2 ^ np - 1)).1 np) (np := np) (c := 2441) (lt := c5 + 1) (v16 := v16) (v17 := v17) (v18 := v18) (v19 := v19) (v20 := v20) (v21 := v21) (v22 := v22) (v23 := v23) (v24 := v24) hLS9 I9 (by omega) N9 hN16 ⟨S9, by rw [y9]; rfl, NT9, fun _ _ _ _ _ _ _ => rfl⟩
  have N10 : m10 3 2 = N := by rw [f10 3 (by decide) (by decide) (by decide) (by omega) (by decide) (by decide), N9]
  have T11 := l_knowns (R := R9) (m := m10) (x := x) (w := w) (N := N) (a := c1 + 1) (b := c1 + 2) (d := c1 + 3) (B := B) (bs := (pBm m4 2 np B (2 ^ np - 1)).1) (bm := (pBm m4 2 np B (2 ^ np - 1)).2) (bc := pCo (m4 90) (pBm m4 2 np B (2 ^ np - 1)).1 np) (k := 6) (n := n) (np := np) (lt := c5 + 1) (c := 2441) (nt := 6) (v16 := u16) (v17 := u17) (v18 := u18) (v19 := u19) (v20 := v20) (v21 := v21) (v22 := v22) (v23 := v23) (v24 := v24) hLS9.1 I9 S10 NT10 (by decide) N10 hN16 (by rw [y10]; decide)
  obtain ⟨R12, m12, K, P, T12, hK, hP, hP2, E12, n12, s12, I12, cl12, f12⟩ := l_text (R := R9) (m := m10) (x := x) (N := N) (a := c1 + 1) (b := c1 + 2) (d := c1 + 3) (B := B) (bs := (pBm m4 2 np B (2 ^ np - 1)).1) (bm := (pBm m4 2 np B (2 ^ np - 1)).2) (bc := pCo (m4 90) (pBm m4 2 np B (2 ^ np - 1)).1 np) (np := np) (lt := c5 + 1) (c := c5 + 1) (v17 := u17) (v18 := u18) (v19 := u19) (v20 := v20) (v21 := v21) (v22 := v22) (v23 := v23) (v24 := v24) hLS9 n9 (by omega)
  have hLS12 := LSr_E E12 hLS9 (by omega)
  have x9 : m12 9 0 = m10 9 0 := by rw [f12 9 (by omega)]
  have x58 : m12 58 0 = m10 58 0 := by rw [f12 58 (by omega)]
  rw [← x9, ← x58] at T12
  have b58z : m12 58 0 < 60 := by rw [x58, f10 58 (by decide) (by decide) (by decide) (by omega) (by decide) (by decide)]; omega
  have z63z : m12 63 0 = 0 := by rw [f12 63 (by omega), f10 63 (by decide) (by decide) (by decide) (by omega) (by decide) (by decide)]; exact z63
  obtain ⟨R13, m13, T13, E13, n13, s13⟩ := l_tell3 (R := R12) (m := m12) (x := x) (w := w) (N := N) (a := c1 + 1) (b := c1 + 2) (d := c1 + 3) (B := B) (bs := (pBm m4 2 np B (2 ^ np - 1)).1) (bm := (pBm m4 2 np B (2 ^ np - 1)).2) (bc := pCo (m4 90) (pBm m4 2 np B (2 ^ np - 1)).1 np) (n := n) (np := np) (lt := c5 + 1) (T := c5 + 1 + 1) (K9 := c5 + 1 + 2) (len := ((tx K).length : Int)) (c := c5 + 1 + 2) (v21 := v21) (v22 := v22) (v23 := v23) (v24 := v24) hLS12.1 n12 (by omega) hK hP (by omega) I12 (by omega) cl12 z63z b58z
  refine ⟨R13, m13, ?_, by omega, by omega, fun k hk => by rw [E13.2.1 k hk, E12.2.1 k hk, E9.2.1 k hk, E5.2.1 k hk, E3.2.1 k hk, q1 k hk]⟩
  rw [T1, T2, T3, T4, T5, T6, T7, T8, T9, T10, T11, ← x9, ← x58, T12, T13]
end LAWALL2
