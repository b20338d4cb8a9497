/-! the whole object of the class, made (printed by a program of mine, gen_init.py) -/
section GINIT
theorem BN_c {m x : zM} {o w h : Int} (hr : ∀ b, o ≤ b → b ≤ o + 5 → x b = m b) (hB : BN m o w h) : BN x o w h := by
  unfold BN BV NV at *
  rw [hr o (by omega) (by omega), hr (o + 1) (by omega) (by omega), hr (o + 2) (by omega) (by omega), hr (o + 3) (by omega) (by omega), hr (o + 4) (by omega) (by omega), hr (o + 5) (by omega) (by omega)]
  exact hB
theorem TK_rc {R R1 : zM} {t : Int} (h0 : R1 t = R t) (h1 : R1 (t + 1) = R (t + 1)) (h7 : R1 (t + 7) = R (t + 7)) (h9 : R1 (t + 9) = R (t + 9)) (h : TK R t) : TK R1 t := by
  unfold TK at *
  rw [h0, h1, h7, h9]
  exact h
end GINIT
theorem ci178 {R m : zM} (h : R 0 0 = 1) (hm : ∀ b, m b = fun _ => 0) : ∃ R1 m1, ev 178 0 [(2, 1)] [] R m = some ((9, 0), R1, m1) ∧ (R1 0 0 = 99 ∧ R1 0 1 = R 0 1 + 11141 ∧ (∀ k, k ≠ 0 → k ≠ 1 → R1 0 k = R 0 k) ∧ ∀ b, 99 < b → R1 b = R b) ∧ (TK R1 2 ∧ TK R1 30 ∧ LK R1 68 ∧ GK R1 ∧ AK R1 ∧ XK R1 ∧ WK R1 ∧ PK R1 ∧ QK R1 ∧ NK R1 ∧ CK R1) ∧ (∀ k, R1 62 k = 0) ∧ (BN m1 3 4 4 ∧ m1 3 3 = 1 ∧ BN m1 31 4 4 ∧ m1 31 3 = 1) ∧ (∀ b, ¬ (3 ≤ b ∧ b ≤ 8) → ¬ (31 ≤ b ∧ b ≤ 36) → b ≠ 70 → b ≠ 79 → b ≠ 97 → m1 b = fun _ => 0) ∧ m1 70 = zrw (fun _ => 0) 7 (-1) ∧ m1 79 = zrw (fun _ => 0) 4 (-1) ∧ m1 97 = zfll (fun _ => 0) 4 (-1) := by
  have e0 : ev 178 0 [(2, 1)] [] R m = ev 178 4 [(2, 1)] [] R m := by
    rw [s178_0, s178_1]
    rw [ik1]; decide
  have r0 : R 0 0 + 1 = 2 := by rw [h]; rfl
  obtain ⟨N0, m1, c0, a0, t0, x0, y0, w0⟩ := ci113_2 (R := znR R 8) (m := m) (by rw [znR_00]; exact r0) (fun b hb => hm b)
  have e1 := gi178_4 (o := 1) (l := 2) (R := R) (m := m) ik1 ik2 (by unfold znl; exact r0) (by omega) (zrow_z (hm 2)) c0
  obtain ⟨Q0, hQ0⟩ : ∃ q, zup N0 1 0 2 = q := ⟨_, rfl⟩
  have B0 : zSb 1 0 2 29 3536 R N0 (zup N0 1 0 2) := zSb_of r0 a0 (by decide) 0 (by decide)
  rw [hQ0] at e1 B0
  have z1 : ∀ b, 8 < b → m1 b = fun _ => 0 := fun b hb => by
    rw [x0 b (by simp only [List.mem_cons, List.not_mem_nil, or_false, not_or]; omega)]
    exact hm b
  have r1 : Q0 0 0 + 1 = 30 := by rw [B0.1]; rfl
  obtain ⟨N1, m2, c1, a1, t1, x1, y1, w1⟩ := ci113_30 (R := znR Q0 8) (m := m1) (by rw [znR_00]; exact r1) (fun b hb => z1 b (by omega))
  have e2 := gi178_15 (o := 1) (l := 30) (R := Q0) (m := m1) ik1 ik30 (by unfold znl; exact r1) (by omega) (zrow_z (z1 30 (by decide))) c1
  obtain ⟨Q1, hQ1⟩ : ∃ q, zup N1 1 1 30 = q := ⟨_, rfl⟩
  have B1 : zSb 1 1 30 57 3536 Q0 N1 (zup N1 1 1 30) := zSb_of r1 a1 (by decide) 1 (by decide)
  rw [hQ1] at e2 B1
  have z2 : ∀ b, 36 < b → m2 b = fun _ => 0 := fun b hb => by
    rw [x1 b (by simp only [List.mem_cons, List.not_mem_nil, or_false, not_or]; omega)]
    exact z1 b (by omega)
  have r2 : Q1 0 0 + 1 = 58 := by rw [B1.1]; rfl
  obtain ⟨N2, c2, a2⟩ := ci1_58 (R := znR Q1 5) (m := m2) (by rw [znR_00]; exact r2) (fun b hb => z2 b (by omega))
  have e3 := gi178_26 (o := 1) (l := 58) (R := Q1) (m := m2) ik1 ik58 (by unfold znl; exact r2) (by omega) (zrow_z (z2 58 (by decide))) c2
  obtain ⟨Q2, hQ2⟩ : ∃ q, zup N2 1 2 58 = q := ⟨_, rfl⟩
  have B2 : zSb 1 2 58 62 425 Q1 N2 (zup N2 1 2 58) := zSb_of r2 (zAr_be a2 rfl) (by decide) 2 (by decide)
  rw [hQ2] at e3 B2
  have z3 := z2
  have r3 : Q2 0 0 + 1 = 63 := by rw [B2.1]; rfl
  obtain ⟨N3, c3, a3⟩ := ci32_63 (R := znR Q2 10) (m := m2) (by rw [znR_00]; exact r3) (fun b hb => z3 b (by omega))
  have e4 := gi178_37 (o := 1) (l := 63) (R := Q2) (m := m2) ik1 ik63 (by unfold znl; exact r3) (by omega) (zrow_z (z3 63 (by decide))) c3
  obtain ⟨Q3, hQ3⟩ : ∃ q, zup N3 1 3 63 = q := ⟨_, rfl⟩
  have B3 : zSb 1 3 63 67 1293 Q2 N3 (zup N3 1 3 63) := zSb_of r3 (zAr_be a3 rfl) (by decide) 3 (by decide)
  rw [hQ3] at e4 B3
  have z4 := z3
  have r4 : Q3 0 0 + 1 = 68 := by rw [B3.1]; rfl
  obtain ⟨N4, c4, a4⟩ := ci59_68 (R := znR Q3 2) (m := m2) (by rw [znR_00]; exact r4) (fun b hb => z4 b (by omega))
  have e5 := gi178_48 (o := 1) (l := 68) (R := Q3) (m := m2) ik1 ik68 (by unfold znl; exact r4) (by omega) (zrow_z (z4 68 (by decide))) c4
  obtain ⟨Q4, hQ4⟩ : ∃ q, zup N4 1 4 68 = q := ⟨_, rfl⟩
  have B4 : zSb 1 4 68 69 86 Q3 N4 (zup N4 1 4 68) := zSb_of r4 (zAr_be a4 rfl) (by decide) 4 (by decide)
  rw [hQ4] at e5 B4
  have z5 := z4
  have r5 : Q4 0 0 + 1 = 70 := by rw [B4.1]; rfl
  obtain ⟨N5, c5, a5⟩ := ci146_70 (R := znR Q4 15) (m := m2) (by rw [znR_00]; exact r5) (fun b hb => z5 b (by omega))
  have g1 : znR Q4 15 1 0 = 2 := by rw [znR_b (by decide) (by omega), B4.2.2.2.2.1 0 (by decide), B3.2.2.2.2.1 0 (by decide), B2.2.2.2.2.1 0 (by decide), B1.2.2.2.2.1 0 (by decide), B0.2.2.2.1]
  have g2 : znR Q4 15 2 0 = 3 := by rw [znR_b (by decide) (by omega), B4.2.2.2.2.2.1 2 (by decide) (by decide) (by decide), B3.2.2.2.2.2.1 2 (by decide) (by decide) (by decide), B2.2.2.2.2.2.1 2 (by decide) (by decide) (by decide), B1.2.2.2.2.2.1 2 (by decide) (by decide) (by decide), B0.2.2.2.2.2.2 2 (by decide) (by decide)]; exact t0.2.1
  have e6 := gi178_59 (o := 1) (l := 70) (R := Q4) (m := m2) ik1 ik70 (by unfold znl; exact r5) (by omega) (zrow_z (z5 70 (by decide))) g1 g2 ik2 c5
  obtain ⟨Q5, hQ5⟩ : ∃ q, zup N5 1 5 70 = q := ⟨_, rfl⟩
  have B5 : zSb 1 5 70 78 1075 Q4 N5 (zup N5 1 5 70) := zSb_of r5 (zAr_be a5 rfl) (by decide) 5 (by decide)
  rw [hQ5] at e6 B5
  have z6 : ∀ b, 70 < b → (zup m2 70 7 (-1)) b = fun _ => 0 := fun b hb => by rw [zup_row (by omega)]; exact z5 b (by omega)
  have r6 : Q5 0 0 + 1 = 79 := by rw [B5.1]; rfl
  obtain ⟨N6, c6, a6⟩ := ci131_79 (R := znR Q5 13) (m := (zup m2 70 7 (-1))) (by rw [znR_00]; exact r6) (fun b hb => z6 b (by omega))
  have g3 : znR Q5 13 1 5 = 70 := by rw [znR_b (by decide) (by omega)]; exact B5.2.2.2.1
  have e7 := gi178_77 (o := 1) (l := 79) (R := Q5) (m := (zup m2 70 7 (-1))) ik1 ik79 (by unfold znl; exact r6) (by omega) (zrow_z (z6 79 (by decide))) g3 c6
  obtain ⟨Q6, hQ6⟩ : ∃ q, zup N6 1 6 79 = q := ⟨_, rfl⟩
  have B6 : zSb 1 6 79 86 573 Q5 N6 (zup N6 1 6 79) := zSb_of r6 (zAr_be a6 rfl) (by decide) 6 (by decide)
  rw [hQ6] at e7 B6
  have z7 : ∀ b, 79 < b → (zup (zup m2 70 7 (-1)) 79 4 (-1)) b = fun _ => 0 := fun b hb => by rw [zup_row (by omega)]; exact z6 b (by omega)
  have r7 : Q6 0 0 + 1 = 87 := by rw [B6.1]; rfl
  obtain ⟨N7, c7, a7⟩ := ci74_87 (R := znR Q6 7) (m := (zup (zup m2 70 7 (-1)) 79 4 (-1))) (by rw [znR_00]; exact r7) (fun b hb => z7 b (by omega))
  have e8 := gi178_92 (o := 1) (l := 87) (R := Q6) (m := (zup (zup m2 70 7 (-1)) 79 4 (-1))) ik1 ik87 (by unfold znl; exact r7) (by omega) (zrow_z (z7 87 (by decide))) c7
  obtain ⟨Q7, hQ7⟩ : ∃ q, zup N7 1 7 87 = q := ⟨_, rfl⟩
  have B7 : zSb 1 7 87 90 25 Q6 N7 (zup N7 1 7 87) := zSb_of r7 (zAr_be a7 rfl) (by decide) 7 (by decide)
  rw [hQ7] at e8 B7
  have z8 := z7
  have r8 : Q7 0 0 + 1 = 91 := by rw [B7.1]; rfl
  obtain ⟨N8, c8, a8⟩ := ci70_91 (R := znR Q7 5) (m := (zup (zup m2 70 7 (-1)) 79 4 (-1))) (by rw [znR_00]; exact r8) (fun b hb => z8 b (by omega))
  have e9 := gi178_103 (o := 1) (l := 91) (R := Q7) (m := (zup (zup m2 70 7 (-1)) 79 4 (-1))) ik1 ik91 (by unfold znl; exact r8) (by omega) (zrow_z (z8 91 (by decide))) c8
  obtain ⟨Q8, hQ8⟩ : ∃ q, zup N8 1 8 91 = q := ⟨_, rfl⟩
  have B8 : zSb 1 8 91 95 69 Q7 N8 (zup N8 1 8 91) := zSb_of r8 (zAr_be a8 rfl) (by decide) 8 (by decide)
  rw [hQ8] at e9 B8
  have z9 := z8
  have r9 : Q8 0 0 + 1 = 96 := by rw [B8.1]; rfl
  obtain ⟨N9, c9, a9⟩ := ci105_96 (R := znR Q8 3) (m := (zup (zup m2 70 7 (-1)) 79 4 (-1))) (by rw [znR_00]; exact r9) (fun b hb => z9 b (by omega))
  have e10 := gi178_114 (o := 1) (l := 96) (R := Q8) (m := (zup (zup m2 70 7 (-1)) 79 4 (-1))) ik1 ik96 (by unfold znl; exact r9) (by omega) (zrow_z (z9 96 (by decide))) c9
  obtain ⟨Q9, hQ9⟩ : ∃ q, zup N9 1 9 96 = q := ⟨_, rfl⟩
  have B9 : zSb 1 9 96 99 523 Q8 N9 (zup N9 1 9 96) := zSb_of r9 (zAr_be a9 rfl) (by decide) 9 (by decide)
  rw [hQ9] at e10 B9
  have e11 := gi178_125 (o := 1) (R := Q9) (m := zpr (zup (zup m2 70 7 (-1)) 79 4 (-1)) 97 (zfll ((zup (zup m2 70 7 (-1)) 79 4 (-1)) 97) 4 (-1)))
  obtain ⟨x, hx⟩ : ∃ x, zpr (zup (zup m2 70 7 (-1)) 79 4 (-1)) 97 (zfll ((zup (zup m2 70 7 (-1)) 79 4 (-1)) 97) 4 (-1)) = x := ⟨_, rfl⟩
  rw [hx] at e10 e11
  have xo : ∀ b, b ≠ 70 → b ≠ 79 → b ≠ 97 → x b = m2 b := fun b b0 b1 b2 => by rw [← hx, zpr_ne b2, zup_row b1, zup_row b0]
  have xz : ∀ b, ¬ (3 ≤ b ∧ b ≤ 8) → ¬ (31 ≤ b ∧ b ≤ 36) → m2 b = fun _ => 0 := fun b b0 b1 => by
    rw [x1 b (by simp only [List.mem_cons, List.not_mem_nil, or_false, not_or]; omega), x0 b (by simp only [List.mem_cons, List.not_mem_nil, or_false, not_or]; omega)]
    exact hm b
  have x12 : ∀ b, 3 ≤ b → b ≤ 8 → m2 b = m1 b := fun b b0 b1 => x1 b (by simp only [List.mem_cons, List.not_mem_nil, or_false, not_or]; omega)
  have w2_ : Q9 2 = N0 2 := by rw [B9.2.2.2.2.2.1 2 (by decide) (by decide) (by decide), B8.2.2.2.2.2.1 2 (by decide) (by decide) (by decide), B7.2.2.2.2.2.1 2 (by decide) (by decide) (by decide), B6.2.2.2.2.2.1 2 (by decide) (by decide) (by decide), B5.2.2.2.2.2.1 2 (by decide) (by decide) (by decide), B4.2.2.2.2.2.1 2 (by decide) (by decide) (by decide), B3.2.2.2.2.2.1 2 (by decide) (by decide) (by decide), B2.2.2.2.2.2.1 2 (by decide) (by decide) (by decide), B1.2.2.2.2.2.1 2 (by decide) (by decide) (by decide), B0.2.2.2.2.2.2 2 (by decide) (by decide)]
  have w3_ : Q9 3 = N0 3 := by rw [B9.2.2.2.2.2.1 3 (by decide) (by decide) (by decide), B8.2.2.2.2.2.1 3 (by decide) (by decide) (by decide), B7.2.2.2.2.2.1 3 (by decide) (by decide) (by decide), B6.2.2.2.2.2.1 3 (by decide) (by decide) (by decide), B5.2.2.2.2.2.1 3 (by decide) (by decide) (by decide), B4.2.2.2.2.2.1 3 (by decide) (by decide) (by decide), B3.2.2.2.2.2.1 3 (by decide) (by decide) (by decide), B2.2.2.2.2.2.1 3 (by decide) (by decide) (by decide), B1.2.2.2.2.2.1 3 (by decide) (by decide) (by decide), B0.2.2.2.2.2.2 3 (by decide) (by decide)]
  have w9_ : Q9 9 = N0 9 := by rw [B9.2.2.2.2.2.1 9 (by decide) (by decide) (by decide), B8.2.2.2.2.2.1 9 (by decide) (by decide) (by decide), B7.2.2.2.2.2.1 9 (by decide) (by decide) (by decide), B6.2.2.2.2.2.1 9 (by decide) (by decide) (by decide), B5.2.2.2.2.2.1 9 (by decide) (by decide) (by decide), B4.2.2.2.2.2.1 9 (by decide) (by decide) (by decide), B3.2.2.2.2.2.1 9 (by decide) (by decide) (by decide), B2.2.2.2.2.2.1 9 (by decide) (by decide) (by decide), B1.2.2.2.2.2.1 9 (by decide) (by decide) (by decide), B0.2.2.2.2.2.2 9 (by decide) (by decide)]
  have w11_ : Q9 11 = N0 11 := by rw [B9.2.2.2.2.2.1 11 (by decide) (by decide) (by decide), B8.2.2.2.2.2.1 11 (by decide) (by decide) (by decide), B7.2.2.2.2.2.1 11 (by decide) (by decide) (by decide), B6.2.2.2.2.2.1 11 (by decide) (by decide) (by decide), B5.2.2.2.2.2.1 11 (by decide) (by decide) (by decide), B4.2.2.2.2.2.1 11 (by decide) (by decide) (by decide), B3.2.2.2.2.2.1 11 (by decide) (by decide) (by decide), B2.2.2.2.2.2.1 11 (by decide) (by decide) (by decide), B1.2.2.2.2.2.1 11 (by decide) (by decide) (by decide), B0.2.2.2.2.2.2 11 (by decide) (by decide)]
  have w30_ : Q9 30 = N1 30 := by rw [B9.2.2.2.2.2.1 30 (by decide) (by decide) (by decide), B8.2.2.2.2.2.1 30 (by decide) (by decide) (by decide), B7.2.2.2.2.2.1 30 (by decide) (by decide) (by decide), B6.2.2.2.2.2.1 30 (by decide) (by decide) (by decide), B5.2.2.2.2.2.1 30 (by decide) (by decide) (by decide), B4.2.2.2.2.2.1 30 (by decide) (by decide) (by decide), B3.2.2.2.2.2.1 30 (by decide) (by decide) (by decide), B2.2.2.2.2.2.1 30 (by decide) (by decide) (by decide), B1.2.2.2.2.2.2 30 (by decide) (by decide)]
  have w31_ : Q9 31 = N1 31 := by rw [B9.2.2.2.2.2.1 31 (by decide) (by decide) (by decide), B8.2.2.2.2.2.1 31 (by decide) (by decide) (by decide), B7.2.2.2.2.2.1 31 (by decide) (by decide) (by decide), B6.2.2.2.2.2.1 31 (by decide) (by decide) (by decide), B5.2.2.2.2.2.1 31 (by decide) (by decide) (by decide), B4.2.2.2.2.2.1 31 (by decide) (by decide) (by decide), B3.2.2.2.2.2.1 31 (by decide) (by decide) (by decide), B2.2.2.2.2.2.1 31 (by decide) (by decide) (by decide), B1.2.2.2.2.2.2 31 (by decide) (by decide)]
  have w37_ : Q9 37 = N1 37 := by rw [B9.2.2.2.2.2.1 37 (by decide) (by decide) (by decide), B8.2.2.2.2.2.1 37 (by decide) (by decide) (by decide), B7.2.2.2.2.2.1 37 (by decide) (by decide) (by decide), B6.2.2.2.2.2.1 37 (by decide) (by decide) (by decide), B5.2.2.2.2.2.1 37 (by decide) (by decide) (by decide), B4.2.2.2.2.2.1 37 (by decide) (by decide) (by decide), B3.2.2.2.2.2.1 37 (by decide) (by decide) (by decide), B2.2.2.2.2.2.1 37 (by decide) (by decide) (by decide), B1.2.2.2.2.2.2 37 (by decide) (by decide)]
  have w39_ : Q9 39 = N1 39 := by rw [B9.2.2.2.2.2.1 39 (by decide) (by decide) (by decide), B8.2.2.2.2.2.1 39 (by decide) (by decide) (by decide), B7.2.2.2.2.2.1 39 (by decide) (by decide) (by decide), B6.2.2.2.2.2.1 39 (by decide) (by decide) (by decide), B5.2.2.2.2.2.1 39 (by decide) (by decide) (by decide), B4.2.2.2.2.2.1 39 (by decide) (by decide) (by decide), B3.2.2.2.2.2.1 39 (by decide) (by decide) (by decide), B2.2.2.2.2.2.1 39 (by decide) (by decide) (by decide), B1.2.2.2.2.2.2 39 (by decide) (by decide)]
  have w58_ : Q9 58 = N2 58 := by rw [B9.2.2.2.2.2.1 58 (by decide) (by decide) (by decide), B8.2.2.2.2.2.1 58 (by decide) (by decide) (by decide), B7.2.2.2.2.2.1 58 (by decide) (by decide) (by decide), B6.2.2.2.2.2.1 58 (by decide) (by decide) (by decide), B5.2.2.2.2.2.1 58 (by decide) (by decide) (by decide), B4.2.2.2.2.2.1 58 (by decide) (by decide) (by decide), B3.2.2.2.2.2.1 58 (by decide) (by decide) (by decide), B2.2.2.2.2.2.2 58 (by decide) (by decide)]
  have w62_ : Q9 62 = N2 62 := by rw [B9.2.2.2.2.2.1 62 (by decide) (by decide) (by decide), B8.2.2.2.2.2.1 62 (by decide) (by decide) (by decide), B7.2.2.2.2.2.1 62 (by decide) (by decide) (by decide), B6.2.2.2.2.2.1 62 (by decide) (by decide) (by decide), B5.2.2.2.2.2.1 62 (by decide) (by decide) (by decide), B4.2.2.2.2.2.1 62 (by decide) (by decide) (by decide), B3.2.2.2.2.2.1 62 (by decide) (by decide) (by decide), B2.2.2.2.2.2.2 62 (by decide) (by decide)]
  have w63_ : Q9 63 = N3 63 := by rw [B9.2.2.2.2.2.1 63 (by decide) (by decide) (by decide), B8.2.2.2.2.2.1 63 (by decide) (by decide) (by decide), B7.2.2.2.2.2.1 63 (by decide) (by decide) (by decide), B6.2.2.2.2.2.1 63 (by decide) (by decide) (by decide), B5.2.2.2.2.2.1 63 (by decide) (by decide) (by decide), B4.2.2.2.2.2.1 63 (by decide) (by decide) (by decide), B3.2.2.2.2.2.2 63 (by decide) (by decide)]
  have w68_ : Q9 68 = N4 68 := by rw [B9.2.2.2.2.2.1 68 (by decide) (by decide) (by decide), B8.2.2.2.2.2.1 68 (by decide) (by decide) (by decide), B7.2.2.2.2.2.1 68 (by decide) (by decide) (by decide), B6.2.2.2.2.2.1 68 (by decide) (by decide) (by decide), B5.2.2.2.2.2.1 68 (by decide) (by decide) (by decide), B4.2.2.2.2.2.2 68 (by decide) (by decide)]
  have w70_ : Q9 70 = N5 70 := by rw [B9.2.2.2.2.2.1 70 (by decide) (by decide) (by decide), B8.2.2.2.2.2.1 70 (by decide) (by decide) (by decide), B7.2.2.2.2.2.1 70 (by decide) (by decide) (by decide), B6.2.2.2.2.2.1 70 (by decide) (by decide) (by decide), B5.2.2.2.2.2.2 70 (by decide) (by decide)]
  have w79_ : Q9 79 = N6 79 := by rw [B9.2.2.2.2.2.1 79 (by decide) (by decide) (by decide), B8.2.2.2.2.2.1 79 (by decide) (by decide) (by decide), B7.2.2.2.2.2.1 79 (by decide) (by decide) (by decide), B6.2.2.2.2.2.2 79 (by decide) (by decide)]
  have w87_ : Q9 87 = N7 87 := by rw [B9.2.2.2.2.2.1 87 (by decide) (by decide) (by decide), B8.2.2.2.2.2.1 87 (by decide) (by decide) (by decide), B7.2.2.2.2.2.2 87 (by decide) (by decide)]
  have w91_ : Q9 91 = N8 91 := by rw [B9.2.2.2.2.2.1 91 (by decide) (by decide) (by decide), B8.2.2.2.2.2.2 91 (by decide) (by decide)]
  have w96_ : Q9 96 = N9 96 := by rw [B9.2.2.2.2.2.2 96 (by decide) (by decide)]
  have u0 : Q9 1 0 = 2 := by rw [B9.2.2.2.2.1 0 (by decide), B8.2.2.2.2.1 0 (by decide), B7.2.2.2.2.1 0 (by decide), B6.2.2.2.2.1 0 (by decide), B5.2.2.2.2.1 0 (by decide), B4.2.2.2.2.1 0 (by decide), B3.2.2.2.2.1 0 (by decide), B2.2.2.2.2.1 0 (by decide), B1.2.2.2.2.1 0 (by decide)]; exact B0.2.2.2.1
  have u1 : Q9 1 1 = 30 := by rw [B9.2.2.2.2.1 1 (by decide), B8.2.2.2.2.1 1 (by decide), B7.2.2.2.2.1 1 (by decide), B6.2.2.2.2.1 1 (by decide), B5.2.2.2.2.1 1 (by decide), B4.2.2.2.2.1 1 (by decide), B3.2.2.2.2.1 1 (by decide), B2.2.2.2.2.1 1 (by decide)]; exact B1.2.2.2.1
  have u2 : Q9 1 2 = 58 := by rw [B9.2.2.2.2.1 2 (by decide), B8.2.2.2.2.1 2 (by decide), B7.2.2.2.2.1 2 (by decide), B6.2.2.2.2.1 2 (by decide), B5.2.2.2.2.1 2 (by decide), B4.2.2.2.2.1 2 (by decide), B3.2.2.2.2.1 2 (by decide)]; exact B2.2.2.2.1
  have u3 : Q9 1 3 = 63 := by rw [B9.2.2.2.2.1 3 (by decide), B8.2.2.2.2.1 3 (by decide), B7.2.2.2.2.1 3 (by decide), B6.2.2.2.2.1 3 (by decide), B5.2.2.2.2.1 3 (by decide), B4.2.2.2.2.1 3 (by decide)]; exact B3.2.2.2.1
  have u4 : Q9 1 4 = 68 := by rw [B9.2.2.2.2.1 4 (by decide), B8.2.2.2.2.1 4 (by decide), B7.2.2.2.2.1 4 (by decide), B6.2.2.2.2.1 4 (by decide), B5.2.2.2.2.1 4 (by decide)]; exact B4.2.2.2.1
  have u5 : Q9 1 5 = 70 := by rw [B9.2.2.2.2.1 5 (by decide), B8.2.2.2.2.1 5 (by decide), B7.2.2.2.2.1 5 (by decide), B6.2.2.2.2.1 5 (by decide)]; exact B5.2.2.2.1
  have u6 : Q9 1 6 = 79 := by rw [B9.2.2.2.2.1 6 (by decide), B8.2.2.2.2.1 6 (by decide), B7.2.2.2.2.1 6 (by decide)]; exact B6.2.2.2.1
  have u7 : Q9 1 7 = 87 := by rw [B9.2.2.2.2.1 7 (by decide), B8.2.2.2.2.1 7 (by decide)]; exact B7.2.2.2.1
  have u8 : Q9 1 8 = 91 := by rw [B9.2.2.2.2.1 8 (by decide)]; exact B8.2.2.2.1
  have u9 : Q9 1 9 = 96 := by exact B9.2.2.2.1
  refine ⟨Q9, x, e0.trans (e1.trans (e2.trans (e3.trans (e4.trans (e5.trans (e6.trans (e7.trans (e8.trans (e9.trans (e10.trans (e11))))))))))), ⟨B9.1, ?_, fun k k0 k1 => ?_, fun b hb => ?_⟩, ⟨TK_rc w2_ w3_ w9_ w11_ t0, TK_rc w30_ w31_ w37_ w39_ t1, LK_D ⟨ik68, by rw [w68_]; exact a4.2.2.2.1 (1, 69) (by decide), ik69, il69⟩, ⟨u0, u1, u2, u3, u4, u5, u6, u7, u8, u9⟩, ⟨(by rw [w58_]; exact a2.2.2.2.1 (1, 59) (by decide)), (by rw [w58_]; exact a2.2.2.2.1 (2, 60) (by decide)), (by rw [w58_]; exact a2.2.2.2.1 (3, 61) (by decide)), (by rw [w58_]; exact a2.2.2.2.1 (4, 62) (by decide))⟩, ⟨(by rw [w63_]; exact a3.2.2.2.1 (3, 64) (by decide)), (by rw [w63_]; exact a3.2.2.2.1 (5, 65) (by decide)), (by rw [w63_]; exact a3.2.2.2.1 (6, 66) (by decide)), (by rw [w63_]; exact a3.2.2.2.1 (7, 67) (by decide))⟩, ⟨(by rw [w70_]; exact a5.2.2.2.1 (0, 3) (by decide)), (by rw [w70_]; exact a5.2.2.2.1 (2, 71) (by decide)), (by rw [w70_]; exact a5.2.2.2.1 (3, 72) (by decide)), (by rw [w70_]; exact a5.2.2.2.1 (4, 73) (by decide)), (by rw [w70_]; exact a5.2.2.2.1 (5, 74) (by decide)), (by rw [w70_]; exact a5.2.2.2.1 (6, 75) (by decide)), (by rw [w70_]; exact a5.2.2.2.1 (8, 76) (by decide)), (by rw [w70_]; exact a5.2.2.2.1 (9, 77) (by decide)), (by rw [w70_]; exact a5.2.2.2.1 (12, 78) (by decide))⟩, ⟨(by rw [w79_]; exact a6.2.2.2.1 (0, 70) (by decide)), (by rw [w79_]; exact a6.2.2.2.1 (6, 80) (by decide)), (by rw [w79_]; exact a6.2.2.2.1 (7, 81) (by decide)), (by rw [w79_]; exact a6.2.2.2.1 (8, 82) (by decide)), (by rw [w79_]; exact a6.2.2.2.1 (9, 83) (by decide)), (by rw [w79_]; exact a6.2.2.2.1 (10, 84) (by decide)), (by rw [w79_]; exact a6.2.2.2.1 (11, 85) (by decide)), (by rw [w79_]; exact a6.2.2.2.1 (12, 86) (by decide))⟩, ⟨(by rw [w87_]; exact a7.2.2.2.1 (4, 88) (by decide)), (by rw [w87_]; exact a7.2.2.2.1 (5, 89) (by decide)), (by rw [w87_]; exact a7.2.2.2.1 (6, 90) (by decide))⟩, ⟨(by rw [w91_]; exact a8.2.2.2.1 (1, 92) (by decide)), (by rw [w91_]; exact a8.2.2.2.1 (2, 93) (by decide)), (by rw [w91_]; exact a8.2.2.2.1 (3, 94) (by decide)), (by rw [w91_]; exact a8.2.2.2.1 (4, 95) (by decide))⟩, ⟨(by rw [w96_]; exact a9.2.2.2.1 (0, 97) (by decide)), (by rw [w96_]; exact a9.2.2.2.1 (1, 98) (by decide)), (by rw [w96_]; exact a9.2.2.2.1 (2, 99) (by decide))⟩⟩, fun k => ?_, ⟨?_, ?_, ?_, ?_⟩, fun b b0 b1 b2 b3 b4 => ?_, ?_, ?_, ?_⟩
  · rw [B9.2.1, B8.2.1, B7.2.1, B6.2.1, B5.2.1, B4.2.1, B3.2.1, B2.2.1, B1.2.1, B0.2.1]; omega
  · rw [B9.2.2.1 k k0 k1, B8.2.2.1 k k0 k1, B7.2.2.1 k k0 k1, B6.2.2.1 k k0 k1, B5.2.2.1 k k0 k1, B4.2.2.1 k k0 k1, B3.2.2.1 k k0 k1, B2.2.2.1 k k0 k1, B1.2.2.1 k k0 k1, B0.2.2.1 k k0 k1]
  · rw [B9.2.2.2.2.2.1 b (by omega) (by omega) (by omega), B8.2.2.2.2.2.1 b (by omega) (by omega) (by omega), B7.2.2.2.2.2.1 b (by omega) (by omega) (by omega), B6.2.2.2.2.2.1 b (by omega) (by omega) (by omega), B5.2.2.2.2.2.1 b (by omega) (by omega) (by omega), B4.2.2.2.2.2.1 b (by omega) (by omega) (by omega), B3.2.2.2.2.2.1 b (by omega) (by omega) (by omega), B2.2.2.2.2.2.1 b (by omega) (by omega) (by omega), B1.2.2.2.2.2.1 b (by omega) (by omega) (by omega), B0.2.2.2.2.2.1 b (by omega) (by omega) (by omega)]
  · rw [w62_]; exact a2.2.2.2.2.2.1 62 (by decide) (by decide) k
  · exact BN_c (fun b b0 b1 => by rw [xo b (by omega) (by omega) (by omega), x12 b (by omega) (by omega)]) y0
  · rw [xo 3 (by decide) (by decide) (by decide), x12 3 (by decide) (by decide)]; exact w0
  · exact BN_c (fun b b0 b1 => xo b (by omega) (by omega) (by omega)) y1
  · rw [xo 31 (by decide) (by decide) (by decide)]; exact w1
  · rw [xo b b2 b3 b4]; exact xz b b0 b1
  · rw [← hx, zpr_ne (by decide), zup_row (by decide), zup_zpr, zpr_at, xz 70 (by decide) (by decide)]
  · rw [← hx, zpr_ne (by decide), zup_zpr, zpr_at, zup_row (by decide), xz 79 (by decide) (by decide)]
  · rw [← hx, zpr_at, zup_row (by decide), zup_row (by decide), xz 97 (by decide) (by decide)]
