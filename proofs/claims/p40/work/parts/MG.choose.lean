/-! all sets of plans; the class's choice is the law's -/
theorem pCo_0 (C : Int → Int) : ∀ j : Nat, pCo C 0 j = 0 := by
  intro j
  induction j with
  | zero => rfl
  | succ j ih => simp only [pCo]; rw [ih, ybt_0, if_neg (by decide)]; rfl
theorem pGU_0 (P Kd G U : Int → Int) : ∀ j : Nat, pGU P Kd G U 0 j = (G, U) := by
  intro j
  induction j with
  | zero => rfl
  | succ j ih => rw [pGU, ybt_0, if_neg (by decide), ih]
theorem pCan_0 (P G U : Int → Int) (n : Nat) : pCan P G U 0 n = true := pCan_iff.2 (fun b _ h => by rw [ybt_0] at h; cases h)
theorem pSW_c {m m' : zM} (h3 : m' 3 0 = m 3 0 ∧ m' 3 2 = m 3 2) (h9 : m' 9 = m 9) (h2 : m' 2 = m 2) (h10 : m' 10 = m 10) : pSW m' 2 = pSW m 2 := by
  funext G U
  show zsow (m' 3 2) (m' 3 0) (m' 9 0) (m' 2 3) G U (m' 10) = zsow (m 3 2) (m 3 0) (m 9 0) (m 2 3) G U (m 10)
  rw [h3.1, h3.2, h9, h2, h10]
theorem pBm_c {m m' : zM} {n : Nat} {B : Int} (h3 : m' 3 0 = m 3 0 ∧ m' 3 2 = m 3 2) (h9 : m' 9 = m 9) (h2 : m' 2 = m 2) (h10 : m' 10 = m 10) (h4 : m' 4 = m 4) (h6 : m' 6 = m 6) (h88 : m' 88 = m 88) (h89 : m' 89 = m 89) (h90 : m' 90 = m 90) (k : Nat) : pBm m' 2 n B k = pBm m 2 n B k := by
  show pBt (pSW m' 2) (m' 88) (m' 89) (m' 90) (m' 4) (m' 6) n B k = pBt (pSW m 2) (m 88) (m 89) (m 90) (m 4) (m 6) n B k
  rw [pSW_c h3 h9 h2 h10, h4, h6, h88, h89, h90]
section CHOOSE
variable {R m : zM} {x w h N a b d B bs bm bc s e g c : Int} {n np : Nat} {KK : Nat → Int → Int}
theorem l_best0 {v15 v16 v17 v18 v19 v20 v21 v22 v23 v24 : zV} (hLS : LSr R w h KK n) (hPR : PR R a b d) (hLP : LPl m w h N KK n a b d np) (hc : R 0 0 = c) (h99 : c < 9000) (hB : 0 ≤ B ∧ B ≤ 99) : ∀ j : Nat, j + 1 ≤ 2 ^ np → ∃ (R' m' : zM) (bs bm bc : Int) (u15 u16 u17 u18 u19 u20 u21 u22 u23 u24 : zV), ev 0 297 [(4, x), (2, 1), (2, 100), (0, (n : Int)), (0, N), (0, w), (0, (np : Int)), (2, a), (2, b), (2, d), (0, B), (0, 0), (0, 0), (0, 0), (0, 0), v15, v16, v17, v18, v19, v20, v21, v22, v23, v24] [] R m = ev 0 297 [(4, x), (2, 1), (2, 100), (0, (n : Int)), (0, N), (0, w), (0, (np : Int)), (2, a), (2, b), (2, d), (0, B), (0, bs), (0, bm), (0, bc), (0, (j : Int) + 1), u15, u16, u17, u18, u19, u20, u21, u22, u23, u24] [] R' m' ∧ RE R R' ∧ R' 0 0 = c + 2 * ((j : Int) + 1) ∧ R' 0 1 = R 0 1 + 32 * ((j : Int) + 1) ∧ (∀ b, b ≤ c → m' b = m b) ∧ bs = (pBm m 2 np B j).1 ∧ bm = (pBm m 2 np B j).2 ∧ bc = pCo (m 90) bs np := by
  have h5 := hLP.2.2.2.2.2.2
  obtain ⟨w2a, w2b⟩ := pw_b (n := np) (by omega)
  have h104 : 104 ≤ c := by have := hPR.2.2.2.2.2.2; omega
  have ha : a ≤ c := by have := hPR.2.2.2.1.2; omega
  have hb : b ≤ c := by have := hPR.2.2.2.2.1.2; omega
  have hd : d ≤ c := by have := hPR.2.2.2.2.2.1.2; omega
  intro j
  induction j with
  | zero =>
    intro _
    obtain ⟨R', m', bs, bm, bc, u15, u16, u17, u18, u19, u20, u21, u22, u23, u24, A, E, n0, s0, f, q⟩ := l_pass (R := R) (m := m) (x := x) (B := B) (bs := 0) (bm := 0) (bc := 0) (s := 0) (v15 := v15) (v16 := v16) (v17 := v17) (v18 := v18) (v19 := v19) (v20 := v20) (v21 := v21) (v22 := v22) (v23 := v23) (v24 := v24) hLS hPR hLP hc (by omega) ⟨Int.le_refl _, by omega⟩ hB
    rw [pCo_0, pCan_0, pGU_0, if_pos ⟨⟨hB.1, rfl⟩, Or.inl rfl⟩] at q
    refine ⟨R', m', bs, bm, bc, u15, u16, u17, u18, u19, u20, u21, u22, u23, u24, A, E, by rw [n0]; rfl, by rw [s0]; rfl, f, q.1, q.2.1, ?_⟩
    rw [q.1, pCo_0]; exact q.2.2
  | succ j ih =>
    intro hj
    obtain ⟨R1, m1, bs, bm, bc, v15, v16, v17, v18, v19, v20, v21, v22, v23, v24, A1, E1, n1, s1, f1, q1, q2, q3⟩ := ih (by omega)
    obtain ⟨R', m', bs', bm', bc', u15, u16, u17, u18, u19, u20, u21, u22, u23, u24, A, E, n0, s0, f, q⟩ := l_pass (R := R1) (m := m1) (x := x) (B := B) (bs := bs) (bm := bm) (bc := bc) (s := (j : Int) + 1) (c := c + 2 * ((j : Int) + 1)) (v15 := v15) (v16 := v16) (v17 := v17) (v18 := v18) (v19 := v19) (v20 := v20) (v21 := v21) (v22 := v22) (v23 := v23) (v24 := v24) (LSr_E E1 hLS (by omega)) (PR_E E1 hPR) (LPl_c f1 ⟨h104, ha, hb, hd⟩ hLP) n1 (by omega) ⟨by omega, by omega⟩ hB
    rw [f1 88 (by omega), f1 89 (by omega), f1 90 (by omega), f1 4 (by omega), f1 6 (by omega), pSW_c ⟨by rw [f1 3 (by omega)], by rw [f1 3 (by omega)]⟩ (f1 9 (by omega)) (f1 2 (by omega)) (f1 10 (by omega))] at q
    have e1 : ((j + 1 : Nat) : Int) = (j : Int) + 1 := rfl
    have eB : pBm m 2 np B (j + 1) = if (pCo (m 90) ((j : Int) + 1) np ≤ B ∧ pCan (m 88) (m 4) (m 6) ((j : Int) + 1) np = true) ∧ ((pBm m 2 np B j).2 < pSW m 2 (pGU (m 88) (m 89) (m 4) (m 6) ((j : Int) + 1) np).1 (pGU (m 88) (m 89) (m 4) (m 6) ((j : Int) + 1) np).2 ∨ ((pBm m 2 np B j).2 = pSW m 2 (pGU (m 88) (m 89) (m 4) (m 6) ((j : Int) + 1) np).1 (pGU (m 88) (m 89) (m 4) (m 6) ((j : Int) + 1) np).2 ∧ pCo (m 90) ((j : Int) + 1) np < pCo (m 90) (pBm m 2 np B j).1 np)) then ((j : Int) + 1, pSW m 2 (pGU (m 88) (m 89) (m 4) (m 6) ((j : Int) + 1) np).1 (pGU (m 88) (m 89) (m 4) (m 6) ((j : Int) + 1) np).2) else pBm m 2 np B j := rfl
    have n0' : ¬ (j : Int) + 1 = 0 := by omega
    rw [e1]
    refine ⟨R', m', bs', bm', bc', u15, u16, u17, u18, u19, u20, u21, u22, u23, u24, A1.trans A, RE_tr E1 E, by rw [n0]; omega, by rw [s0, s1]; omega, fun b hb => by rw [f b (by omega), f1 b hb], ?_⟩
    rw [← q1] at eB
    rw [← q2] at eB
    rw [q3] at q
    rw [eB]
    obtain ⟨co, hco⟩ : ∃ z, pCo (m 90) ((j : Int) + 1) np = z := ⟨_, rfl⟩
    obtain ⟨sw, hsw⟩ : ∃ z, pSW m 2 (pGU (m 88) (m 89) (m 4) (m 6) ((j : Int) + 1) np).1 (pGU (m 88) (m 89) (m 4) (m 6) ((j : Int) + 1) np).2 = z := ⟨_, rfl⟩
    rw [hco, hsw] at q
    rw [hco, hsw]
    by_cases cc : (co ≤ B ∧ pCan (m 88) (m 4) (m 6) ((j : Int) + 1) np = true) ∧ (bm < sw ∨ (bm = sw ∧ co < pCo (m 90) bs np))
    · rw [if_pos ⟨cc.1, Or.inr cc.2⟩] at q
      rw [if_pos cc]
      exact ⟨q.1, q.2.1, by rw [q.1, hco]; exact q.2.2⟩
    · rw [if_neg (fun z => cc ⟨z.1, z.2.elim (fun y => absurd y n0') (fun y => y)⟩)] at q
      rw [if_neg cc]
      exact ⟨by rw [q.1]; exact q1, by rw [q.2.1]; exact q2, by rw [q.1]; exact q.2.2⟩
theorem l_best {u11 u12 u13 : zV} (hLS : LSr R w h KK n) (hPR : PR R a b d) (hLP : LPl m w h N KK n a b d np) (hc : R 0 0 = c) (h99 : c < 9000) : ∃ (R' m' : zM) (B : Int) (u15 u16 u17 u18 u19 u20 u21 u22 u23 u24 : zV), ev 0 272 [(4, x), (2, 1), (2, 100), (0, (n : Int)), (0, N), (0, w), (0, (np : Int)), (2, a), (2, b), (2, d), (0, 5), u11, u12, u13, (9, 0), (9, 0), (9, 0), (9, 0), (9, 0), (9, 0), (9, 0), (9, 0), (9, 0), (9, 0), (9, 0)] [] R m = ev 0 777 [(4, x), (2, 1), (2, 100), (0, (n : Int)), (0, N), (0, w), (0, (np : Int)), (2, a), (2, b), (2, d), (0, B), (0, (pBm m 2 np B (2 ^ np - 1)).1), (0, (pBm m 2 np B (2 ^ np - 1)).2), (0, pCo (m 90) (pBm m 2 np B (2 ^ np - 1)).1 np), (0, ((2 ^ np : Nat) : Int)), u15, u16, u17, u18, u19, u20, u21, u22, u23, u24] [] R' m' ∧ (0 ≤ B ∧ B ≤ 99) ∧ RE R R' ∧ (R' 0 0 ≤ c + 128) ∧ (R 0 1 ≤ R' 0 1 ∧ R' 0 1 ≤ R 0 1 + 2048) ∧ (∀ b, b ≤ c → m' b = m b) := by
  have h5 := hLP.2.2.2.2.2.2
  obtain ⟨w2a, w2b⟩ := pw_b (n := np) (by omega)
  have C1 := l_cell (R := R) (m := m) (k := 53) x (by omega) hLS.2.1
  obtain ⟨x1, h1⟩ : ∃ q, lC R 53 = q := ⟨_, rfl⟩
  rw [h1] at C1
  have P1 := l_part x1 (n := 50) (by omega) (by omega) R m
  obtain ⟨B, hB⟩ : ∃ q, lP x1 50 = q := ⟨_, rfl⟩
  have bB : 0 ≤ B ∧ B < 50 := by rw [← hB]; exact lP_bd _ (by omega)
  rw [hB] at P1
  obtain ⟨R', m', bs, bm, bc, v15, v16, v17, v18, v19, v20, v21, v22, v23, v24, A, E, n0, s0, f, q1, q2, q3⟩ := l_best0 (R := R) (m := m) (x := x) (B := B) (v15 := (9, 0)) (v16 := (9, 0)) (v17 := (9, 0)) (v18 := (9, 0)) (v19 := (9, 0)) (v20 := (9, 0)) (v21 := (9, 0)) (v22 := (9, 0)) (v23 := (9, 0)) (v24 := (9, 0)) hLS hPR hLP hc h99 (by omega) (2 ^ np - 1) (by omega)
  rw [show ((2 ^ np - 1 : Nat) : Int) + 1 = ((2 ^ np : Nat) : Int) by omega] at A
  have pw := pw_n (n := np) (by omega)
  refine ⟨R', m', B, v15, v16, v17, v18, v19, v20, v21, v22, v23, v24, ?_, by omega, E, by omega, by omega, f⟩
  rw [← q1, ← q2, ← q3]
  have T : ev 0 272 [(4, x), (2, 1), (2, 100), (0, (n : Int)), (0, N), (0, w), (0, (np : Int)), (2, a), (2, b), (2, d), (0, 5), u11, u12, u13, (9, 0), (9, 0), (9, 0), (9, 0), (9, 0), (9, 0), (9, 0), (9, 0), (9, 0), (9, 0), (9, 0)] [] R m = ev 0 297 [(4, x), (2, 1), (2, 100), (0, (n : Int)), (0, N), (0, w), (0, (np : Int)), (2, a), (2, b), (2, d), (0, B), (0, 0), (0, 0), (0, 0), (0, 0), (9, 0), (9, 0), (9, 0), (9, 0), (9, 0), (9, 0), (9, 0), (9, 0), (9, 0), (9, 0)] [] R m := by
    simp only [s0_272, s0_273, s0_275, s0_278, s0_280, s0_283, s0_285, s0_286, s0_288, s0_289, s0_291, s0_292, s0_294, s0_295, zps_0, zps_1, zps_2, zps_3, zps_9, Option.bind_some, Option.bind_none, Int.reduceEq, Int.reduceNe, Int.reduceLT, Int.reduceLE, Int.reduceNeg, Int.reduceAdd, Int.reduceSub, Int.reduceMul, reduceIte, if_true, if_false, true_and, and_true, false_and, and_false, or_true, true_or, or_false, false_or, not_true_eq_false, not_false_eq_true, ite_not, z_b0, z_b1, z_b01, C1, P1]
  rw [T, A, s0_297]
  simp only [s0_299, s0_300, s0_302, s0_303, zps_0, zps_1, zps_2, zps_3, zps_9, Option.bind_some, Option.bind_none, Int.reduceEq, Int.reduceNe, Int.reduceLT, Int.reduceLE, Int.reduceNeg, Int.reduceAdd, Int.reduceSub, Int.reduceMul, reduceIte, if_true, if_false, true_and, and_true, false_and, and_false, or_true, true_or, or_false, false_or, not_true_eq_false, not_false_eq_true, ite_not, z_b0, z_b1, z_b01, pw, Int.le_refl, if_true]
end CHOOSE
