/-! a set of plans, all of its pass; the best of all sets -/
theorem zsow_congr {N w ln y : Int} {G G' U U' L : Int → Int} (h : ∀ q, 0 ≤ q → q < N → G q = G' q ∧ U q = U' q) : zsow N w ln y G U L = zsow N w ln y G' U' L := by
  unfold zsow
  refine zsum_congr (fun k k0 k1 => ?_)
  rw [(h k k0 (by omega)).2, zworth_congr h]
/-- what the law knows after its plans are told -/
def LPl (m : zM) (w h N : Int) (KK : Nat → Int → Int) (n : Nat) (a b d : Int) (np : Nat) : Prop := SV m 40 ∧ LSm m w N KK n ∧ PLs m np N ∧ (∀ i : Int, 0 ≤ i → i < np → m a i = m 88 i ∧ m b i = m 89 i ∧ m d i = m 90 i) ∧ (∀ i : Int, 0 ≤ i → i < np → m 4 (m 88 i) = 0 ∧ m 6 (m 88 i) = 0) ∧ (1 ≤ N ∧ N ≤ 16) ∧ np ≤ 5
def PR (R : zM) (a b d : Int) : Prop := IR R a 8 ∧ IR R b 8 ∧ IR R d 8 ∧ (100 < a ∧ a ≤ R 0 0) ∧ (100 < b ∧ b ≤ R 0 0) ∧ (100 < d ∧ d ≤ R 0 0) ∧ 104 ≤ R 0 0
theorem PR_E {R R' : zM} {a b d : Int} (E : RE R R') (h : PR R a b d) : PR R' a b d := by
  obtain ⟨h1, h2, h3, h4, h5, h6, h7⟩ := h
  have e := E.1
  exact ⟨IR_E E h4.2 h1, IR_E E h5.2 h2, IR_E E h6.2 h3, ⟨h4.1, by omega⟩, ⟨h5.1, by omega⟩, ⟨h6.1, by omega⟩, by omega⟩
theorem LPl_c {m m' : zM} {w h N a b d c : Int} {KK : Nat → Int → Int} {n np : Nat} (f : ∀ b, b ≤ c → m' b = m b) (hc : 104 ≤ c ∧ a ≤ c ∧ b ≤ c ∧ d ≤ c) (hL : LPl m w h N KK n a b d np) : LPl m' w h N KK n a b d np := by
  obtain ⟨h1, ⟨h20, h21, h22, h23, h24, h25⟩, h3, h4, h5, h6⟩ := hL
  refine ⟨SV_c (fun q q0 q1 => f q (by omega)) h1, ⟨?_, ?_, ?_, ?_, ?_, ?_⟩, PLs_c (fun q q0 q1 => f q (by omega)) h3, ?_, ?_, h6⟩
  · rw [f 3 (by omega)]; exact h20
  · rw [f 9 (by omega)]; exact h21
  · rw [f 10 (by omega)]; exact h22
  · unfold LRw; rw [f 100 (by omega)]; exact h23
  · rw [f 63 (by omega)]; exact h24
  · rw [f 2 (by omega)]; exact h25
  · rw [f a (by omega), f b (by omega), f d (by omega), f 88 (by omega), f 89 (by omega), f 90 (by omega)]; exact h4
  · rw [f 4 (by omega), f 6 (by omega), f 88 (by omega)]; exact h5
section BEST
variable {R m : zM} {x w h N a b d B bs bm bc s e g c : Int} {n np : Nat} {KK : Nat → Int → Int}
theorem l_setk {m0 : zM} {v21 v22 v23 v24 : zV} {P Kd C : Int → Int} (hIa : IR R a 8) (hIb : IR R b 8) (hId : IR R d 8) (hIe : IR R e 16) (hIg : IR R g 16) (hne : a ≠ e ∧ a ≠ g ∧ b ≠ e ∧ b ≠ g ∧ d ≠ e ∧ d ≠ g ∧ e ≠ g) (hN : N ≤ 16) (hnp : np ≤ 5) (hr : ∀ i : Int, 0 ≤ i → i < np → m0 a i = P i ∧ m0 b i = Kd i ∧ m0 d i = C i) (hP : ∀ i : Int, 0 ≤ i → i < np → (0 ≤ P i ∧ P i < N) ∧ (0 ≤ C i ∧ C i ≤ 99)) (hbare : ∀ i : Int, 0 ≤ i → i < np → m0 4 (P i) = 0 ∧ m0 6 (P i) = 0) (h0 : ∀ q, 0 ≤ q → q < N → m0 e q = m0 6 q ∧ m0 g q = m0 4 q) : ∃ (m' : zM) (se : Int), ev 0 370 [(4, x), (2, 1), (2, 100), (0, (n : Int)), (0, N), (0, w), (0, (np : Int)), (2, a), (2, b), (2, d), (0, B), (0, bs), (0, bm), (0, bc), (0, s), (2, e), (2, g), (0, 0), (0, 1), (0, 0), (0, 0), v21, v22, v23, v24] [] R m0 = ev 0 477 [(4, x), (2, 1), (2, 100), (0, (n : Int)), (0, N), (0, w), (0, (np : Int)), (2, a), (2, b), (2, d), (0, B), (0, bs), (0, bm), (0, bc), (0, s), (2, e), (2, g), (0, pCo C s np), (0, if pCan P (m0 4) (m0 6) s np = true then 1 else 0), (0, se), (0, (np : Int)), v21, v22, v23, v24] [] R m' ∧ SI m0 m' e g N s P Kd C np se := by
  have key : ∀ k : Nat, k ≤ np → ∃ (m' : zM) (se : Int), ev 0 370 [(4, x), (2, 1), (2, 100), (0, (n : Int)), (0, N), (0, w), (0, (np : Int)), (2, a), (2, b), (2, d), (0, B), (0, bs), (0, bm), (0, bc), (0, s), (2, e), (2, g), (0, 0), (0, 1), (0, 0), (0, 0), v21, v22, v23, v24] [] R m0 = ev 0 370 [(4, x), (2, 1), (2, 100), (0, (n : Int)), (0, N), (0, w), (0, (np : Int)), (2, a), (2, b), (2, d), (0, B), (0, bs), (0, bm), (0, bc), (0, s), (2, e), (2, g), (0, pCo C s k), (0, if pCan P (m0 4) (m0 6) s k = true then 1 else 0), (0, se), (0, (k : Int)), v21, v22, v23, v24] [] R m' ∧ SI m0 m' e g N s P Kd C k se := by
    intro k
    induction k with
    | zero =>
      intro _
      exact ⟨m0, 0, rfl, h0, fun q q0 q1 => by rw [ybt_0]; rfl, fun b _ _ => rfl⟩
    | succ k ih =>
      intro hk
      obtain ⟨m1, se, e1, I1⟩ := ih (by omega)
      obtain ⟨m2, se2, e2, I2⟩ := l_set1 (R := R) (m := m1) (x := x) (w := w) (B := B) (bs := bs) (bm := bm) (bc := bc) (n := n) (v21 := v21) (v22 := v22) (v23 := v23) (v24 := v24) hIa hIb hId hIe hIg hne hN hnp hr hP hbare (k := k) (by omega) I1
      exact ⟨m2, se2, e1.trans e2, I2⟩
  obtain ⟨m', se, e1, I⟩ := key np (Nat.le_refl _)
  refine ⟨m', se, ?_, I⟩
  rw [e1, s0_370]
  simp only [s0_372, s0_374, Int.le_refl, if_true]
theorem l_pass {v15 v16 v17 v18 v19 v20 v21 v22 v23 v24 : zV} (hLS : LSr R w h KK n) (hPR : PR R a b d) (hLP : LPl m w h N KK n a b d np) (hc : R 0 0 = c) (h99 : c < 100000) (hs : 0 ≤ s ∧ s < ((2 ^ np : Nat) : Int)) (hB : 0 ≤ B ∧ B ≤ 99) : ∃ (R' m' : zM) (bs' bm' bc' : Int) (u15 u16 u17 u18 u19 u20 u21 u22 u23 u24 : zV), ev 0 297 [(4, x), (2, 1), (2, 100), (0, (n : Int)), (0, N), (0, w), (0, (np : Int)), (2, a), (2, b), (2, d), (0, B), (0, bs), (0, bm), (0, bc), (0, s), v15, v16, v17, v18, v19, v20, v21, v22, v23, v24] [] R m = ev 0 297 [(4, x), (2, 1), (2, 100), (0, (n : Int)), (0, N), (0, w), (0, (np : Int)), (2, a), (2, b), (2, d), (0, B), (0, bs'), (0, bm'), (0, bc'), (0, s + 1), u15, u16, u17, u18, u19, u20, u21, u22, u23, u24] [] R' m' ∧ RE R R' ∧ R' 0 0 = c + 2 ∧ R' 0 1 = R 0 1 + 32 ∧ (∀ b, b ≤ c → m' b = m b) ∧ (if (pCo (m 90) s np ≤ B ∧ pCan (m 88) (m 4) (m 6) s np = true) ∧ (s = 0 ∨ bm < pSW m 2 (pGU (m 88) (m 89) (m 4) (m 6) s np).1 (pGU (m 88) (m 89) (m 4) (m 6) s np).2 ∨ (bm = pSW m 2 (pGU (m 88) (m 89) (m 4) (m 6) s np).1 (pGU (m 88) (m 89) (m 4) (m 6) s np).2 ∧ pCo (m 90) s np < bc)) then bs' = s ∧ bm' = pSW m 2 (pGU (m 88) (m 89) (m 4) (m 6) s np).1 (pGU (m 88) (m 89) (m 4) (m 6) s np).2 ∧ bc' = pCo (m 90) s np else bs' = bs ∧ bm' = bm ∧ bc' = bc) := by
  obtain ⟨hSV, ⟨⟨e30, e32⟩, e9, hrows, hLRw, e63, e23⟩, hPL, hr, hbare, hN, hnp⟩ := hLP
  obtain ⟨hIa, hIb, hId, ha, hb, hd, h104⟩ := hPR
  rw [hc] at ha hb hd h104
  obtain ⟨w2a, w2b⟩ := pw_b (n := np) (by omega)
  obtain ⟨R', m1, A, E, n0, s0, I1, I2, f1, f2⟩ := l_set0 (R := R) (m := m) (x := x) (a := a) (b := b) (d := d) (B := B) (bs := bs) (bm := bm) (bc := bc) (s := s) (np := np) (v15 := v15) (v16 := v16) (v17 := v17) (v18 := v18) (v19 := v19) (v20 := v20) (v21 := v21) (v22 := v22) (v23 := v23) (v24 := v24) hLS hc ⟨h104, h99⟩ hSV ⟨e32, hN.2⟩ (by omega) (by omega)
  have g4 : m1 4 = m 4 := f2 4 (by omega)
  have g6 : m1 6 = m 6 := f2 6 (by omega)
  obtain ⟨P, hP⟩ : ∃ P, m 88 = P := ⟨_, rfl⟩
  obtain ⟨Kd, hKd⟩ : ∃ P, m 89 = P := ⟨_, rfl⟩
  obtain ⟨C, hC⟩ : ∃ P, m 90 = P := ⟨_, rfl⟩
  obtain ⟨G, hG⟩ : ∃ P, m 4 = P := ⟨_, rfl⟩
  obtain ⟨U, hU⟩ : ∃ P, m 6 = P := ⟨_, rfl⟩
  have hPLk := hPL.2.2
  rw [hP, hKd, hC] at hr ⊢
  rw [hP, hKd, hC] at hPLk
  rw [hP, hG, hU] at hbare
  rw [hG, hU] at f1 ⊢
  rw [hG] at g4
  rw [hU] at g6
  have hIa' := IR_E E (by omega) hIa
  have hIb' := IR_E E (by omega) hIb
  have hId' := IR_E E (by omega) hId
  have ra : m1 a = m a := f2 a (by omega)
  have rb : m1 b = m b := f2 b (by omega)
  have rd : m1 d = m d := f2 d (by omega)
  obtain ⟨m2, se, Q, J1, J2, J3⟩ := l_setk (R := R') (m0 := m1) (x := x) (w := w) (N := N) (a := a) (b := b) (d := d) (B := B) (bs := bs) (bm := bm) (bc := bc) (s := s) (e := c + 1) (g := c + 2) (n := n) (np := np) (P := P) (Kd := Kd) (C := C) (v21 := v21) (v22 := v22) (v23 := v23) (v24 := v24) hIa' hIb' hId' I1 I2 ⟨by omega, by omega, by omega, by omega, by omega, by omega, by omega⟩ hN.2 hnp (by rw [ra, rb, rd]; exact hr) (fun i i0 i1 => ⟨(hPLk i i0 i1).1, by have := (hPLk i i0 i1).2.2; omega⟩) (by rw [g4, g6]; exact hbare) (by rw [g4, g6]; exact f1)
  rw [g4, g6] at Q J1
  have o2 : ∀ q, q ≤ c → m2 q = m q := fun q hq => by rw [J3 q (by omega) (by omega), f2 q hq]
  have S2 : SV m2 40 := SV_c (fun q q0 q1 => o2 q (by omega)) hSV
  have L100 : LRw m2 KK n := by unfold LRw; rw [o2 100 (by omega)]; exact hLRw
  have hRK' := RE_K E (by omega) hLS.1
  have I100 := IR_E E (by omega) hLS.2.2.1
  obtain ⟨hw4, hh4, hn6, hKO⟩ := hLS.2.2.2.2
  have hW : LW n (m 10) := by have := hSV.1.2.2.2; simp only [Int.reduceAdd] at this; rw [e9] at this; exact this
  obtain ⟨co, hco⟩ : ∃ z, pCo C s np = z := ⟨_, rfl⟩
  obtain ⟨ca, hca⟩ : ∃ z, pCan P G U s np = z := ⟨_, rfl⟩
  have eSW : pSW m 2 (pGU P Kd G U s np).1 (pGU P Kd G U s np).2 = zsow N w n 0 (m2 (c + 2)) (m2 (c + 1)) (m 10) := by
    have e : pSW m 2 (pGU P Kd G U s np).1 (pGU P Kd G U s np).2 = zsow (m 3 2) (m 3 0) (m 9 0) (m 2 3) (pGU P Kd G U s np).1 (pGU P Kd G U s np).2 (m 10) := rfl
    rw [e, e30, e32, e9, e23]
    exact zsow_congr (fun q q0 q1 => ⟨(J1 q q0 q1).2.symm, (J1 q q0 q1).1.symm⟩)
  rw [hco, hca] at Q
  rw [hco, hca, eSW]
  obtain ⟨sw, hsw⟩ : ∃ z, zsow N w n 0 (m2 (c + 2)) (m2 (c + 1)) (m 10) = z := ⟨_, rfl⟩
  rw [hsw] at eSW ⊢
  have zs : zw (s + 1) = s + 1 := zw_i (by omega) (by omega)
  have skip : (∃ (u21 u22 u23 u24 : zV) (sp cn se u20 : Int), ev 0 297 [(4, x), (2, 1), (2, 100), (0, (n : Int)), (0, N), (0, w), (0, (np : Int)), (2, a), (2, b), (2, d), (0, B), (0, bs), (0, bm), (0, bc), (0, s), v15, v16, v17, v18, v19, v20, v21, v22, v23, v24] [] R m = ev 0 771 [(4, x), (2, 1), (2, 100), (0, (n : Int)), (0, N), (0, w), (0, (np : Int)), (2, a), (2, b), (2, d), (0, B), (0, bs), (0, bm), (0, bc), (0, s), (2, c + 1), (2, c + 2), (0, sp), (0, cn), (0, se), (0, u20), u21, u22, u23, u24] [] R' m2) → ∃ (u15 u16 u17 u18 u19 u20 u21 u22 u23 u24 : zV), ev 0 297 [(4, x), (2, 1), (2, 100), (0, (n : Int)), (0, N), (0, w), (0, (np : Int)), (2, a), (2, b), (2, d), (0, B), (0, bs), (0, bm), (0, bc), (0, s), v15, v16, v17, v18, v19, v20, v21, v22, v23, v24] [] R m = ev 0 297 [(4, x), (2, 1), (2, 100), (0, (n : Int)), (0, N), (0, w), (0, (np : Int)), (2, a), (2, b), (2, d), (0, B), (0, bs), (0, bm), (0, bc), (0, s + 1), u15, u16, u17, u18, u19, u20, u21, u22, u23, u24] [] R' m2 := by
    rintro ⟨u21, u22, u23, u24, sp, cn, se, u20, q⟩
    have q2 : ev 0 771 [(4, x), (2, 1), (2, 100), (0, (n : Int)), (0, N), (0, w), (0, (np : Int)), (2, a), (2, b), (2, d), (0, B), (0, bs), (0, bm), (0, bc), (0, s), (2, c + 1), (2, c + 2), (0, sp), (0, cn), (0, se), (0, u20), u21, u22, u23, u24] [] R' m2 = ev 0 297 [(4, x), (2, 1), (2, 100), (0, (n : Int)), (0, N), (0, w), (0, (np : Int)), (2, a), (2, b), (2, d), (0, B), (0, bs), (0, bm), (0, bc), (0, s + 1), (2, c + 1), (2, c + 2), (0, sp), (0, cn), (0, se), (0, u20), u21, u22, u23, u24] [] R' m2 := by
      simp only [s0_771, s0_774, zps_0, zps_1, zps_2, zps_3, zps_9, Option.bind_some, Option.bind_none, Int.reduceEq, Int.reduceNe, Int.reduceLT, Int.reduceLE, Int.reduceNeg, Int.reduceAdd, Int.reduceSub, Int.reduceMul, reduceIte, if_true, if_false, true_and, and_true, false_and, and_false, or_true, true_or, or_false, false_or, not_true_eq_false, not_false_eq_true, ite_not, z_b0, z_b1, z_b01, zs]
    exact ⟨_, _, _, _, _, _, _, _, _, _, q.trans q2⟩
  by_cases h1 : ca = true
  · rw [h1, if_pos rfl] at Q
    by_cases h2 : co ≤ B
    · obtain ⟨u22, u23, u24, T⟩ := l_sump (R := R') (m := m2) (x := x) (w := w) (h := h) (N := N) (a := a) (b := b) (d := d) (B := B) (bs := bs) (bm := bm) (bc := bc) (s := s) (e := c + 1) (g := c + 2) (sp := co) (cn := 1) (se := se) (n := n) (np := np) (KK := KK) (L := m 10) (v22 := v22) (v23 := v23) (v24 := v24) I100 I1 I2 (by omega) (by omega) hn6 hKO.1 L100 hrows hW
      rw [hsw] at T
      have Z : ev 0 297 [(4, x), (2, 1), (2, 100), (0, (n : Int)), (0, N), (0, w), (0, (np : Int)), (2, a), (2, b), (2, d), (0, B), (0, bs), (0, bm), (0, bc), (0, s), v15, v16, v17, v18, v19, v20, v21, v22, v23, v24] [] R m = ev 0 714 [(4, x), (2, 1), (2, 100), (0, (n : Int)), (0, N), (0, w), (0, (np : Int)), (2, a), (2, b), (2, d), (0, B), (0, bs), (0, bm), (0, bc), (0, s), (2, c + 1), (2, c + 2), (0, co), (0, 1), (0, se), (0, sw), (0, N), u22, u23, u24] [] R' m2 := by
        have n1 : ¬ (1 : Int) = 0 := by decide
        rw [A, Q, s0_477]
        simp only [s0_479, s0_482, s0_484, s0_486, s0_492, s0_493, s0_495, s0_496, zps_0, zps_1, zps_2, zps_3, zps_9, Option.bind_some, Option.bind_none, Int.reduceEq, Int.reduceNe, Int.reduceLT, Int.reduceLE, Int.reduceNeg, Int.reduceAdd, Int.reduceSub, Int.reduceMul, reduceIte, if_true, if_false, true_and, and_true, false_and, and_false, or_true, true_or, or_false, false_or, not_true_eq_false, not_false_eq_true, ite_not, z_b0, z_b1, z_b01, n1, h2, if_true, if_false]
        exact T
      have upd : ev 0 759 [(4, x), (2, 1), (2, 100), (0, (n : Int)), (0, N), (0, w), (0, (np : Int)), (2, a), (2, b), (2, d), (0, B), (0, bs), (0, bm), (0, bc), (0, s), (2, c + 1), (2, c + 2), (0, co), (0, 1), (0, se), (0, sw), (0, N), u22, u23, u24] [] R' m2 = ev 0 297 [(4, x), (2, 1), (2, 100), (0, (n : Int)), (0, N), (0, w), (0, (np : Int)), (2, a), (2, b), (2, d), (0, B), (0, s), (0, sw), (0, co), (0, s + 1), (2, c + 1), (2, c + 2), (0, co), (0, 1), (0, se), (0, sw), (0, N), u22, u23, u24] [] R' m2 := by
        simp only [s0_759, s0_761, s0_763, s0_765, s0_767, s0_769, s0_771, s0_774, zps_0, zps_1, zps_2, zps_3, zps_9, Option.bind_some, Option.bind_none, Int.reduceEq, Int.reduceNe, Int.reduceLT, Int.reduceLE, Int.reduceNeg, Int.reduceAdd, Int.reduceSub, Int.reduceMul, reduceIte, if_true, if_false, true_and, and_true, false_and, and_false, or_true, true_or, or_false, false_or, not_true_eq_false, not_false_eq_true, ite_not, z_b0, z_b1, z_b01, zs]
      have nup : ev 0 771 [(4, x), (2, 1), (2, 100), (0, (n : Int)), (0, N), (0, w), (0, (np : Int)), (2, a), (2, b), (2, d), (0, B), (0, bs), (0, bm), (0, bc), (0, s), (2, c + 1), (2, c + 2), (0, co), (0, 1), (0, se), (0, sw), (0, N), u22, u23, u24] [] R' m2 = ev 0 297 [(4, x), (2, 1), (2, 100), (0, (n : Int)), (0, N), (0, w), (0, (np : Int)), (2, a), (2, b), (2, d), (0, B), (0, bs), (0, bm), (0, bc), (0, s + 1), (2, c + 1), (2, c + 2), (0, co), (0, 1), (0, se), (0, sw), (0, N), u22, u23, u24] [] R' m2 := by
        simp only [s0_771, s0_774, zps_0, zps_1, zps_2, zps_3, zps_9, Option.bind_some, Option.bind_none, Int.reduceEq, Int.reduceNe, Int.reduceLT, Int.reduceLE, Int.reduceNeg, Int.reduceAdd, Int.reduceSub, Int.reduceMul, reduceIte, if_true, if_false, true_and, and_true, false_and, and_false, or_true, true_or, or_false, false_or, not_true_eq_false, not_false_eq_true, ite_not, z_b0, z_b1, z_b01, zs]
      by_cases z0 : s = 0
      · refine ⟨R', m2, s, sw, co, (2, c + 1), (2, c + 2), (0, co), (0, 1), (0, se), (0, sw), (0, N), u22, u23, u24, ?_, E, n0, s0, o2, by rw [if_pos ⟨⟨h2, h1⟩, Or.inl z0⟩]; exact ⟨rfl, rfl, rfl⟩⟩
        rw [Z, ← upd]
        have C3 := k_chosen3 (R := R') (m := m2) (c := 40) (B := B) hRK' S2 (by omega)
        have e3 : pSW m2 2 (m2 4) (m2 6) = sw := by
          have e : pSW m2 2 (m2 4) (m2 6) = zsow (m2 3 2) (m2 3 0) (m2 9 0) (m2 2 3) (m2 4) (m2 6) (m2 10) := rfl
          rw [e, o2 3 (by omega), o2 9 (by omega), o2 2 (by omega), o2 10 (by omega), e30, e32, e9, e23, ← hsw]
          refine zsow_congr (fun q q0 q1 => ?_)
          obtain ⟨j1, j2⟩ := J1 q q0 q1
          have e0 : ∀ k : Nat, pGU P Kd G U 0 k = (G, U) := by
            intro k
            induction k with
            | zero => rfl
            | succ k ih => rw [pGU, ybt_0, if_neg (by decide), ih]
          rw [z0, e0] at j1 j2
          rw [o2 4 (by omega), o2 6 (by omega), hG, hU]
          exact ⟨j2.symm, j1.symm⟩
        rw [e3] at C3
        have kd1 : KD 1 = 12 := kGK0
        simp only [s0_714, s0_716, s0_719, s0_720, s0_722, s0_723, s0_726, s0_728, s0_733, s0_735, zps_0, zps_1, zps_2, zps_3, zps_9, Option.bind_some, Option.bind_none, Int.reduceEq, Int.reduceNe, Int.reduceLT, Int.reduceLE, Int.reduceNeg, Int.reduceAdd, Int.reduceSub, Int.reduceMul, reduceIte, if_true, if_false, true_and, and_true, false_and, and_false, or_true, true_or, or_false, false_or, not_true_eq_false, not_false_eq_true, ite_not, z_b0, z_b1, z_b01, z0, C3, xk1, kd1, if_true]
      · by_cases z1 : bm < sw
        · refine ⟨R', m2, s, sw, co, (2, c + 1), (2, c + 2), (0, co), (0, 1), (0, se), (0, sw), (0, N), u22, u23, u24, ?_, E, n0, s0, o2, by rw [if_pos ⟨⟨h2, h1⟩, Or.inr (Or.inl z1)⟩]; exact ⟨rfl, rfl, rfl⟩⟩
          rw [Z, ← upd]
          simp only [s0_714, s0_716, s0_733, s0_735, s0_738, s0_740, s0_742, zps_0, zps_1, zps_2, zps_3, zps_9, Option.bind_some, Option.bind_none, Int.reduceEq, Int.reduceNe, Int.reduceLT, Int.reduceLE, Int.reduceNeg, Int.reduceAdd, Int.reduceSub, Int.reduceMul, reduceIte, if_true, if_false, true_and, and_true, false_and, and_false, or_true, true_or, or_false, false_or, not_true_eq_false, not_false_eq_true, ite_not, z_b0, z_b1, z_b01, z0, z1, if_true, if_false]
        · by_cases z2 : sw = bm
          · by_cases z3 : co < bc
            · refine ⟨R', m2, s, sw, co, (2, c + 1), (2, c + 2), (0, co), (0, 1), (0, se), (0, sw), (0, N), u22, u23, u24, ?_, E, n0, s0, o2, by rw [if_pos ⟨⟨h2, h1⟩, Or.inr (Or.inr ⟨z2.symm, z3⟩)⟩]; exact ⟨rfl, rfl, rfl⟩⟩
              have z3' : ¬ bc ≤ co := by omega
              rw [Z, ← upd]
              simp only [s0_714, s0_716, s0_733, s0_735, s0_738, s0_740, s0_742, s0_745, s0_747, s0_749, s0_752, s0_754, s0_756, zps_0, zps_1, zps_2, zps_3, zps_9, Option.bind_some, Option.bind_none, Int.reduceEq, Int.reduceNe, Int.reduceLT, Int.reduceLE, Int.reduceNeg, Int.reduceAdd, Int.reduceSub, Int.reduceMul, reduceIte, if_true, if_false, true_and, and_true, false_and, and_false, or_true, true_or, or_false, false_or, not_true_eq_false, not_false_eq_true, ite_not, z_b0, z_b1, z_b01, z0, z1, z2, z3', if_true, if_false, Int.lt_irrefl]
            · refine ⟨R', m2, bs, bm, bc, (2, c + 1), (2, c + 2), (0, co), (0, 1), (0, se), (0, sw), (0, N), u22, u23, u24, ?_, E, n0, s0, o2, by rw [if_neg (fun z => z.2.elim z0 (fun q => q.elim z1 (fun q => z3 q.2)))]; exact ⟨rfl, rfl, rfl⟩⟩
              have z3' : bc ≤ co := by omega
              rw [Z, ← nup]
              simp only [s0_714, s0_716, s0_733, s0_735, s0_738, s0_740, s0_742, s0_745, s0_747, s0_749, s0_752, s0_754, s0_756, zps_0, zps_1, zps_2, zps_3, zps_9, Option.bind_some, Option.bind_none, Int.reduceEq, Int.reduceNe, Int.reduceLT, Int.reduceLE, Int.reduceNeg, Int.reduceAdd, Int.reduceSub, Int.reduceMul, reduceIte, if_true, if_false, true_and, and_true, false_and, and_false, or_true, true_or, or_false, false_or, not_true_eq_false, not_false_eq_true, ite_not, z_b0, z_b1, z_b01, z0, z1, z2, z3', if_true, if_false, Int.lt_irrefl]
          · refine ⟨R', m2, bs, bm, bc, (2, c + 1), (2, c + 2), (0, co), (0, 1), (0, se), (0, sw), (0, N), u22, u23, u24, ?_, E, n0, s0, o2, by rw [if_neg (fun z => z.2.elim z0 (fun q => q.elim z1 (fun q => z2 q.1.symm)))]; exact ⟨rfl, rfl, rfl⟩⟩
            rw [Z, ← nup]
            simp only [s0_714, s0_716, s0_733, s0_735, s0_738, s0_740, s0_742, s0_745, s0_747, s0_749, zps_0, zps_1, zps_2, zps_3, zps_9, Option.bind_some, Option.bind_none, Int.reduceEq, Int.reduceNe, Int.reduceLT, Int.reduceLE, Int.reduceNeg, Int.reduceAdd, Int.reduceSub, Int.reduceMul, reduceIte, if_true, if_false, true_and, and_true, false_and, and_false, or_true, true_or, or_false, false_or, not_true_eq_false, not_false_eq_true, ite_not, z_b0, z_b1, z_b01, z0, z1, z2, if_true, if_false]
    · have h2' : ¬ co ≤ B := h2
      obtain ⟨u15, u16, u17, u18, u19, u20, u21, u22, u23, u24, q⟩ := skip ⟨v21, v22, v23, v24, co, 1, se, (np : Int), by
        have n1 : ¬ (1 : Int) = 0 := by decide
        rw [A, Q, s0_477]
        simp only [s0_479, s0_482, s0_484, s0_486, s0_489, zps_0, zps_1, zps_2, zps_3, zps_9, Option.bind_some, Option.bind_none, Int.reduceEq, Int.reduceNe, Int.reduceLT, Int.reduceLE, Int.reduceNeg, Int.reduceAdd, Int.reduceSub, Int.reduceMul, reduceIte, if_true, if_false, true_and, and_true, false_and, and_false, or_true, true_or, or_false, false_or, not_true_eq_false, not_false_eq_true, ite_not, z_b0, z_b1, z_b01, n1, h2, if_false]⟩
      exact ⟨R', m2, bs, bm, bc, u15, u16, u17, u18, u19, u20, u21, u22, u23, u24, q, E, n0, s0, o2, by rw [if_neg (fun z => h2 z.1.1)]; exact ⟨rfl, rfl, rfl⟩⟩
  · have h1' : ca = false := by simpa using h1
    rw [h1'] at Q
    obtain ⟨u15, u16, u17, u18, u19, u20, u21, u22, u23, u24, q⟩ := skip ⟨v21, v22, v23, v24, co, 0, se, (np : Int), by
      rw [A, Q, s0_477]
      simp only [s0_479, zps_0, zps_1, zps_2, zps_3, zps_9, Option.bind_some, Option.bind_none, Int.reduceEq, Int.reduceNe, Int.reduceLT, Int.reduceLE, Int.reduceNeg, Int.reduceAdd, Int.reduceSub, Int.reduceMul, reduceIte, if_true, if_false, true_and, and_true, false_and, and_false, or_true, true_or, or_false, false_or, not_true_eq_false, not_false_eq_true, ite_not, z_b0, z_b1, z_b01, Bool.false_eq_true, if_true, if_false]⟩
    exact ⟨R', m2, bs, bm, bc, u15, u16, u17, u18, u19, u20, u21, u22, u23, u24, q, E, n0, s0, o2, by rw [if_neg (fun z => h1 z.1.2)]; exact ⟨rfl, rfl, rfl⟩⟩
end BEST
