/-! the town whole -/
theorem zn_s {n : Nat} (h : n ≤ 100000) : zw ((n : Int) + 1) = ((n + 1 : Nat) : Int) := by rw [zw_i (by omega) (by omega)]; rfl
section TOWN3
variable {R m : zM} {x w h many : Int}
def TS (R0 : zM) (m0 R m : zM) (w h : Int) (KK : Nat → Int → Int) (n : Nat) (k : Int) : Prop := RE R0 R ∧ R 62 = R0 62 ∧ R 0 0 = 104 + 2 * k ∧ R 0 1 = R0 0 1 + 72 * k ∧ FD m 103 104 (cl (txs KK n)) (txs KK n).length ∧ LRw m KK n ∧ KOk w h KK n ∧ (n : Int) ≤ k ∧ ∀ b, b ≤ 102 → b ≠ 100 → b ≠ 63 → b ≠ 64 → m b = m0 b
theorem IR_E {R R' : zM} {a n : Int} (h : RE R R') (ha : a ≤ R 0 0) (hI : IR R a n) : IR R' a n := ⟨(h.2.2.2 a ha).1.trans hI.1, (h.2.2.2 a ha).2.trans hI.2⟩
theorem FL_E {R R' : zM} {lp lw : Int} (h : RE R R') (hp : lp ≤ R 0 0) (hw : lw ≤ R 0 0) (hL : FL R lp lw) : FL R' lp lw := by
  obtain ⟨⟨a, b⟩, ⟨c, d⟩, r⟩ := hL
  exact ⟨⟨(h.2.2.2 lp hp).1.trans a, (h.2.2.2 lp hp).2.trans b⟩, ⟨(h.2.2.2 lw hw).1.trans c, (h.2.2.2 lw hw).2.trans d⟩, r⟩
theorem l_tnL {R0 m0 : zM} {KK : Nat → Int → Int} {n : Nat} {k : Int} {v14 v15 v16 v17 v18 : zV} (hRK : RK R0) (h0 : R0 0 0 = 104) (hR0 : 0 ≤ R0 0 2 ∧ R0 0 2 ≤ 260) (hF0 : FL R0 103 104) (hI0 : IR R0 100 64) (hw : 1 ≤ w ∧ w ≤ 4) (hh : 1 ≤ h ∧ h ≤ 4) (hk : 0 ≤ k ∧ k < many ∧ many ≤ 6) (hT : TS R0 m0 R m w h KK n k) : ∃ (R' m' : zM) (KK' : Nat → Int → Int) (n' : Nat) (u14 u15 u16 u17 u18 : zV), ev 330 192 [(2, 1), (4, x), (0, 0), (2, 101), (2, 102), (2, 100), (0, -1), (0, w), (0, h), (0, many), (2, 103), (2, 104), (0, (n : Int)), (0, k), v14, v15, v16, v17, v18] [] R m = ev 330 192 [(2, 1), (4, x), (0, 0), (2, 101), (2, 102), (2, 100), (0, -1), (0, w), (0, h), (0, many), (2, 103), (2, 104), (0, (n' : Int)), (0, k + 1), u14, u15, u16, u17, u18] [] R' m' ∧ TS R0 m0 R' m' w h KK' n' (k + 1) := by
  obtain ⟨t1, t62, t2, t3, t4, t5, t6, t7, t8⟩ := hT
  obtain ⟨c, hc⟩ : ∃ c, 104 + 2 * k = c := ⟨_, rfl⟩
  rw [hc] at t2
  have c0 : 104 ≤ c ∧ c ≤ 116 := by omega
  have hn6 : n ≤ 5 := by omega
  have dn : ¬ (n : Int) = -1 := by omega
  have nk1 : ((n + 1 : Nat) : Int) ≤ k + 1 := by omega
  have c99 : 99 ≤ c ∧ 103 ≤ c ∧ 102 ≤ c := by omega
  obtain ⟨R', mA, K, eA, E, A62, n2, s2, I1, I2, hK, aK, aT, ao⟩ := l_tnA (R := R) (m := m) (x := x) (w := w) (h := h) (many := many) (n' := (n : Int)) (k := k) (v14 := v14) (v15 := v15) (v16 := v16) (v17 := v17) (v18 := v18) (by rw [t1.2.1 2 (by decide)]; exact hR0) hw hh t2 (by omega) hk
  have E0 : RE R0 R' := RE_tr t1 E
  have I100 : IR R' 100 64 := IR_E E0 (by omega) hI0
  have B := l_tnB (R := R') (m := mA) (x := x) (w := w) (h := h) (many := many) (K := K) (n := n) (k := k) (lt := c + 1) (lk := c + 2) (len := ((tx K).length : Int)) (v17 := v17) (v18 := v18) I100 I2 aK (by omega)
  have z1 : zw (k + 1) = k + 1 := zw_i (by omega) (by omega)
  have ek : 104 + 2 * (k + 1) = c + 2 := by omega
  have es : R0 0 1 + 72 * (k + 1) = R0 0 1 + 72 * k + 72 := by omega
  have a100 : mA 100 = m 100 := ao 100 (by omega)
  by_cases htw : zany (fun i => decide (1 < K 0 ∧ mA 100 (7 * i) = K 0 ∧ mA 100 (7 * i + 1) = K 1 ∧ mA 100 (7 * i + 2) = K 2)) n = true
  · rw [if_pos htw] at B
    have C : ev 330 322 [(2, 1), (4, x), (0, 0), (2, 101), (2, 102), (2, 100), (0, -1), (0, w), (0, h), (0, many), (2, 103), (2, 104), (0, (n : Int)), (0, k), (2, c + 1), (2, c + 2), (0, ((tx K).length : Int)), (0, 1), (0, (n : Int))] [] R' mA = ev 330 192 [(2, 1), (4, x), (0, 0), (2, 101), (2, 102), (2, 100), (0, -1), (0, w), (0, h), (0, many), (2, 103), (2, 104), (0, (n : Int)), (0, k + 1), (2, c + 1), (2, c + 2), (0, ((tx K).length : Int)), (0, 1), (0, (n : Int))] [] R' mA := by
      have d1 : ¬ (1 : Int) = 0 := by decide
      simp only [s330_322, s330_324, s330_327, s330_384, s330_387, d1, z1, if_false]
    refine ⟨R', mA, KK, n, _, _, _, _, _, (eA.trans B).trans C, E0, by rw [A62, t62], by rw [n2, ek], by rw [s2, t3, es], FD_c (ao 103 (by omega)) (ao 104 (by omega)) (ao 63 (by omega)) (ao 64 (by omega)) t4, fun j hj q q0 q1 => by rw [a100]; exact t5 j hj q q0 q1, t6, by omega, fun b b1 b2 b3 b4 => by rw [ao b (by omega)]; exact t8 b b1 b2 b3 b4⟩
  · rw [if_neg htw] at B
    obtain ⟨G, eC, g1, g2⟩ := l_tnC (R := R') (m := mA) (x := x) (w := w) (h := h) (many := many) (K := K) (n := n) (k := k) (lt := c + 1) (lk := c + 2) (len := ((tx K).length : Int)) (tw := 0) (v18 := (n : Int)) I100 I2 aK (by omega) hn6 rfl
    obtain ⟨mC, hmC⟩ : ∃ mC, zpr mA 100 G = mC := ⟨_, rfl⟩
    rw [hmC] at eC
    have co : ∀ b, b ≠ 100 → mC b = mA b := fun b hb => by rw [← hmC, zpr_ne hb]
    have c100 : mC 100 = G := by rw [← hmC, zpr_at]
    obtain ⟨j, hj⟩ : ∃ j : Int, ((txs KK n).length : Int) = j := ⟨_, rfl⟩
    have jb := txs_le n t6.1
    have lb := (tx_le hK).2
    have hcs : ∀ i, 0 ≤ i → i < j → cl (txs KK n ++ tx K) i = cl (txs KK n) i := fun i i0 i1 => cl_lo i0 (by omega)
    have hasc : Asc (txs KK n ++ tx K) := Asc_app (Asc_txs ⟨hw.2, hh.2⟩ n t6.1) (Asc_tx ⟨hw.2, hh.2⟩ hK)
    rw [hj] at t4
    have FC : FD mC 103 104 (cl (txs KK n ++ tx K)) j := FD_cs (by omega) hcs (FD_c (by rw [co 103 (by decide)]; exact ao 103 (by omega)) (by rw [co 104 (by decide)]; exact ao 104 (by omega)) (by rw [co 63 (by decide)]; exact ao 63 (by omega)) (by rw [co 64 (by decide)]; exact ao 64 (by omega)) t4)
    have hK' := RE_K E0 (by omega) hRK
    obtain ⟨mD, eD, FDD, dof⟩ := l_feeds (R := R') (m := mC) (lt := c + 1) (lp := 103) (lw := 104) (j := j) (n := ((tx K).length : Int)) (cs := cl (txs KK n ++ tx K)) hK' (FL_E E0 (by omega) (by omega) hF0) I1 FC (by omega) (by omega) (fun i _ _ => cl_b hasc i) (fun q q0 q1 => by
      rw [co (c + 1) (by omega), aT q q0 q1, ← hj, cl_hi q0]) (by omega)
    have C : ev 330 362 [(2, 1), (4, x), (0, 0), (2, 101), (2, 102), (2, 100), (0, -1), (0, w), (0, h), (0, many), (2, 103), (2, 104), (0, (n : Int)), (0, k), (2, c + 1), (2, c + 2), (0, ((tx K).length : Int)), (0, 0), (0, 7)] [] R' mC = ev 330 192 [(2, 1), (4, x), (0, 0), (2, 101), (2, 102), (2, 100), (0, -1), (0, w), (0, h), (0, many), (2, 103), (2, 104), (0, ((n + 1 : Nat) : Int)), (0, k + 1), (2, c + 1), (2, c + 2), (0, ((tx K).length : Int)), (0, 0), (0, 7)] [] R' mD := by
      rw [s330_362, s330_364, s330_366, if_neg dn, s330_369, s330_370, s330_372, s330_374, s330_376, s330_378, eD]
      simp only [Option.bind_some, zps_9]
      rw [s330_381, s330_384, s330_387, zn_s (Nat.le_trans hn6 (by decide)), z1]
    have ltx : ((txs (KKa KK n K) (n + 1)).length : Int) = j + (tx K).length := by rw [txs_a, List.length_append, ← hj]; omega
    refine ⟨R', mD, KKa KK n K, n + 1, _, _, _, _, _, ((eA.trans B).trans eC).trans C, E0, by rw [A62, t62], by rw [n2, ek], by rw [s2, t3, es], ?_, ?_, ⟨?_, ?_⟩, by omega, fun b b1 b2 b3 b4 => by rw [dof b (by omega) (by omega) b3 b4, co b b2, ao b (by omega)]; exact t8 b b1 b2 b3 b4⟩
    · rw [ltx, txs_a]
      exact FDD
    · intro i hi q q0 q1
      rw [dof 100 (by decide) (by decide) (by decide) (by decide), c100]
      by_cases e : i = n
      · subst e
        rw [KKa_n]
        exact g1 q q0 q1
      · rw [KKa_lt (by omega), g2 _ (by omega), a100]
        exact t5 i (by omega) q q0 q1
    · intro i hi
      by_cases e : i = n
      · subst e; rw [KKa_n]; exact hK
      · rw [KKa_lt (by omega)]; exact t6.1 i (by omega)
    · intro i hi h2 jj hjj
      rw [KKa_lt (show jj < n by omega)]
      by_cases e : i = n
      · subst e
        rw [KKa_n] at h2 ⊢
        rintro ⟨q1, q2, q3⟩
        apply htw
        rw [zany_iff]
        refine ⟨(jj : Int), by omega, by omega, decide_eq_true ⟨by omega, ?_, ?_, ?_⟩⟩
        · have := t5 jj (by omega) 0 (by decide) (by decide)
          rw [Int.add_zero] at this
          rw [a100, this, q1]
        · rw [a100, t5 jj (by omega) 1 (by decide) (by decide), q2]
        · rw [a100, t5 jj (by omega) 2 (by decide) (by decide), q3]
      · rw [KKa_lt (show i < n by omega)] at h2 ⊢
        exact t6.2 i (by omega) h2 jj hjj
end TOWN3
