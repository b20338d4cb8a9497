/-! without, withoutMore: the town grows anew -/
theorem kd30 : KD 30 = 9 := by decide +kernel
section ANEWX
variable {R m x y w mc c g : zM} {p u S0 K Y lo i : Int}
/-- the relation looks at the model's cells, not at its whole rows -/
theorem TR_pt (hm : ∀ a, 2 ≤ a → a ≤ 19 → x a = m a) (h101 : ∀ p, 0 ≤ p → p < 64 → x 101 p = m 101 p ∧ x 102 p = m 102 p ∧ x 103 p = m 103 p ∧ x 104 p = m 104 p) (h105 : ∀ k, 0 ≤ k → k < 84 → x 105 k = m 105 k) (h106 : ∀ b, 106 ≤ b → b ≤ 109 → x b = m b) (h110 : ∀ s, 0 ≤ s → s < 20 → x 110 s = m 110 s ∧ x 111 s = m 111 s ∧ x 112 s = m 112 s ∧ x 113 s = m 113 s) (k0 : x 100 0 = m 100 0) (k1 : x 100 1 = m 100 1) (k6 : x 100 6 = m 100 6) (k7 : x 100 7 = m 100 7) (k8 : x 100 8 = m 100 8) (k10 : x 100 10 = m 100 10) (h : TR m m 2) : TR x x 2 := by
  have h' := h
  obtain ⟨⟨b1, b2, b3, b4, b5⟩, ⟨w1, w2, w3⟩, ⟨s1, s2, s3, s4⟩, ⟨y1, y2, y3, y4⟩⟩ := h'
  have eN : mN x = mN m := by unfold mN; rw [k0, k1]
  have n64 := MV_n b2
  have h0 : TR x m 2 := TR_c (fun a a0 a1 => hm a a0 (by omega)) ⟨fun _ _ _ => rfl, rfl, rfl, rfl, rfl, rfl, rfl⟩ h
  obtain ⟨⟨c1, c2, c3, c4, c5⟩, ⟨d1, d2, d3⟩, ⟨e1, e2, e3, e4⟩, ⟨f1, f2, f3, f4⟩⟩ := h0
  refine ⟨⟨c1, ⟨by rw [k0]; exact b2.1, by rw [k1]; exact b2.2.1, ?_⟩, by rw [k0]; exact c3, by rw [k1]; exact c4, ?_⟩, ⟨by rw [k8]; exact d1, d2, ?_⟩, ⟨by rw [k10]; exact e1, by rw [k10]; exact e2, ?_, ?_⟩, ⟨f1, f2, by rw [k6]; exact f3, by rw [k7]; exact f4⟩⟩
  · rw [eN]
    intro p p0 p1
    obtain ⟨q1, q2, q3, q4⟩ := h101 p p0 (by omega)
    rw [q1, q2, q3]
    exact b2.2.2 p p0 p1
  · rw [eN]
    intro p p0 p1
    obtain ⟨q1, q2, q3, q4⟩ := h101 p p0 (by omega)
    rw [q1, q2, q3]
    exact c5 p p0 p1
  · intro k i k0' k1' i0 i1
    have l12 := d2.1
    rw [h105 (7 * k + i) (by omega) (by omega)]
    exact d3 k i k0' k1' i0 i1
  · rw [k10, eN]
    intro s s0 s1'
    obtain ⟨q1, q2, q3, q4⟩ := h110 s s0 (by omega)
    rw [q1, q2, q3, q4, h106 106 (by omega) (by omega), h106 107 (by omega) (by omega), h106 108 (by omega) (by omega), h106 109 (by omega) (by omega)]
    obtain ⟨t1, t2, t3⟩ := e3 s s0 s1'
    refine ⟨t1, t2, ?_⟩
    rcases t3 with t3 | ⟨t3, t4, t5, t6⟩
    · exact Or.inl t3
    · obtain ⟨q5, q6, q7, q8⟩ := h101 (m 110 s) t3 (by omega)
      rw [q8, q7]
      exact Or.inr ⟨t3, t4, t5, t6⟩
  · rw [k10, eN]
    intro p p0 p1
    obtain ⟨q1, q2, q3, q4⟩ := h101 p p0 (by omega)
    rw [q4]
    rcases e4 p p0 p1 with t | ⟨t1, t2, t3⟩
    · exact Or.inl t
    · obtain ⟨q5, -⟩ := h110 (m 104 p) t1 (by omega)
      rw [q5]
      exact Or.inr ⟨t1, t2, t3⟩
theorem Rel_anew (h : Rel R m S0 K) (hc : ∀ b, b < 30 ∨ 57 < b → c b = m b) (hK' : KAn c (K + 1)) (hG : GR m mc g c) : Rel R g S0 (K + 1) := by
  obtain ⟨hRT, hA, hT, hKA, hPA, hTP, hWT, hWL, ⟨ntr, hTR⟩, ⟨npl, hPL⟩, hNT, hSH⟩ := h
  obtain ⟨g1, g2, ⟨f, ⟨f1, f2, f3, f4, f5, f6, f7⟩, e1, e2, e3, e4, e5, e6, e7⟩, g3, -, -⟩ := hG
  have k : ∀ k, k ≠ 44 → k ≠ 45 → k ≠ 46 → k ≠ 49 → k ≠ 50 → g 100 k = m 100 k := fun k q1 q2 q3 q4 q5 => g3 k (by simp only [List.mem_cons, List.not_mem_nil, or_false]; omega)
  have r : ∀ b, b < 30 ∨ (57 < b ∧ b < 100) ∨ (106 ≤ b ∧ b ≤ 109) ∨ (114 ≤ b ∧ b ≤ 123) ∨ 131 ≤ b → g b = m b := fun b hb => by
    by_cases q : b < 100 ∨ 152 < b
    · rw [g1 b q, hc b (by omega)]
    · exact g2 b (by omega)
  have rc : ∀ b, b < 100 → g b = c b := fun b hb => g1 b (by omega)
  have p4 : ∀ p, 0 ≤ p → p < 64 → g 101 p = m 101 p ∧ g 102 p = m 102 p ∧ g 103 p = m 103 p ∧ g 104 p = m 104 p := fun p p0 p1 => by
    obtain ⟨q1, q2, q3, q4⟩ := f1 p p0 p1
    obtain ⟨t1, t2, t3, t4⟩ := e1 p p0 p1
    exact ⟨t1.symm.trans q1, t2.symm.trans q2, t3.symm.trans q3, t4.symm.trans q4⟩
  have p5 : ∀ s, 0 ≤ s → s < 20 → g 110 s = m 110 s ∧ g 111 s = m 111 s ∧ g 112 s = m 112 s ∧ g 113 s = m 113 s := fun p p0 p1 => by
    obtain ⟨q1, q2, q3, q4⟩ := f2 p p0 p1
    obtain ⟨t1, t2, t3, t4⟩ := e2 p p0 p1
    exact ⟨t1.symm.trans q1, t2.symm.trans q2, t3.symm.trans q3, t4.symm.trans q4⟩
  have k0 := k 0 (by decide) (by decide) (by decide) (by decide) (by decide)
  have k1 := k 1 (by decide) (by decide) (by decide) (by decide) (by decide)
  have k6 := k 6 (by decide) (by decide) (by decide) (by decide) (by decide)
  have k10 := k 10 (by decide) (by decide) (by decide) (by decide) (by decide)
  refine ⟨hRT, ARl_c (fun b b0 b1 => r b (by omega)) (by rw [r 58 (by omega)]) (fun b b0 => r b (by omega)) (fun b b0 => r b (by omega)) ⟨k0, k1, k6, k10, k 19 (by decide) (by decide) (by decide) (by decide) (by decide)⟩ hA, TR_pt (fun a a0 a1 => r a (by omega)) p4 (fun q q0 q1 => (e3 q q0 q1).symm.trans (f3 q q0 q1)) (fun b b0 b1 => r b (by omega)) p5 k0 k1 k6 (k 7 (by decide) (by decide) (by decide) (by decide) (by decide)) (k 8 (by decide) (by decide) (by decide) (by decide) (by decide)) k10 hT, KAn_c (m := c) (rc 3 (by decide)) (fun b b0 b1 => rc b (by omega)) hK' (by omega), PAs_c (by rw [r 2 (by omega)]) (r 27 (by omega)) (r 28 (by omega)) (r 118 (by omega)) (r 119 (by omega)) k0 k1 hPA, TPe_c (by rw [r 63 (by omega)]) (by rw [r 63 (by omega)]) (r 64 (by omega)) (k 27 (by decide) (by decide) (by decide) (by decide) (by decide)) (k 28 (by decide) (by decide) (by decide) (by decide) (by decide)) (r 120 (by omega)) (r 122 (by omega)) (r 123 (by omega)) hTP, WTr_c (by rw [r 70 (by omega)]) (r 71 (by omega)) (r 72 (by omega)) (k 51 (by decide) (by decide) (by decide) (by decide) (by decide)) (r 131 (by omega)) (r 132 (by omega)) k0 k1 hWT, WLd_c (r 3 (by omega)) (r 4 (by omega)) (r 5 (by omega)) (r 73 (by omega)) (r 74 (by omega)) (r 75 (by omega)) (by rw [r 70 (by omega)]) hWL, ⟨ntr, TRi_c hT.1.2.1 (fun b b0 b1 => r b (by omega)) (r 139 (by omega)) (r 140 (by omega)) (k 62 (by decide) (by decide) (by decide) (by decide) (by decide)) (by rw [r 3 (by omega)]; exact Int.le_refl _) (fun _ => ⟨⟨k0, k1⟩, fun p p0 p1 => ⟨(p4 p p0 p1).1, (p4 p p0 p1).2.1⟩⟩) hTR⟩, ⟨npl, PLa_c (fun b b0 b1 _ => r b (by omega)) (by rw [r 87 (by omega)]) (r 143 (by omega)) (r 144 (by omega)) (r 145 (by omega)) (k 67 (by decide) (by decide) (by decide) (by decide) (by decide)) k0 k1 hPL⟩, NTe_c (fun b b0 b1 => r b (by omega)) (by rw [r 91 (by omega)]) (k 71 (by decide) (by decide) (by decide) (by decide) (by decide)) (fun b b0 b1 => r b (by omega)) hNT, SHe_c (fun b b0 b1 => r b (by omega)) (fun b b0 b1 => r b (by omega)) hSH⟩
/-- the class's town grown anew: what the questions read -/
theorem tz_anewC (h : Rel R m S0 K) (hK0 : 0 ≤ K) (hK : K < 512) (lo : Int) : ∃ mc, ev 201 0 [(2, 1), (0, lo), (9, 0), (9, 0)] [] R m = some ((9, 0), R, mc) ∧ (∀ b, b < 30 ∨ 57 < b → mc b = m b) ∧ KAn mc (K + 1) ∧ mc 30 3 = m 2 3 ∧ mc 31 2 = mN m ∧ ∀ c, (∀ b, 100 ≤ b → b ≤ 152 → c b = m b) → ∃ g, ev 279 0 [(2, 100), (0, lo), (9, 0), (9, 0), (9, 0), (9, 0)] [] R c = some ((9, 0), R, g) ∧ GR m mc g c := by
  have h' := h
  obtain ⟨hRT, hA, hT, hKA, hPA, hTP, hWT, hWL, ⟨ntr, hTR⟩, ⟨npl, hPL⟩, hNT, hSH⟩ := h'
  obtain ⟨hT2, hT30, hL68, hGK, hAK, hXK, hWK, hPK, hQK, hNK, hCK, hM⟩ := hRT.1
  obtain ⟨⟨c1, c2⟩, ⟨c3, c4⟩, cN, cB⟩ := hKA
  obtain ⟨mc, i, G1, ⟨q1, q2, q3, q4, g, q5, q6, q7, q8, -⟩, G2⟩ := tz_growAnew hGK hAK hT2 hT30 hM hT hA ⟨cN, cB⟩ ⟨c3, by omega⟩ lo
  have a60 := hA.1
  have e58 := hA.2.1
  have tg := TR_TG q5
  have n31 := RB_n q5.1
  have y30 := q5.2.2.2.2.2.1
  refine ⟨mc, G1, q1, ⟨by rw [q1 3 (by omega)]; omega, by omega, tg.2.1, tg.1⟩, by rw [y30, q8], ?_, G2⟩
  have := n31
  simp only [Int.reduceAdd] at this
  rw [this, q6]
theorem tz_differs (hGK : GK R) (hT2 : TK R 2) (hT30 : TK R 30) (h24 : m 2 3 ≤ 24) (h30 : m 30 3 = m 2 3) {N : Int} (hN : m 3 2 = N) (hN' : m 31 2 = N) (n64 : 0 ≤ N ∧ N ≤ 64) (hy : 0 ≤ Y ∧ Y < m 2 3) : ∃ v, ev 202 0 [(2, 1), (0, Y), (9, 0)] [] R m = some ((0, v), R, m) ∧ ((v = 0 ∧ ∀ p, 0 ≤ p → p < N → m 55 (64 * Y + p) = m 27 (64 * Y + p)) ∨ (v = 1 ∧ ∃ p, 0 ≤ p ∧ p < N ∧ m 55 (64 * Y + p) ≠ m 27 (64 * Y + p))) := by
  have L0 : ev 202 0 [(2, 1), (0, Y), (9, 0)] [] R m = ev 202 2 [(2, 1), (0, Y), (0, 0)] [] R m := by simp only [s202_0, s202_1, s202_3, s202_4, s202_7, s202_10, s202_13, s202_16, s202_17, s202_20, s202_21, s202_22, s202_25, s202_26, s202_29, s202_30, s202_31, s202_34, s202_37, s202_38, s202_39, s202_42, s202_45, s202_46, zps_0, zps_1, zps_2, zps_3, zps_9, Option.bind_some, Option.bind_none, Int.reduceEq, Int.reduceNe, Int.reduceLT, Int.reduceLE, Int.reduceNeg, Int.reduceAdd, Int.reduceSub, Int.reduceMul, reduceIte, if_true, if_false, true_and, and_true, false_and, and_false, or_true, true_or, or_false, false_or, not_true_eq_false, not_false_eq_true, ite_not, z_b0, z_b1, z_b01]
  rw [L0]
  refine zloop (fun r => ∃ v, r = some ((0, v), R, m) ∧ ((v = 0 ∧ ∀ p, 0 ≤ p → p < N → m 55 (64 * Y + p) = m 27 (64 * Y + p)) ∨ (v = 1 ∧ ∃ p, 0 ≤ p ∧ p < N ∧ m 55 (64 * Y + p) ≠ m 27 (64 * Y + p)))) (fun i (_ : Unit) => ev 202 2 [(2, 1), (0, Y), (0, i)] [] R m) N (fun i _ => 0 ≤ i ∧ ∀ p, 0 ≤ p → p < i → m 55 (64 * Y + p) = m 27 (64 * Y + p)) ?_ ?_ 0 () n64.1 ⟨by omega, fun p p0 p1 => by omega⟩
  · rintro i _ hi ⟨i0, hI⟩ ih
    have c1 : ¬ N ≤ i := by omega
    have U2 : ev 128 0 [(2, 2), (0, Y), (0, i)] [] R m = some ((0, m 27 (64 * Y + i)), R, m) := tz_usedIn hT2 h24 (by show m 3 2 ≤ 64; omega) hy ⟨i0, by show i < m 3 2; omega⟩
    have U3 : ev 128 0 [(2, 30), (0, Y), (0, i)] [] R m = some ((0, m 55 (64 * Y + i)), R, m) := tz_usedIn hT30 (by omega) (by show m 31 2 ≤ 64; omega) (by omega) ⟨i0, by show i < m 31 2; omega⟩
    have z3 : zw (i + 1) = i + 1 := zw_i (by omega) (by omega)
    rw [s202_2]
    by_cases e : m 27 (64 * Y + i) = m 55 (64 * Y + i)
    · simp only [s202_0, s202_1, s202_3, s202_4, s202_7, s202_10, s202_13, s202_16, s202_17, s202_20, s202_21, s202_22, s202_25, s202_26, s202_29, s202_30, s202_31, s202_34, s202_37, s202_38, s202_39, s202_42, s202_45, s202_46, zps_0, zps_1, zps_2, zps_3, zps_9, Option.bind_some, Option.bind_none, Int.reduceEq, Int.reduceNe, Int.reduceLT, Int.reduceLE, Int.reduceNeg, Int.reduceAdd, Int.reduceSub, Int.reduceMul, reduceIte, if_true, if_false, true_and, and_true, false_and, and_false, or_true, true_or, or_false, false_or, not_true_eq_false, not_false_eq_true, ite_not, z_b0, z_b1, z_b01, rGK0 hGK, rGK1 hGK, rGK2 hGK, rGK3 hGK, rGK4 hGK, rGK5 hGK, rGK6 hGK, rGK7 hGK, rGK8 hGK, rGK9 hGK, kGK0, kd2, kd3, kd9, kd11, r2_0 hT2, r2_1 hT2, r2_2 hT2, kd30, hN, c1, U2, U3, e, z3, if_true, if_false]
      refine ih () ⟨by omega, fun p p0 p1 => ?_⟩
      by_cases q : p = i
      · rw [q, e]
      · exact hI p p0 (by omega)
    · refine ⟨1, ?_, Or.inr ⟨rfl, i, i0, hi, fun q => e q.symm⟩⟩
      simp only [s202_0, s202_1, s202_3, s202_4, s202_7, s202_10, s202_13, s202_16, s202_17, s202_20, s202_21, s202_22, s202_25, s202_26, s202_29, s202_30, s202_31, s202_34, s202_37, s202_38, s202_39, s202_42, s202_45, s202_46, zps_0, zps_1, zps_2, zps_3, zps_9, Option.bind_some, Option.bind_none, Int.reduceEq, Int.reduceNe, Int.reduceLT, Int.reduceLE, Int.reduceNeg, Int.reduceAdd, Int.reduceSub, Int.reduceMul, reduceIte, if_true, if_false, true_and, and_true, false_and, and_false, or_true, true_or, or_false, false_or, not_true_eq_false, not_false_eq_true, ite_not, z_b0, z_b1, z_b01, rGK0 hGK, rGK1 hGK, rGK2 hGK, rGK3 hGK, rGK4 hGK, rGK5 hGK, rGK6 hGK, rGK7 hGK, rGK8 hGK, rGK9 hGK, kGK0, kd2, kd3, kd9, kd11, r2_0 hT2, r2_1 hT2, r2_2 hT2, kd30, hN, c1, U2, U3, e, if_true, if_false]
  · rintro _ ⟨-, hI⟩
    refine ⟨0, ?_, Or.inl ⟨rfl, hI⟩⟩
    rw [s202_2]
    simp only [s202_0, s202_1, s202_3, s202_4, s202_7, s202_10, s202_13, s202_16, s202_17, s202_20, s202_21, s202_22, s202_25, s202_26, s202_29, s202_30, s202_31, s202_34, s202_37, s202_38, s202_39, s202_42, s202_45, s202_46, zps_0, zps_1, zps_2, zps_3, zps_9, Option.bind_some, Option.bind_none, Int.reduceEq, Int.reduceNe, Int.reduceLT, Int.reduceLE, Int.reduceNeg, Int.reduceAdd, Int.reduceSub, Int.reduceMul, reduceIte, if_true, if_false, true_and, and_true, false_and, and_false, or_true, true_or, or_false, false_or, not_true_eq_false, not_false_eq_true, ite_not, z_b0, z_b1, z_b01, rGK0 hGK, rGK1 hGK, rGK2 hGK, rGK3 hGK, rGK4 hGK, rGK5 hGK, rGK6 hGK, rGK7 hGK, rGK8 hGK, rGK9 hGK, kGK0, kd2, kd3, kd9, kd11, r2_0 hT2, r2_1 hT2, r2_2 hT2, hN, Int.le_refl, if_true]
theorem tz_wscan (hGK : GK R) (hT2 : TK R 2) (hT30 : TK R 30) (h24 : m 2 3 ≤ 24) (h0 : 0 ≤ m 2 3) (h30 : m 30 3 = m 2 3) {N : Int} (hN : m 3 2 = N) (hN' : m 31 2 = N) (n64 : 0 ≤ N ∧ N ≤ 64) : ∃ v, ev 200 19 [(2, 1), (0, lo), (0, 0)] [] R m = some ((0, v), R, m) ∧ ((v = -4 ∧ ∀ y p, 0 ≤ y → y < m 2 3 → 0 ≤ p → p < N → m 55 (64 * y + p) = m 27 (64 * y + p)) ∨ ((0 ≤ v ∧ v < m 2 3) ∧ (∃ p, 0 ≤ p ∧ p < N ∧ m 55 (64 * v + p) ≠ m 27 (64 * v + p)) ∧ ∀ y p, 0 ≤ y → y < v → 0 ≤ p → p < N → m 55 (64 * y + p) = m 27 (64 * y + p))) := by
  refine zloop (fun r => ∃ v, r = some ((0, v), R, m) ∧ ((v = -4 ∧ ∀ y p, 0 ≤ y → y < m 2 3 → 0 ≤ p → p < N → m 55 (64 * y + p) = m 27 (64 * y + p)) ∨ ((0 ≤ v ∧ v < m 2 3) ∧ (∃ p, 0 ≤ p ∧ p < N ∧ m 55 (64 * v + p) ≠ m 27 (64 * v + p)) ∧ ∀ y p, 0 ≤ y → y < v → 0 ≤ p → p < N → m 55 (64 * y + p) = m 27 (64 * y + p)))) (fun i (_ : Unit) => ev 200 19 [(2, 1), (0, lo), (0, i)] [] R m) (m 2 3) (fun i _ => 0 ≤ i ∧ ∀ y p, 0 ≤ y → y < i → 0 ≤ p → p < N → m 55 (64 * y + p) = m 27 (64 * y + p)) ?_ ?_ 0 () h0 ⟨by omega, fun y p y0 y1 => by omega⟩
  · rintro i _ hi ⟨i0, hI⟩ ih
    have c1 : ¬ m 2 3 ≤ i := by omega
    have z3 : zw (i + 1) = i + 1 := zw_i (by omega) (by omega)
    obtain ⟨v, D, d⟩ := tz_differs hGK hT2 hT30 h24 h30 hN hN' n64 ⟨i0, hi⟩
    rw [s200_19]
    rcases d with ⟨v0, d⟩ | ⟨v1, d⟩
    · subst v0
      simp only [s200_0, s200_1, s200_2, s200_4, s200_7, s200_10, s200_11, s200_12, s200_13, s200_14, s200_17, s200_18, s200_20, s200_21, s200_24, s200_27, s200_30, s200_31, s200_32, s200_35, s200_38, s200_39, s200_40, s200_43, s200_46, s200_48, zps_0, zps_1, zps_2, zps_3, zps_9, Option.bind_some, Option.bind_none, Int.reduceEq, Int.reduceNe, Int.reduceLT, Int.reduceLE, Int.reduceNeg, Int.reduceAdd, Int.reduceSub, Int.reduceMul, reduceIte, if_true, if_false, true_and, and_true, false_and, and_false, or_true, true_or, or_false, false_or, not_true_eq_false, not_false_eq_true, ite_not, z_b0, z_b1, z_b01, rGK0 hGK, rGK1 hGK, rGK2 hGK, rGK3 hGK, rGK4 hGK, rGK5 hGK, rGK6 hGK, rGK7 hGK, rGK8 hGK, rGK9 hGK, kGK0, kd2, kd3, kd9, kd11, r2_0 hT2, r2_1 hT2, r2_2 hT2, c1, D, z3, if_true, if_false]
      refine ih () ⟨by omega, fun y p y0 y1 p0 p1 => ?_⟩
      by_cases q : y = i
      · rw [q]; exact d p p0 p1
      · exact hI y p y0 (by omega) p0 p1
    · subst v1
      refine ⟨i, ?_, Or.inr ⟨⟨i0, hi⟩, d, hI⟩⟩
      simp only [s200_0, s200_1, s200_2, s200_4, s200_7, s200_10, s200_11, s200_12, s200_13, s200_14, s200_17, s200_18, s200_20, s200_21, s200_24, s200_27, s200_30, s200_31, s200_32, s200_35, s200_38, s200_39, s200_40, s200_43, s200_46, s200_48, zps_0, zps_1, zps_2, zps_3, zps_9, Option.bind_some, Option.bind_none, Int.reduceEq, Int.reduceNe, Int.reduceLT, Int.reduceLE, Int.reduceNeg, Int.reduceAdd, Int.reduceSub, Int.reduceMul, reduceIte, if_true, if_false, true_and, and_true, false_and, and_false, or_true, true_or, or_false, false_or, not_true_eq_false, not_false_eq_true, ite_not, z_b0, z_b1, z_b01, rGK0 hGK, rGK1 hGK, rGK2 hGK, rGK3 hGK, rGK4 hGK, rGK5 hGK, rGK6 hGK, rGK7 hGK, rGK8 hGK, rGK9 hGK, kGK0, kd2, kd3, kd9, kd11, r2_0 hT2, r2_1 hT2, r2_2 hT2, c1, D, if_true, if_false]
  · rintro _ ⟨-, hI⟩
    refine ⟨-4, ?_, Or.inl ⟨rfl, hI⟩⟩
    rw [s200_19]
    simp only [s200_0, s200_1, s200_2, s200_4, s200_7, s200_10, s200_11, s200_12, s200_13, s200_14, s200_17, s200_18, s200_20, s200_21, s200_24, s200_27, s200_30, s200_31, s200_32, s200_35, s200_38, s200_39, s200_40, s200_43, s200_46, s200_48, zps_0, zps_1, zps_2, zps_3, zps_9, Option.bind_some, Option.bind_none, Int.reduceEq, Int.reduceNe, Int.reduceLT, Int.reduceLE, Int.reduceNeg, Int.reduceAdd, Int.reduceSub, Int.reduceMul, reduceIte, if_true, if_false, true_and, and_true, false_and, and_false, or_true, true_or, or_false, false_or, not_true_eq_false, not_false_eq_true, ite_not, z_b0, z_b1, z_b01, rGK0 hGK, rGK1 hGK, rGK2 hGK, rGK3 hGK, rGK4 hGK, rGK5 hGK, rGK6 hGK, rGK7 hGK, rGK8 hGK, rGK9 hGK, kGK0, kd2, kd3, kd9, kd11, r2_0 hT2, r2_1 hT2, r2_2 hT2, Int.le_refl, if_true]
theorem top_without (lo : Int) : Top 200 278 [(0, lo), (9, 0)] [(0, lo)] := by
  intro R m S0 K h hK0 hK
  have h' := h
  obtain ⟨hRT, hA, hT, hKA, hPA, hTP, hWT, hWL, ⟨ntr, hTR⟩, ⟨npl, hPL⟩, hNT, hSH⟩ := h'
  obtain ⟨hT2, hT30, hL68, hGK, hAK, hXK, hWK, hPK, hQK, hNK, hCK, hM⟩ := hRT.1
  have ey := (TR_y hT).1
  have yb := TR_yb hT
  have hn := TR_n3 hT
  have n64 := MV_n hT.1.2.1
  have W := tz_within lo 0 11 R m
  by_cases hl : 0 ≤ lo ∧ lo ≤ 11
  · rw [if_pos hl] at W
    obtain ⟨mc, G1, r1, kan, y30, n31, G2⟩ := tz_anewC h hK0 hK lo
    have m23 : mc 2 3 = m 2 3 := by rw [r1 2 (by omega)]
    obtain ⟨v, D, d⟩ := tz_wscan (R := R) (m := mc) (lo := lo) hGK hT2 hT30 (by rw [m23]; exact yb.2) (by rw [m23]; exact yb.1) (by rw [y30, m23]) (N := mN m) (by rw [r1 3 (by omega), hn]) n31 ⟨by omega, n64.2⟩
    obtain ⟨g, G3, gr⟩ := G2 mc (fun b b0 b1 => r1 b (by omega))
    have P : ∀ y p, 0 ≤ y → y < m 2 3 → 0 ≤ p → p < mN m → mc 27 (64 * y + p) = m 118 (64 * y + p) := fun y p y0 y1 p0 p1 => by rw [r1 27 (by omega)]; exact hPA.1 y p y0 y1 p0 p1
    have fup := gr.2.2.2.2.1
    rw [m23] at d
    have ev0 : v = g 100 49 := by
      rcases d with ⟨d1, d2⟩ | ⟨d1, ⟨p, p0, p1, d2⟩, d3⟩
      · rcases fup with ⟨e1, -⟩ | ⟨e1, ⟨p, p0, p1, e2⟩, -⟩
        · omega
        · exfalso
          exact e2 (by rw [d2 _ p e1.1 (by omega) p0 p1, P _ p e1.1 (by omega) p0 p1])
      · rcases fup with ⟨e1, e2⟩ | ⟨e1, ⟨q, q0, q1, e2⟩, e3⟩
        · exfalso
          exact d2 (by rw [e2 v p d1.1 (by omega) p0 p1, P v p d1.1 d1.2 p0 p1])
        · rcases Int.lt_trichotomy v (g 100 49) with t | t | t
          · exfalso
            exact d2 (by rw [e3 v p d1.1 t p0 p1, P v p d1.1 d1.2 p0 p1])
          · exact t
          · exfalso
            exact e2 (by rw [d3 _ q e1.1 t q0 q1, P _ q e1.1 (by omega) q0 q1])
    refine ⟨v, R, mc, g, ?_, ?_, Rel_anew h r1 kan gr, fun _ _ _ => rfl⟩
    · simp only [s200_0, s200_1, s200_2, s200_4, s200_7, s200_10, s200_11, s200_12, s200_13, s200_14, s200_17, s200_18, s200_20, s200_21, s200_24, s200_27, s200_30, s200_31, s200_32, s200_35, s200_38, s200_39, s200_40, s200_43, s200_46, s200_48, zps_0, zps_1, zps_2, zps_3, zps_9, Option.bind_some, Option.bind_none, Int.reduceEq, Int.reduceNe, Int.reduceLT, Int.reduceLE, Int.reduceNeg, Int.reduceAdd, Int.reduceSub, Int.reduceMul, reduceIte, if_true, if_false, true_and, and_true, false_and, and_false, or_true, true_or, or_false, false_or, not_true_eq_false, not_false_eq_true, ite_not, z_b0, z_b1, z_b01, rGK0 hGK, rGK1 hGK, rGK2 hGK, rGK3 hGK, rGK4 hGK, rGK5 hGK, rGK6 hGK, rGK7 hGK, rGK8 hGK, rGK9 hGK, kGK0, W, G1, D, if_true, if_false]
    · simp only [s278_0, s278_1, s278_2, s278_3, s278_6, s278_9, s278_12, s278_13, s278_14, s278_15, s278_16, s278_19, s278_20, s278_23, zps_0, zps_1, zps_2, zps_3, zps_9, Option.bind_some, Option.bind_none, Int.reduceEq, Int.reduceNe, Int.reduceLT, Int.reduceLE, Int.reduceNeg, Int.reduceAdd, Int.reduceSub, Int.reduceMul, reduceIte, if_true, if_false, true_and, and_true, false_and, and_false, or_true, true_or, or_false, false_or, not_true_eq_false, not_false_eq_true, ite_not, z_b0, z_b1, z_b01, rMK0 hM, rMK1 hM, rMK2 hM, rMK3 hM, rMK4 hM, rMK5 hM, rMK6 hM, rMK7 hM, rMK8 hM, rMK9 hM, rMK10 hM, rMK11 hM, rMK12 hM, rMK13 hM, rMK14 hM, rMK15 hM, rMK16 hM, rMK17 hM, rMK18 hM, rMK19 hM, rMK20 hM, rMK21 hM, rMK22 hM, rMK23 hM, rMK24 hM, rMK25 hM, rMK26 hM, rMK27 hM, rMK28 hM, rMK29 hM, rMK30 hM, rMK31 hM, rMK32 hM, rMK33 hM, rMK34 hM, rMK35 hM, rMK36 hM, rMK37 hM, rMK38 hM, rMK39 hM, rMK40 hM, rMK41 hM, rMK42 hM, rMK43 hM, rMK44 hM, rMK45 hM, rMK46 hM, rMK47 hM, rMK48 hM, rMK49 hM, rMK50 hM, rMK51 hM, kMK0, kMK1, kMK2, kMK3, kMK4, kMK5, kMK6, kMK7, kMK8, kMK9, kMK10, kMK11, kMK12, kMK13, kMK14, kMK15, kMK16, kMK17, kMK18, kMK19, kMK20, kMK21, kMK22, kMK23, kMK24, kMK25, kMK26, kMK27, kMK28, kMK29, kMK30, kMK31, kMK32, kMK33, kMK34, kMK35, kMK36, kMK37, kMK38, kMK39, kMK40, kMK41, kMK42, kMK43, kMK44, kMK45, kMK46, kMK47, kMK48, kMK49, kMK50, kMK51, kMK52, kMK53, kMK54, kMK55, kMK56, kMK57, kMK58, kMK59, kMK60, kMK61, kMK62, kMK63, kMK64, kMK65, kMK66, kMK67, kMK68, kMK69, kMK70, kMK71, kMK72, kMK73, kMK74, kMK75, kMK76, kMK77, kMK78, kMK79, kMK80, kMK81, kMK82, kMK83, kMK84, kMK85, kMK86, kMK87, kMK88, kMK89, kMK90, kMK91, kMK92, kMK93, kMK94, kMK95, kMK96, kMK97, kMK98, kMK99, kMK100, kMK101, kMK102, kMK103, kMK104, tz_in, hl, G3, ev0, and_self, if_true, if_false]
  · rw [if_neg hl] at W
    refine ⟨-1, R, m, m, ?_, ?_, Rel_K h (by omega), fun _ _ _ => rfl⟩
    · simp only [s200_0, s200_1, s200_2, s200_4, s200_7, s200_10, s200_11, s200_12, s200_13, s200_14, s200_17, s200_18, s200_20, s200_21, s200_24, s200_27, s200_30, s200_31, s200_32, s200_35, s200_38, s200_39, s200_40, s200_43, s200_46, s200_48, zps_0, zps_1, zps_2, zps_3, zps_9, Option.bind_some, Option.bind_none, Int.reduceEq, Int.reduceNe, Int.reduceLT, Int.reduceLE, Int.reduceNeg, Int.reduceAdd, Int.reduceSub, Int.reduceMul, reduceIte, if_true, if_false, true_and, and_true, false_and, and_false, or_true, true_or, or_false, false_or, not_true_eq_false, not_false_eq_true, ite_not, z_b0, z_b1, z_b01, W, if_true, if_false]
    · simp only [s278_0, s278_1, s278_2, s278_3, s278_6, s278_9, s278_12, s278_13, s278_14, s278_15, s278_16, s278_19, s278_20, s278_23, zps_0, zps_1, zps_2, zps_3, zps_9, Option.bind_some, Option.bind_none, Int.reduceEq, Int.reduceNe, Int.reduceLT, Int.reduceLE, Int.reduceNeg, Int.reduceAdd, Int.reduceSub, Int.reduceMul, reduceIte, if_true, if_false, true_and, and_true, false_and, and_false, or_true, true_or, or_false, false_or, not_true_eq_false, not_false_eq_true, ite_not, z_b0, z_b1, z_b01, rMK0 hM, rMK1 hM, rMK2 hM, rMK3 hM, rMK4 hM, rMK5 hM, rMK6 hM, rMK7 hM, rMK8 hM, rMK9 hM, rMK10 hM, rMK11 hM, rMK12 hM, rMK13 hM, rMK14 hM, rMK15 hM, rMK16 hM, rMK17 hM, rMK18 hM, rMK19 hM, rMK20 hM, rMK21 hM, rMK22 hM, rMK23 hM, rMK24 hM, rMK25 hM, rMK26 hM, rMK27 hM, rMK28 hM, rMK29 hM, rMK30 hM, rMK31 hM, rMK32 hM, rMK33 hM, rMK34 hM, rMK35 hM, rMK36 hM, rMK37 hM, rMK38 hM, rMK39 hM, rMK40 hM, rMK41 hM, rMK42 hM, rMK43 hM, rMK44 hM, rMK45 hM, rMK46 hM, rMK47 hM, rMK48 hM, rMK49 hM, rMK50 hM, rMK51 hM, kMK0, kMK1, kMK2, kMK3, kMK4, kMK5, kMK6, kMK7, kMK8, kMK9, kMK10, kMK11, kMK12, kMK13, kMK14, kMK15, kMK16, kMK17, kMK18, kMK19, kMK20, kMK21, kMK22, kMK23, kMK24, kMK25, kMK26, kMK27, kMK28, kMK29, kMK30, kMK31, kMK32, kMK33, kMK34, kMK35, kMK36, kMK37, kMK38, kMK39, kMK40, kMK41, kMK42, kMK43, kMK44, kMK45, kMK46, kMK47, kMK48, kMK49, kMK50, kMK51, kMK52, kMK53, kMK54, kMK55, kMK56, kMK57, kMK58, kMK59, kMK60, kMK61, kMK62, kMK63, kMK64, kMK65, kMK66, kMK67, kMK68, kMK69, kMK70, kMK71, kMK72, kMK73, kMK74, kMK75, kMK76, kMK77, kMK78, kMK79, kMK80, kMK81, kMK82, kMK83, kMK84, kMK85, kMK86, kMK87, kMK88, kMK89, kMK90, kMK91, kMK92, kMK93, kMK94, kMK95, kMK96, kMK97, kMK98, kMK99, kMK100, kMK101, kMK102, kMK103, kMK104, tz_in, hl, if_true, if_false]
theorem top_withoutMore (lo : Int) : Top 203 283 [(0, lo), (9, 0)] [(0, lo)] := by
  intro R m S0 K h hK0 hK
  have h' := h
  obtain ⟨hRT, hA, hT, hKA, hPA, hTP, hWT, hWL, ⟨ntr, hTR⟩, ⟨npl, hPL⟩, hNT, hSH⟩ := h'
  obtain ⟨hT2, hT30, hL68, hGK, hAK, hXK, hWK, hPK, hQK, hNK, hCK, hM⟩ := hRT.1
  have ey := (TR_y hT).1
  have yb := TR_yb hT
  have W := tz_within lo 0 11 R m
  by_cases hl : 0 ≤ lo ∧ lo ≤ 11
  · rw [if_pos hl] at W
    obtain ⟨mc, G1, r1, kan, y30, n31, G2⟩ := tz_anewC h hK0 hK lo
    have m23 : mc 2 3 = m 2 3 := by rw [r1 2 (by omega)]
    by_cases c : m 2 3 = 0
    · obtain ⟨g, G3, gr⟩ := G2 m (fun _ _ _ => rfl)
      have mep := gr.2.2.2.2.2
      unfold MEp at mep
      rw [if_pos (by omega)] at mep
      refine ⟨0, R, m, g, ?_, ?_, Rel_anew h (fun _ _ => rfl) (KAn_le hKA (by omega)) gr, fun _ _ _ => rfl⟩
      · simp only [s203_0, s203_1, s203_2, s203_4, s203_7, s203_10, s203_13, s203_14, s203_15, s203_18, s203_21, s203_24, s203_25, s203_26, s203_27, s203_28, s203_31, s203_32, s203_35, s203_38, s203_39, s203_40, s203_41, s203_42, s203_45, s203_46, s203_47, s203_50, s203_51, s203_54, s203_55, s203_56, s203_59, s203_60, zps_0, zps_1, zps_2, zps_3, zps_9, Option.bind_some, Option.bind_none, Int.reduceEq, Int.reduceNe, Int.reduceLT, Int.reduceLE, Int.reduceNeg, Int.reduceAdd, Int.reduceSub, Int.reduceMul, reduceIte, if_true, if_false, true_and, and_true, false_and, and_false, or_true, true_or, or_false, false_or, not_true_eq_false, not_false_eq_true, ite_not, z_b0, z_b1, z_b01, rGK0 hGK, rGK1 hGK, rGK2 hGK, rGK3 hGK, rGK4 hGK, rGK5 hGK, rGK6 hGK, rGK7 hGK, rGK8 hGK, rGK9 hGK, kGK0, kd2, kd3, kd9, kd11, r2_0 hT2, r2_1 hT2, r2_2 hT2, W, c, if_true, if_false]
      · simp only [s283_0, s283_1, s283_2, s283_3, s283_6, s283_9, s283_12, s283_15, s283_16, s283_17, s283_18, s283_21, s283_22, s283_25, zps_0, zps_1, zps_2, zps_3, zps_9, Option.bind_some, Option.bind_none, Int.reduceEq, Int.reduceNe, Int.reduceLT, Int.reduceLE, Int.reduceNeg, Int.reduceAdd, Int.reduceSub, Int.reduceMul, reduceIte, if_true, if_false, true_and, and_true, false_and, and_false, or_true, true_or, or_false, false_or, not_true_eq_false, not_false_eq_true, ite_not, z_b0, z_b1, z_b01, rMK0 hM, rMK1 hM, rMK2 hM, rMK3 hM, rMK4 hM, rMK5 hM, rMK6 hM, rMK7 hM, rMK8 hM, rMK9 hM, rMK10 hM, rMK11 hM, rMK12 hM, rMK13 hM, rMK14 hM, rMK15 hM, rMK16 hM, rMK17 hM, rMK18 hM, rMK19 hM, rMK20 hM, rMK21 hM, rMK22 hM, rMK23 hM, rMK24 hM, rMK25 hM, rMK26 hM, rMK27 hM, rMK28 hM, rMK29 hM, rMK30 hM, rMK31 hM, rMK32 hM, rMK33 hM, rMK34 hM, rMK35 hM, rMK36 hM, rMK37 hM, rMK38 hM, rMK39 hM, rMK40 hM, rMK41 hM, rMK42 hM, rMK43 hM, rMK44 hM, rMK45 hM, rMK46 hM, rMK47 hM, rMK48 hM, rMK49 hM, rMK50 hM, rMK51 hM, kMK0, kMK1, kMK2, kMK3, kMK4, kMK5, kMK6, kMK7, kMK8, kMK9, kMK10, kMK11, kMK12, kMK13, kMK14, kMK15, kMK16, kMK17, kMK18, kMK19, kMK20, kMK21, kMK22, kMK23, kMK24, kMK25, kMK26, kMK27, kMK28, kMK29, kMK30, kMK31, kMK32, kMK33, kMK34, kMK35, kMK36, kMK37, kMK38, kMK39, kMK40, kMK41, kMK42, kMK43, kMK44, kMK45, kMK46, kMK47, kMK48, kMK49, kMK50, kMK51, kMK52, kMK53, kMK54, kMK55, kMK56, kMK57, kMK58, kMK59, kMK60, kMK61, kMK62, kMK63, kMK64, kMK65, kMK66, kMK67, kMK68, kMK69, kMK70, kMK71, kMK72, kMK73, kMK74, kMK75, kMK76, kMK77, kMK78, kMK79, kMK80, kMK81, kMK82, kMK83, kMK84, kMK85, kMK86, kMK87, kMK88, kMK89, kMK90, kMK91, kMK92, kMK93, kMK94, kMK95, kMK96, kMK97, kMK98, kMK99, kMK100, kMK101, kMK102, kMK103, kMK104, tz_in, hl, G3, mep, and_self, if_true, if_false]
    · obtain ⟨g, G3, gr⟩ := G2 mc (fun b b0 b1 => r1 b (by omega))
      have mep := gr.2.2.2.2.2
      unfold MEp at mep
      rw [if_neg (by omega), ← ey] at mep
      have z1 : zw (m 2 3 - 1) = m 2 3 - 1 := zw_i (by omega) (by omega)
      have F2 : ev 129 0 [(2, 2), (0, m 2 3 - 1), (0, 3)] [] R mc = some ((0, mc 28 (4 * (m 2 3 - 1) + 3)), R, mc) := tz_figure hT2 (by rw [m23]; exact yb.2) (by rw [m23]; omega) (by omega)
      have F3 : ev 129 0 [(2, 30), (0, m 2 3 - 1), (0, 3)] [] R mc = some ((0, mc 56 (4 * (m 2 3 - 1) + 3)), R, mc) := tz_figure hT30 (by omega) (by omega) (by omega)
      have P : mc 28 (4 * (m 2 3 - 1) + 3) = m 119 (4 * (m 2 3 - 1) + 3) := by rw [r1 28 (by omega)]; exact hPA.2 _ 3 (by omega) (by omega) (by omega) (by omega)
      rw [P] at F2
      refine ⟨zw (mc 56 (4 * (m 2 3 - 1) + 3) - m 119 (4 * (m 2 3 - 1) + 3)), R, mc, g, ?_, ?_, Rel_anew h r1 kan gr, fun _ _ _ => rfl⟩
      · simp only [s203_0, s203_1, s203_2, s203_4, s203_7, s203_10, s203_13, s203_14, s203_15, s203_18, s203_21, s203_24, s203_25, s203_26, s203_27, s203_28, s203_31, s203_32, s203_35, s203_38, s203_39, s203_40, s203_41, s203_42, s203_45, s203_46, s203_47, s203_50, s203_51, s203_54, s203_55, s203_56, s203_59, s203_60, zps_0, zps_1, zps_2, zps_3, zps_9, Option.bind_some, Option.bind_none, Int.reduceEq, Int.reduceNe, Int.reduceLT, Int.reduceLE, Int.reduceNeg, Int.reduceAdd, Int.reduceSub, Int.reduceMul, reduceIte, if_true, if_false, true_and, and_true, false_and, and_false, or_true, true_or, or_false, false_or, not_true_eq_false, not_false_eq_true, ite_not, z_b0, z_b1, z_b01, rGK0 hGK, rGK1 hGK, rGK2 hGK, rGK3 hGK, rGK4 hGK, rGK5 hGK, rGK6 hGK, rGK7 hGK, rGK8 hGK, rGK9 hGK, kGK0, kd2, kd3, kd9, kd11, r2_0 hT2, r2_1 hT2, r2_2 hT2, kd30, W, c, G1, m23, z1, F2, F3, if_true, if_false]
      · simp only [s283_0, s283_1, s283_2, s283_3, s283_6, s283_9, s283_12, s283_15, s283_16, s283_17, s283_18, s283_21, s283_22, s283_25, zps_0, zps_1, zps_2, zps_3, zps_9, Option.bind_some, Option.bind_none, Int.reduceEq, Int.reduceNe, Int.reduceLT, Int.reduceLE, Int.reduceNeg, Int.reduceAdd, Int.reduceSub, Int.reduceMul, reduceIte, if_true, if_false, true_and, and_true, false_and, and_false, or_true, true_or, or_false, false_or, not_true_eq_false, not_false_eq_true, ite_not, z_b0, z_b1, z_b01, rMK0 hM, rMK1 hM, rMK2 hM, rMK3 hM, rMK4 hM, rMK5 hM, rMK6 hM, rMK7 hM, rMK8 hM, rMK9 hM, rMK10 hM, rMK11 hM, rMK12 hM, rMK13 hM, rMK14 hM, rMK15 hM, rMK16 hM, rMK17 hM, rMK18 hM, rMK19 hM, rMK20 hM, rMK21 hM, rMK22 hM, rMK23 hM, rMK24 hM, rMK25 hM, rMK26 hM, rMK27 hM, rMK28 hM, rMK29 hM, rMK30 hM, rMK31 hM, rMK32 hM, rMK33 hM, rMK34 hM, rMK35 hM, rMK36 hM, rMK37 hM, rMK38 hM, rMK39 hM, rMK40 hM, rMK41 hM, rMK42 hM, rMK43 hM, rMK44 hM, rMK45 hM, rMK46 hM, rMK47 hM, rMK48 hM, rMK49 hM, rMK50 hM, rMK51 hM, kMK0, kMK1, kMK2, kMK3, kMK4, kMK5, kMK6, kMK7, kMK8, kMK9, kMK10, kMK11, kMK12, kMK13, kMK14, kMK15, kMK16, kMK17, kMK18, kMK19, kMK20, kMK21, kMK22, kMK23, kMK24, kMK25, kMK26, kMK27, kMK28, kMK29, kMK30, kMK31, kMK32, kMK33, kMK34, kMK35, kMK36, kMK37, kMK38, kMK39, kMK40, kMK41, kMK42, kMK43, kMK44, kMK45, kMK46, kMK47, kMK48, kMK49, kMK50, kMK51, kMK52, kMK53, kMK54, kMK55, kMK56, kMK57, kMK58, kMK59, kMK60, kMK61, kMK62, kMK63, kMK64, kMK65, kMK66, kMK67, kMK68, kMK69, kMK70, kMK71, kMK72, kMK73, kMK74, kMK75, kMK76, kMK77, kMK78, kMK79, kMK80, kMK81, kMK82, kMK83, kMK84, kMK85, kMK86, kMK87, kMK88, kMK89, kMK90, kMK91, kMK92, kMK93, kMK94, kMK95, kMK96, kMK97, kMK98, kMK99, kMK100, kMK101, kMK102, kMK103, kMK104, tz_in, hl, G3, mep, and_self, if_true, if_false]
  · rw [if_neg hl] at W
    refine ⟨-1000, R, m, m, ?_, ?_, Rel_K h (by omega), fun _ _ _ => rfl⟩
    · simp only [s203_0, s203_1, s203_2, s203_4, s203_7, s203_10, s203_13, s203_14, s203_15, s203_18, s203_21, s203_24, s203_25, s203_26, s203_27, s203_28, s203_31, s203_32, s203_35, s203_38, s203_39, s203_40, s203_41, s203_42, s203_45, s203_46, s203_47, s203_50, s203_51, s203_54, s203_55, s203_56, s203_59, s203_60, zps_0, zps_1, zps_2, zps_3, zps_9, Option.bind_some, Option.bind_none, Int.reduceEq, Int.reduceNe, Int.reduceLT, Int.reduceLE, Int.reduceNeg, Int.reduceAdd, Int.reduceSub, Int.reduceMul, reduceIte, if_true, if_false, true_and, and_true, false_and, and_false, or_true, true_or, or_false, false_or, not_true_eq_false, not_false_eq_true, ite_not, z_b0, z_b1, z_b01, W, if_true, if_false]
    · simp only [s283_0, s283_1, s283_2, s283_3, s283_6, s283_9, s283_12, s283_15, s283_16, s283_17, s283_18, s283_21, s283_22, s283_25, zps_0, zps_1, zps_2, zps_3, zps_9, Option.bind_some, Option.bind_none, Int.reduceEq, Int.reduceNe, Int.reduceLT, Int.reduceLE, Int.reduceNeg, Int.reduceAdd, Int.reduceSub, Int.reduceMul, reduceIte, if_true, if_false, true_and, and_true, false_and, and_false, or_true, true_or, or_false, false_or, not_true_eq_false, not_false_eq_true, ite_not, z_b0, z_b1, z_b01, rMK0 hM, rMK1 hM, rMK2 hM, rMK3 hM, rMK4 hM, rMK5 hM, rMK6 hM, rMK7 hM, rMK8 hM, rMK9 hM, rMK10 hM, rMK11 hM, rMK12 hM, rMK13 hM, rMK14 hM, rMK15 hM, rMK16 hM, rMK17 hM, rMK18 hM, rMK19 hM, rMK20 hM, rMK21 hM, rMK22 hM, rMK23 hM, rMK24 hM, rMK25 hM, rMK26 hM, rMK27 hM, rMK28 hM, rMK29 hM, rMK30 hM, rMK31 hM, rMK32 hM, rMK33 hM, rMK34 hM, rMK35 hM, rMK36 hM, rMK37 hM, rMK38 hM, rMK39 hM, rMK40 hM, rMK41 hM, rMK42 hM, rMK43 hM, rMK44 hM, rMK45 hM, rMK46 hM, rMK47 hM, rMK48 hM, rMK49 hM, rMK50 hM, rMK51 hM, kMK0, kMK1, kMK2, kMK3, kMK4, kMK5, kMK6, kMK7, kMK8, kMK9, kMK10, kMK11, kMK12, kMK13, kMK14, kMK15, kMK16, kMK17, kMK18, kMK19, kMK20, kMK21, kMK22, kMK23, kMK24, kMK25, kMK26, kMK27, kMK28, kMK29, kMK30, kMK31, kMK32, kMK33, kMK34, kMK35, kMK36, kMK37, kMK38, kMK39, kMK40, kMK41, kMK42, kMK43, kMK44, kMK45, kMK46, kMK47, kMK48, kMK49, kMK50, kMK51, kMK52, kMK53, kMK54, kMK55, kMK56, kMK57, kMK58, kMK59, kMK60, kMK61, kMK62, kMK63, kMK64, kMK65, kMK66, kMK67, kMK68, kMK69, kMK70, kMK71, kMK72, kMK73, kMK74, kMK75, kMK76, kMK77, kMK78, kMK79, kMK80, kMK81, kMK82, kMK83, kMK84, kMK85, kMK86, kMK87, kMK88, kMK89, kMK90, kMK91, kMK92, kMK93, kMK94, kMK95, kMK96, kMK97, kMK98, kMK99, kMK100, kMK101, kMK102, kMK103, kMK104, tz_in, hl, if_true, if_false]
end ANEWX
