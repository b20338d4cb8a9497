/-! the class's trips: small things, crowds -/
theorem adj_d {w p q : Int} (hw : 1 ≤ w ∧ w ≤ 8) (hp : 0 ≤ p ∧ p < 64) (hq : 0 ≤ q ∧ q < 64) (h : zfar w p q = 1) : q = p + 1 ∨ p = q + 1 ∨ q = p + w ∨ p = q + w := by
  have e : w = 1 ∨ w = 2 ∨ w = 3 ∨ w = 4 ∨ w = 5 ∨ w = 6 ∨ w = 7 ∨ w = 8 := by omega
  unfold zfar zab at h
  rcases e with e | e | e | e | e | e | e | e <;> subst e <;> (split at h <;> split at h <;> omega)
theorem wEd_inj {w p q p' q' : Int} (hw : 1 ≤ w ∧ w ≤ 8) (hp : 0 ≤ p ∧ p < 64) (hq : 0 ≤ q ∧ q < 64) (hp' : 0 ≤ p' ∧ p' < 64) (hq' : 0 ≤ q' ∧ q' < 64) (h : zfar w p q = 1) (h' : zfar w p' q' = 1) (e : wEd p q = wEd p' q') : (p' = p ∧ q' = q) ∨ (p' = q ∧ q' = p) := by
  have a := adj_d hw hp hq h
  have a' := adj_d hw hp' hq' h'
  unfold wEd at e
  (repeat' split at e) <;> omega
theorem zbes_u {w h p d d' : Int} (hw : 1 ≤ w) (hd : 0 ≤ d ∧ d < 4) (hd' : 0 ≤ d' ∧ d' < 4) (h0 : 0 ≤ zbes w h p d) (e : zbes w h p d = zbes w h p d') : d = d' := by
  have c : d = 0 ∨ d = 1 ∨ d = 2 ∨ d = 3 := by omega
  have c' : d' = 0 ∨ d' = 1 ∨ d' = 2 ∨ d' = 3 := by omega
  by_cases w1 : w = 1
  · subst w1
    have m1 : p % 1 = 0 := by omega
    unfold zbes at e h0
    rw [m1] at e h0
    rcases c with c | c | c | c <;> rcases c' with c' | c' | c' | c' <;> subst c <;> subst c' <;> simp at e h0 ⊢ <;> (repeat' split at e) <;> (repeat' split at h0) <;> omega
  · unfold zbes at e h0
    rcases c with c | c | c | c <;> rcases c' with c' | c' | c' | c' <;> subst c <;> subst c' <;> simp at e h0 ⊢ <;> (repeat' split at e) <;> (repeat' split at h0) <;> omega
def cSd (m : zM) (p q : Int) : Int := zfst (fun d => decide (m 73 (4 * p + d) = q)) 4
section CTRIP
variable {R m w : zM} {T : zTS} {t : Int}
theorem tz_wplotAt (hWK : WK R) (i : Int) (hl : m 70 11 ≤ 88) : ev 172 0 [(2, 70), (0, i)] [] R m = some ((0, if 0 ≤ i ∧ i < m 70 11 then m 78 i else -4), R, m) := by
  by_cases c : 0 ≤ i
  · have c1 : ¬ i < 0 := by omega
    by_cases d : i < m 70 11
    · have d1 : ¬ m 70 11 ≤ i := by omega
      have d2 : ¬ 88 ≤ i := by omega
      have d3 : i < 88 := by omega
      rw [if_pos ⟨c, d⟩]
      simp only [s172_0, s172_1, s172_4, s172_5, s172_6, s172_9, s172_12, s172_13, s172_15, s172_18, s172_19, s172_22, s172_23, s172_24, s172_27, s172_29, zps_0, zps_1, zps_2, zps_3, zps_9, Option.bind_some, Option.bind_none, Int.reduceEq, Int.reduceNe, Int.reduceLT, Int.reduceLE, Int.reduceNeg, Int.reduceAdd, Int.reduceSub, Int.reduceMul, reduceIte, if_true, if_false, true_and, and_true, false_and, and_false, or_true, true_or, or_false, false_or, not_true_eq_false, not_false_eq_true, ite_not, z_b0, z_b1, z_b01, rWK0 hWK, rWK1 hWK, rWK2 hWK, rWK3 hWK, rWK4 hWK, rWK5 hWK, rWK6 hWK, rWK7 hWK, rWK8 hWK, kWK0, kWK1, kWK2, kWK3, kWK4, kWK5, kWK6, kWK7, kWK8, kWK9, kWK10, kWK11, kWK12, kWK13, kWK14, kWK15, kWK16, c, c1, d, d1, d2, d3, and_self, if_true, if_false]
    · have d1 : m 70 11 ≤ i := by omega
      rw [if_neg (fun q => d q.2)]
      simp only [s172_0, s172_1, s172_4, s172_5, s172_6, s172_9, s172_12, s172_13, s172_15, s172_18, s172_19, s172_22, s172_23, s172_24, s172_27, s172_29, zps_0, zps_1, zps_2, zps_3, zps_9, Option.bind_some, Option.bind_none, Int.reduceEq, Int.reduceNe, Int.reduceLT, Int.reduceLE, Int.reduceNeg, Int.reduceAdd, Int.reduceSub, Int.reduceMul, reduceIte, if_true, if_false, true_and, and_true, false_and, and_false, or_true, true_or, or_false, false_or, not_true_eq_false, not_false_eq_true, ite_not, z_b0, z_b1, z_b01, rWK0 hWK, rWK1 hWK, rWK2 hWK, rWK3 hWK, rWK4 hWK, rWK5 hWK, rWK6 hWK, rWK7 hWK, rWK8 hWK, kWK0, kWK1, kWK2, kWK3, kWK4, kWK5, kWK6, kWK7, kWK8, kWK9, kWK10, kWK11, kWK12, kWK13, kWK14, kWK15, kWK16, c, c1, d, d1, if_true, if_false]
  · have c1 : i < 0 := by omega
    rw [if_neg (fun q => c q.1)]
    simp only [s172_0, s172_1, s172_4, s172_5, s172_6, s172_9, s172_12, s172_13, s172_15, s172_18, s172_19, s172_22, s172_23, s172_24, s172_27, s172_29, zps_0, zps_1, zps_2, zps_3, zps_9, Option.bind_some, Option.bind_none, Int.reduceEq, Int.reduceNe, Int.reduceLT, Int.reduceLE, Int.reduceNeg, Int.reduceAdd, Int.reduceSub, Int.reduceMul, reduceIte, if_true, if_false, true_and, and_true, false_and, and_false, or_true, true_or, or_false, false_or, not_true_eq_false, not_false_eq_true, ite_not, z_b0, z_b1, z_b01, rWK0 hWK, rWK1 hWK, rWK2 hWK, rWK3 hWK, rWK4 hWK, rWK5 hWK, rWK6 hWK, rWK7 hWK, rWK8 hWK, kWK0, kWK1, kWK2, kWK3, kWK4, kWK5, kWK6, kWK7, kWK8, kWK9, kWK10, kWK11, kWK12, kWK13, kWK14, kWK15, kWK16, c, c1, if_true, if_false]
theorem tz_phas (hPK : PK R) (t : Int) : ev 137 0 [(2, 79), (0, t)] [] R m = some ((0, if 0 ≤ t ∧ t < m 79 1 ∧ t < 8 then 1 else 0), R, m) := by
  simp only [s137_0, s137_1, s137_4, s137_5, s137_6, s137_9, s137_12, s137_13, s137_15, s137_18, s137_19, s137_22, s137_23, zps_0, zps_1, zps_2, zps_3, zps_9, Option.bind_some, Option.bind_none, Int.reduceEq, Int.reduceNe, Int.reduceLT, Int.reduceLE, Int.reduceNeg, Int.reduceAdd, Int.reduceSub, Int.reduceMul, reduceIte, if_true, if_false, true_and, and_true, false_and, and_false, or_true, true_or, or_false, false_or, not_true_eq_false, not_false_eq_true, ite_not, z_b0, z_b1, z_b01, rPK0 hPK, rPK1 hPK, rPK2 hPK, rPK3 hPK, rPK4 hPK, rPK5 hPK, rPK6 hPK, rPK7 hPK, kPK0, kPK1, kPK2, kPK3, kPK4, kPK5, kPK6, kPK7, kPK8, kPK9, kPK10, kPK11, kPK12, kPK13, kPK14]
  (repeat' split) <;> first | rfl | (exfalso; omega)
theorem tz_goesThrough (hPK : PK R) (ht : 0 ≤ t ∧ t < m 79 1 ∧ t < 8) : ev 139 0 [(2, 79), (0, t)] [] R m = some ((0, m 85 t), R, m) := by
  have h := tz_phas (m := m) hPK t
  rw [if_pos ht] at h
  have c : 0 ≤ t ∧ t < 8 := by omega
  simp only [s139_0, s139_1, s139_2, s139_5, s139_8, s139_9, s139_12, s139_13, s139_14, s139_17, s139_18, zps_0, zps_1, zps_2, zps_3, zps_9, Option.bind_some, Option.bind_none, Int.reduceEq, Int.reduceNe, Int.reduceLT, Int.reduceLE, Int.reduceNeg, Int.reduceAdd, Int.reduceSub, Int.reduceMul, reduceIte, if_true, if_false, true_and, and_true, false_and, and_false, or_true, true_or, or_false, false_or, not_true_eq_false, not_false_eq_true, ite_not, z_b0, z_b1, z_b01, rPK0 hPK, rPK1 hPK, rPK2 hPK, rPK3 hPK, rPK4 hPK, rPK5 hPK, rPK6 hPK, rPK7 hPK, kPK0, kPK1, kPK2, kPK3, kPK4, kPK5, kPK6, kPK7, kPK8, kPK9, kPK10, kPK11, kPK12, kPK13, kPK14, h, c, and_self, if_true, if_false]
theorem tz_tplotAt (hPK : PK R) (ht : 0 ≤ t ∧ t < m 79 1 ∧ t < 8) {i : Int} (hi : 0 ≤ i ∧ i < m 85 t ∧ i < 64) : ev 140 0 [(2, 79), (0, t), (0, i)] [] R m = some ((0, m 86 (64 * t + i)), R, m) := by
  have h := tz_phas (m := m) hPK t
  rw [if_pos ht] at h
  have c : 0 ≤ t ∧ t < 8 := by omega
  have z1 : zw (t * 64) = t * 64 := zw_i (by omega) (by omega)
  have z2 : zw (t * 64 + i) = 64 * t + i := by rw [zw_i (by omega) (by omega)]; omega
  have c1 : 0 ≤ 64 * t + i ∧ 64 * t + i < 512 := by omega
  have d1 : ¬ i < 0 := by omega
  have d2 : 0 ≤ i := hi.1
  have d3 : ¬ 64 ≤ i := by omega
  have d4 : i < 64 := hi.2.2
  have d5 : i < m 85 t := hi.2.1
  have d6 : ¬ m 85 t ≤ i := by omega
  simp only [s140_0, s140_1, s140_2, s140_5, s140_8, s140_9, s140_12, s140_13, s140_15, s140_18, s140_19, s140_20, s140_23, s140_24, s140_25, s140_28, s140_29, s140_32, s140_33, s140_35, s140_36, s140_37, s140_38, s140_39, s140_42, s140_44, zps_0, zps_1, zps_2, zps_3, zps_9, Option.bind_some, Option.bind_none, Int.reduceEq, Int.reduceNe, Int.reduceLT, Int.reduceLE, Int.reduceNeg, Int.reduceAdd, Int.reduceSub, Int.reduceMul, reduceIte, if_true, if_false, true_and, and_true, false_and, and_false, or_true, true_or, or_false, false_or, not_true_eq_false, not_false_eq_true, ite_not, z_b0, z_b1, z_b01, rPK0 hPK, rPK1 hPK, rPK2 hPK, rPK3 hPK, rPK4 hPK, rPK5 hPK, rPK6 hPK, rPK7 hPK, kPK0, kPK1, kPK2, kPK3, kPK4, kPK5, kPK6, kPK7, kPK8, kPK9, kPK10, kPK11, kPK12, kPK13, kPK14, h, c, z1, z2, c1, d1, d2, d3, d4, d5, d6, and_self, if_true, if_false]
theorem tz_isOut (hPK : PK R) (ht : 0 ≤ t ∧ t < m 79 1 ∧ t < 8) : ev 142 0 [(2, 79), (0, t)] [] R m = some ((0, if m 82 t = 1 then 1 else 0), R, m) := by
  have h := tz_phas (m := m) hPK t
  rw [if_pos ht] at h
  have c : 0 ≤ t ∧ t < 8 := by omega
  by_cases d : m 82 t = 1
  · simp only [s142_0, s142_1, s142_2, s142_5, s142_8, s142_9, s142_12, s142_13, s142_14, s142_15, s142_18, s142_19, s142_22, s142_23, zps_0, zps_1, zps_2, zps_3, zps_9, Option.bind_some, Option.bind_none, Int.reduceEq, Int.reduceNe, Int.reduceLT, Int.reduceLE, Int.reduceNeg, Int.reduceAdd, Int.reduceSub, Int.reduceMul, reduceIte, if_true, if_false, true_and, and_true, false_and, and_false, or_true, true_or, or_false, false_or, not_true_eq_false, not_false_eq_true, ite_not, z_b0, z_b1, z_b01, rPK0 hPK, rPK1 hPK, rPK2 hPK, rPK3 hPK, rPK4 hPK, rPK5 hPK, rPK6 hPK, rPK7 hPK, kPK0, kPK1, kPK2, kPK3, kPK4, kPK5, kPK6, kPK7, kPK8, kPK9, kPK10, kPK11, kPK12, kPK13, kPK14, h, c, d, and_self, if_true, if_false]
  · simp only [s142_0, s142_1, s142_2, s142_5, s142_8, s142_9, s142_12, s142_13, s142_14, s142_15, s142_18, s142_19, s142_22, s142_23, zps_0, zps_1, zps_2, zps_3, zps_9, Option.bind_some, Option.bind_none, Int.reduceEq, Int.reduceNe, Int.reduceLT, Int.reduceLE, Int.reduceNeg, Int.reduceAdd, Int.reduceSub, Int.reduceMul, reduceIte, if_true, if_false, true_and, and_true, false_and, and_false, or_true, true_or, or_false, false_or, not_true_eq_false, not_false_eq_true, ite_not, z_b0, z_b1, z_b01, rPK0 hPK, rPK1 hPK, rPK2 hPK, rPK3 hPK, rPK4 hPK, rPK5 hPK, rPK6 hPK, rPK7 hPK, kPK0, kPK1, kPK2, kPK3, kPK4, kPK5, kPK6, kPK7, kPK8, kPK9, kPK10, kPK11, kPK12, kPK13, kPK14, h, c, d, and_self, if_true, if_false]
theorem tz_takes (hPK : PK R) (ht : 0 ≤ t ∧ t < m 79 1 ∧ t < 8) : ev 144 0 [(2, 79), (0, t)] [] R m = some ((0, m 84 t), R, m) := by
  have h := tz_phas (m := m) hPK t
  rw [if_pos ht] at h
  have c : 0 ≤ t ∧ t < 8 := by omega
  simp only [s144_0, s144_1, s144_2, s144_5, s144_8, s144_9, s144_12, s144_13, s144_14, s144_17, s144_18, zps_0, zps_1, zps_2, zps_3, zps_9, Option.bind_some, Option.bind_none, Int.reduceEq, Int.reduceNe, Int.reduceLT, Int.reduceLE, Int.reduceNeg, Int.reduceAdd, Int.reduceSub, Int.reduceMul, reduceIte, if_true, if_false, true_and, and_true, false_and, and_false, or_true, true_or, or_false, false_or, not_true_eq_false, not_false_eq_true, ite_not, z_b0, z_b1, z_b01, rPK0 hPK, rPK1 hPK, rPK2 hPK, rPK3 hPK, rPK4 hPK, rPK5 hPK, rPK6 hPK, rPK7 hPK, kPK0, kPK1, kPK2, kPK3, kPK4, kPK5, kPK6, kPK7, kPK8, kPK9, kPK10, kPK11, kPK12, kPK13, kPK14, h, c, and_self, if_true, if_false]
theorem tz_takesAlone (hPK : PK R) (ht : 0 ≤ t ∧ t < m 79 1 ∧ t < 8) : ev 145 0 [(2, 79), (0, t)] [] R m = some ((0, m 83 t), R, m) := by
  have h := tz_phas (m := m) hPK t
  rw [if_pos ht] at h
  have c : 0 ≤ t ∧ t < 8 := by omega
  simp only [s145_0, s145_1, s145_2, s145_5, s145_8, s145_9, s145_12, s145_13, s145_14, s145_17, s145_18, zps_0, zps_1, zps_2, zps_3, zps_9, Option.bind_some, Option.bind_none, Int.reduceEq, Int.reduceNe, Int.reduceLT, Int.reduceLE, Int.reduceNeg, Int.reduceAdd, Int.reduceSub, Int.reduceMul, reduceIte, if_true, if_false, true_and, and_true, false_and, and_false, or_true, true_or, or_false, false_or, not_true_eq_false, not_false_eq_true, ite_not, z_b0, z_b1, z_b01, rPK0 hPK, rPK1 hPK, rPK2 hPK, rPK3 hPK, rPK4 hPK, rPK5 hPK, rPK6 hPK, rPK7 hPK, kPK0, kPK1, kPK2, kPK3, kPK4, kPK5, kPK6, kPK7, kPK8, kPK9, kPK10, kPK11, kPK12, kPK13, kPK14, h, c, and_self, if_true, if_false]
theorem tz_forgetCrowd (hWK : WK R) : ev 174 0 [(2, 70)] [] R m = some ((9, 0), R, zpr m 75 (zfll (m 75) 256 0)) := by
  have F := tz_fill (R := R) (m := m) (a := 75) (n := 256) 0 (by decide +kernel) (by decide +kernel) (by omega) (by omega)
  simp only [s174_0, s174_1, s174_4, s174_5, s174_8, zps_0, zps_1, zps_2, zps_3, zps_9, Option.bind_some, Option.bind_none, Int.reduceEq, Int.reduceNe, Int.reduceLT, Int.reduceLE, Int.reduceNeg, Int.reduceAdd, Int.reduceSub, Int.reduceMul, reduceIte, if_true, if_false, true_and, and_true, false_and, and_false, or_true, true_or, or_false, false_or, not_true_eq_false, not_false_eq_true, ite_not, z_b0, z_b1, z_b01, rWK0 hWK, rWK1 hWK, rWK2 hWK, rWK3 hWK, rWK4 hWK, rWK5 hWK, rWK6 hWK, rWK7 hWK, rWK8 hWK, kWK0, kWK1, kWK2, kWK3, kWK4, kWK5, kWK6, kWK7, kWK8, kWK9, kWK10, kWK11, kWK12, kWK13, kWK14, kWK15, kWK16, F]
theorem zfst_o2 (f : Int → Bool) (k : Nat) : (zfst f k = -1 ∧ ∀ j : Int, 0 ≤ j → j < k → f j = false) ∨ (0 ≤ zfst f k ∧ zfst f k < k ∧ f (zfst f k) = true ∧ ∀ j : Int, 0 ≤ j → j < zfst f k → f j = false) := by
  induction k with
  | zero => left; exact ⟨rfl, fun j a b => by omega⟩
  | succ k ih =>
    simp only [zfst]
    rcases ih with ⟨a, b⟩ | ⟨a, b, c, d⟩
    · rw [a, if_neg (by omega)]
      by_cases h : f k = true
      · rw [if_pos h]; right; exact ⟨by omega, by omega, h, fun j j0 j1 => b j j0 j1⟩
      · rw [if_neg h]; left
        refine ⟨rfl, fun j j0 j1 => ?_⟩
        by_cases e : j = k
        · rw [e]; simpa using h
        · exact b j j0 (by omega)
    · rw [if_pos a]; right; exact ⟨a, by omega, c, d⟩
theorem tz_sideTo (hWK : WK R) {p q : Int} (hp : 0 ≤ p ∧ p < 64) (hq : 0 ≤ q) : ev 176 0 [(2, 70), (0, p), (0, q), (9, 0)] [] R m = some ((0, cSd m p q), R, m) := by
  have q0 : ¬ q < 0 := by omega
  have L0 : ev 176 0 [(2, 70), (0, p), (0, q), (9, 0)] [] R m = ev 176 2 [(2, 70), (0, p), (0, q), (0, 0)] [] R m := by
    simp only [s176_0, s176_1, s176_3, s176_4, s176_7, s176_8, s176_11, s176_12, s176_13, s176_14, s176_17, s176_18, s176_21, s176_22, s176_23, s176_26, s176_29, s176_30, zps_0, zps_1, zps_2, zps_3, zps_9, Option.bind_some, Option.bind_none, Int.reduceEq, Int.reduceNe, Int.reduceLT, Int.reduceLE, Int.reduceNeg, Int.reduceAdd, Int.reduceSub, Int.reduceMul, reduceIte, if_true, if_false, true_and, and_true, false_and, and_false, or_true, true_or, or_false, false_or, not_true_eq_false, not_false_eq_true, ite_not, z_b0, z_b1, z_b01, rWK0 hWK, rWK1 hWK, rWK2 hWK, rWK3 hWK, rWK4 hWK, rWK5 hWK, rWK6 hWK, rWK7 hWK, rWK8 hWK, kWK0, kWK1, kWK2, kWK3, kWK4, kWK5, kWK6, kWK7, kWK8, kWK9, kWK10, kWK11, kWK12, kWK13, kWK14, kWK15, kWK16]
  rw [L0]
  have key : ∀ n : Nat, n ≤ 4 → (zfst (fun d => decide (m 73 (4 * p + d) = q)) n = -1 → ev 176 2 [(2, 70), (0, p), (0, q), (0, 0)] [] R m = ev 176 2 [(2, 70), (0, p), (0, q), (0, n)] [] R m) ∧ (0 ≤ zfst (fun d => decide (m 73 (4 * p + d) = q)) n → ev 176 2 [(2, 70), (0, p), (0, q), (0, 0)] [] R m = some ((0, zfst (fun d => decide (m 73 (4 * p + d) = q)) n), R, m)) := by
    intro n
    induction n with
    | zero => intro _; exact ⟨fun _ => rfl, fun h => by simp [zfst] at h⟩
    | succ n ih =>
      intro hn
      obtain ⟨i1, i2⟩ := ih (by omega)
      simp only [zfst]
      rcases zfst_o2 (fun d => decide (m 73 (4 * p + d) = q)) n with ⟨a, -⟩ | ⟨a, -, -, -⟩
      · rw [a, if_neg (by omega)]
        have SE := tz_stepEnd (m := m) hWK hp (d := n) ⟨by omega, by omega⟩
        have c1 : ¬ (4 : Int) ≤ n := by omega
        have c2 : (n : Int) < 4 := by omega
        have z : zw ((n : Int) + 1) = ((n + 1 : Nat) : Int) := by rw [zw_i (by omega) (by omega)]; rfl
        by_cases e : m 73 (4 * p + n) = q
        · rw [if_pos (decide_eq_true e)]
          refine ⟨fun h => by omega, fun _ => ?_⟩
          rw [i1 a, s176_2]
          simp only [s176_0, s176_1, s176_3, s176_4, s176_7, s176_8, s176_11, s176_12, s176_13, s176_14, s176_17, s176_18, s176_21, s176_22, s176_23, s176_26, s176_29, s176_30, zps_0, zps_1, zps_2, zps_3, zps_9, Option.bind_some, Option.bind_none, Int.reduceEq, Int.reduceNe, Int.reduceLT, Int.reduceLE, Int.reduceNeg, Int.reduceAdd, Int.reduceSub, Int.reduceMul, reduceIte, if_true, if_false, true_and, and_true, false_and, and_false, or_true, true_or, or_false, false_or, not_true_eq_false, not_false_eq_true, ite_not, z_b0, z_b1, z_b01, rWK0 hWK, rWK1 hWK, rWK2 hWK, rWK3 hWK, rWK4 hWK, rWK5 hWK, rWK6 hWK, rWK7 hWK, rWK8 hWK, kWK0, kWK1, kWK2, kWK3, kWK4, kWK5, kWK6, kWK7, kWK8, kWK9, kWK10, kWK11, kWK12, kWK13, kWK14, kWK15, kWK16, c1, c2, q0, hq, SE, e, if_true, if_false]
        · rw [if_neg (by simpa using e)]
          refine ⟨fun _ => ?_, fun h => by omega⟩
          rw [i1 a, s176_2]
          simp only [s176_0, s176_1, s176_3, s176_4, s176_7, s176_8, s176_11, s176_12, s176_13, s176_14, s176_17, s176_18, s176_21, s176_22, s176_23, s176_26, s176_29, s176_30, zps_0, zps_1, zps_2, zps_3, zps_9, Option.bind_some, Option.bind_none, Int.reduceEq, Int.reduceNe, Int.reduceLT, Int.reduceLE, Int.reduceNeg, Int.reduceAdd, Int.reduceSub, Int.reduceMul, reduceIte, if_true, if_false, true_and, and_true, false_and, and_false, or_true, true_or, or_false, false_or, not_true_eq_false, not_false_eq_true, ite_not, z_b0, z_b1, z_b01, rWK0 hWK, rWK1 hWK, rWK2 hWK, rWK3 hWK, rWK4 hWK, rWK5 hWK, rWK6 hWK, rWK7 hWK, rWK8 hWK, kWK0, kWK1, kWK2, kWK3, kWK4, kWK5, kWK6, kWK7, kWK8, kWK9, kWK10, kWK11, kWK12, kWK13, kWK14, kWK15, kWK16, c1, c2, q0, hq, SE, e, z, if_true, if_false]
      · rw [if_pos a]
        exact ⟨fun h => by omega, fun _ => i2 a⟩
  obtain ⟨k1, k2⟩ := key 4 (Nat.le_refl _)
  unfold cSd
  rcases zfst_o2 (fun d => decide (m 73 (4 * p + d) = q)) 4 with ⟨a, -⟩ | ⟨a, -, -, -⟩
  · rw [k1 a, a, s176_2]
    simp only [s176_0, s176_1, s176_3, s176_4, s176_7, s176_8, s176_11, s176_12, s176_13, s176_14, s176_17, s176_18, s176_21, s176_22, s176_23, s176_26, s176_29, s176_30, zps_0, zps_1, zps_2, zps_3, zps_9, Option.bind_some, Option.bind_none, Int.reduceEq, Int.reduceNe, Int.reduceLT, Int.reduceLE, Int.reduceNeg, Int.reduceAdd, Int.reduceSub, Int.reduceMul, reduceIte, if_true, if_false, true_and, and_true, false_and, and_false, or_true, true_or, or_false, false_or, not_true_eq_false, not_false_eq_true, ite_not, z_b0, z_b1, z_b01, rWK0 hWK, rWK1 hWK, rWK2 hWK, rWK3 hWK, rWK4 hWK, rWK5 hWK, rWK6 hWK, rWK7 hWK, rWK8 hWK, kWK0, kWK1, kWK2, kWK3, kWK4, kWK5, kWK6, kWK7, kWK8, kWK9, kWK10, kWK11, kWK12, kWK13, kWK14, kWK15, kWK16, if_true, show ((4 : Nat) : Int) = 4 from rfl]
  · exact k2 a
/-- the side to a plot beside -/
theorem cSd_ok (hL : LDok m) (hW : WRs m w) {p q : Int} (sp : wSt w p = true) (sq : wSt w q = true) (hp : 0 ≤ p ∧ p < 64) (hq : 0 ≤ q ∧ q < 64) (h : zfar (w 100 0) q p = 1) : (0 ≤ cSd m p q ∧ cSd m p q < 4) ∧ m 73 (4 * p + cSd m p q) = q ∧ cGo m p (cSd m p q) = true ∧ cQ m p (cSd m p q) = q := by
  obtain ⟨d, d0, d1, e⟩ := cSt_a hL hW hp hq sp sq h
  unfold cSd
  rcases zfst_o2 (fun d => decide (m 73 (4 * p + d) = q)) 4 with ⟨a, b⟩ | ⟨a, b, c, -⟩
  · have := b d d0 (by omega)
    rw [decide_eq_true e] at this
    cases this
  · generalize zfst (fun d => decide (m 73 (4 * p + d) = q)) 4 = f at *
    have c := of_decide_eq_true c
    have l := (hL p f hp.1 hp.2 a (by omega)).1
    by_cases g : cGo m p f = true
    · rw [if_pos g, c] at l
      exact ⟨⟨a, by omega⟩, c, g, l.symm⟩
    · rw [if_neg g, c] at l
      omega
end CTRIP
