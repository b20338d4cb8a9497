/-! notes, counts -/
def nLat (c : Int → Bool) : Nat → Int
  | 0 => -1
  | n + 1 => if c n = true then n else nLat c n
section NOTES
variable {R m : zM} {n : Nat} {k y p : Int}
theorem zk3 {n : Nat} (h : n ≤ 16) : zw ((n : Int) - 1) = (n : Int) - 1 := zw_i (by omega) (by omega)
theorem zk2 {j : Nat} (h : j ≤ 16) : zw ((j : Int) + -1) = (j : Int) - 1 := by rw [zw_i (by omega) (by omega)]; omega
theorem tz_nlat (hNK : NK R) (h0 : m 91 0 = n) (hn : n ≤ 16) : ev 72 0 [(2, 91), (0, k), (0, y), (0, p), (9, 0)] [] R m = some ((0, nLat (fun i => decide (m 92 i ≤ k ∧ m 93 i = y ∧ m 94 i = p)) n), R, m) := by
  have mi : (if (16 : Int) < n then 16 else (n : Int)) = n := by rw [if_neg (by omega)]
  have mi2 : (if (n : Int) < 16 then (n : Int) else 16) = n := by split <;> omega
  have L0 : ev 72 0 [(2, 91), (0, k), (0, y), (0, p), (9, 0)] [] R m = ev 72 13 [(2, 91), (0, k), (0, y), (0, p), (0, (n : Int) - 1)] [] R m := by
    simp only [s72_0, s72_1, s72_4, s72_6, s72_9, s72_10, s72_11, s72_15, s72_18, s72_19, s72_22, s72_24, s72_25, s72_26, s72_29, s72_30, s72_33, s72_35, s72_36, s72_37, s72_40, s72_41, s72_44, s72_46, s72_47, s72_48, s72_51, s72_53, s72_54, s72_57, s72_60, s72_61, zps_0, zps_1, zps_2, zps_3, zps_9, Option.bind_some, Option.bind_none, Int.reduceEq, Int.reduceNe, Int.reduceLT, Int.reduceLE, Int.reduceNeg, Int.reduceAdd, Int.reduceSub, Int.reduceMul, reduceIte, if_true, if_false, true_and, and_true, false_and, and_false, or_true, true_or, or_false, false_or, not_true_eq_false, not_false_eq_true, ite_not, z_b0, z_b1, z_b01, rNK0 hNK, rNK1 hNK, rNK2 hNK, rNK3 hNK, kNK0, kNK1, kNK2, kNK3, kNK4, kNK5, kNK6, kNK7, kNK8, h0, mi, mi2, zk3 hn]
  rw [L0]
  have key : ∀ j : Nat, j ≤ n → ev 72 13 [(2, 91), (0, k), (0, y), (0, p), (0, (j : Int) - 1)] [] R m = some ((0, nLat (fun i => decide (m 92 i ≤ k ∧ m 93 i = y ∧ m 94 i = p)) j), R, m) := by
    intro j
    induction j with
    | zero =>
      intro _
      rw [s72_13]
      have c : ((0 : Nat) : Int) - 1 < 0 := by omega
      simp only [s72_0, s72_1, s72_4, s72_6, s72_9, s72_10, s72_11, s72_15, s72_18, s72_19, s72_22, s72_24, s72_25, s72_26, s72_29, s72_30, s72_33, s72_35, s72_36, s72_37, s72_40, s72_41, s72_44, s72_46, s72_47, s72_48, s72_51, s72_53, s72_54, s72_57, s72_60, s72_61, zps_0, zps_1, zps_2, zps_3, zps_9, Option.bind_some, Option.bind_none, Int.reduceEq, Int.reduceNe, Int.reduceLT, Int.reduceLE, Int.reduceNeg, Int.reduceAdd, Int.reduceSub, Int.reduceMul, reduceIte, if_true, if_false, true_and, and_true, false_and, and_false, or_true, true_or, or_false, false_or, not_true_eq_false, not_false_eq_true, ite_not, z_b0, z_b1, z_b01, rNK0 hNK, rNK1 hNK, rNK2 hNK, rNK3 hNK, kNK0, kNK1, kNK2, kNK3, kNK4, kNK5, kNK6, kNK7, kNK8, c, nLat, if_true]
    | succ j ih =>
      intro hj
      have e : ((j + 1 : Nat) : Int) - 1 = (j : Int) := by omega
      have c1 : ¬ (j : Int) < 0 := by omega
      have c2 : 0 ≤ (j : Int) ∧ (j : Int) < 16 := by omega
      have c3 : 0 ≤ (j : Int) := by omega
      have jk : j ≤ 16 := by omega
      rw [e, s72_13]
      simp only [nLat, decide_eq_true_eq]
      have ih := ih (by omega)
      by_cases a1 : m 92 j ≤ k
      · have a1' : ¬ k < m 92 j := by omega
        by_cases a2 : m 93 j = y
        · by_cases a3 : m 94 j = p
          · rw [if_pos ⟨a1, a2, a3⟩]
            simp only [s72_0, s72_1, s72_4, s72_6, s72_9, s72_10, s72_11, s72_15, s72_18, s72_19, s72_22, s72_24, s72_25, s72_26, s72_29, s72_30, s72_33, s72_35, s72_36, s72_37, s72_40, s72_41, s72_44, s72_46, s72_47, s72_48, s72_51, s72_53, s72_54, s72_57, s72_60, s72_61, zps_0, zps_1, zps_2, zps_3, zps_9, Option.bind_some, Option.bind_none, Int.reduceEq, Int.reduceNe, Int.reduceLT, Int.reduceLE, Int.reduceNeg, Int.reduceAdd, Int.reduceSub, Int.reduceMul, reduceIte, if_true, if_false, true_and, and_true, false_and, and_false, or_true, true_or, or_false, false_or, not_true_eq_false, not_false_eq_true, ite_not, z_b0, z_b1, z_b01, rNK0 hNK, rNK1 hNK, rNK2 hNK, rNK3 hNK, kNK0, kNK1, kNK2, kNK3, kNK4, kNK5, kNK6, kNK7, kNK8, c1, c2, c3, a1, a1', a2, a3, and_self, if_true, if_false]
          · rw [if_neg (fun q => a3 q.2.2), ← ih]
            simp only [s72_0, s72_1, s72_4, s72_6, s72_9, s72_10, s72_11, s72_15, s72_18, s72_19, s72_22, s72_24, s72_25, s72_26, s72_29, s72_30, s72_33, s72_35, s72_36, s72_37, s72_40, s72_41, s72_44, s72_46, s72_47, s72_48, s72_51, s72_53, s72_54, s72_57, s72_60, s72_61, zps_0, zps_1, zps_2, zps_3, zps_9, Option.bind_some, Option.bind_none, Int.reduceEq, Int.reduceNe, Int.reduceLT, Int.reduceLE, Int.reduceNeg, Int.reduceAdd, Int.reduceSub, Int.reduceMul, reduceIte, if_true, if_false, true_and, and_true, false_and, and_false, or_true, true_or, or_false, false_or, not_true_eq_false, not_false_eq_true, ite_not, z_b0, z_b1, z_b01, rNK0 hNK, rNK1 hNK, rNK2 hNK, rNK3 hNK, kNK0, kNK1, kNK2, kNK3, kNK4, kNK5, kNK6, kNK7, kNK8, c1, c2, c3, a1, a1', a2, a3, zk2 jk, and_self, if_true, if_false]
        · rw [if_neg (fun q => a2 q.2.1), ← ih]
          simp only [s72_0, s72_1, s72_4, s72_6, s72_9, s72_10, s72_11, s72_15, s72_18, s72_19, s72_22, s72_24, s72_25, s72_26, s72_29, s72_30, s72_33, s72_35, s72_36, s72_37, s72_40, s72_41, s72_44, s72_46, s72_47, s72_48, s72_51, s72_53, s72_54, s72_57, s72_60, s72_61, zps_0, zps_1, zps_2, zps_3, zps_9, Option.bind_some, Option.bind_none, Int.reduceEq, Int.reduceNe, Int.reduceLT, Int.reduceLE, Int.reduceNeg, Int.reduceAdd, Int.reduceSub, Int.reduceMul, reduceIte, if_true, if_false, true_and, and_true, false_and, and_false, or_true, true_or, or_false, false_or, not_true_eq_false, not_false_eq_true, ite_not, z_b0, z_b1, z_b01, rNK0 hNK, rNK1 hNK, rNK2 hNK, rNK3 hNK, kNK0, kNK1, kNK2, kNK3, kNK4, kNK5, kNK6, kNK7, kNK8, c1, c2, c3, a1, a1', a2, zk2 jk, and_self, if_true, if_false]
      · have a1' : k < m 92 j := by omega
        rw [if_neg (fun q => a1 q.1), ← ih]
        simp only [s72_0, s72_1, s72_4, s72_6, s72_9, s72_10, s72_11, s72_15, s72_18, s72_19, s72_22, s72_24, s72_25, s72_26, s72_29, s72_30, s72_33, s72_35, s72_36, s72_37, s72_40, s72_41, s72_44, s72_46, s72_47, s72_48, s72_51, s72_53, s72_54, s72_57, s72_60, s72_61, zps_0, zps_1, zps_2, zps_3, zps_9, Option.bind_some, Option.bind_none, Int.reduceEq, Int.reduceNe, Int.reduceLT, Int.reduceLE, Int.reduceNeg, Int.reduceAdd, Int.reduceSub, Int.reduceMul, reduceIte, if_true, if_false, true_and, and_true, false_and, and_false, or_true, true_or, or_false, false_or, not_true_eq_false, not_false_eq_true, ite_not, z_b0, z_b1, z_b01, rNK0 hNK, rNK1 hNK, rNK2 hNK, rNK3 hNK, kNK0, kNK1, kNK2, kNK3, kNK4, kNK5, kNK6, kNK7, kNK8, c1, c2, c3, a1, a1', zk2 jk, and_self, if_true, if_false]
  exact key n (Nat.le_refl _)
theorem tz_nuse (hNK : NK R) (h0 : m 91 0 = n) (hn : n ≤ 16) {i : Int} (hi : 0 ≤ i ∧ i < n) : ev 73 0 [(2, 91), (0, i)] [] R m = some ((0, m 95 i), R, m) := by
  have c1 : ¬ i < 0 := by omega
  have c2 : ¬ (n : Int) ≤ i := by omega
  have c3 : ¬ (16 : Int) ≤ i := by omega
  have c4 : 0 ≤ i ∧ i < 16 := by omega
  have c5 : i < 16 := by omega
  simp only [s73_0, s73_1, s73_4, s73_5, s73_6, s73_9, s73_12, s73_13, s73_15, s73_18, s73_19, s73_22, s73_23, s73_24, s73_27, s73_28, zps_0, zps_1, zps_2, zps_3, zps_9, Option.bind_some, Option.bind_none, Int.reduceEq, Int.reduceNe, Int.reduceLT, Int.reduceLE, Int.reduceNeg, Int.reduceAdd, Int.reduceSub, Int.reduceMul, reduceIte, if_true, if_false, true_and, and_true, false_and, and_false, or_true, true_or, or_false, false_or, not_true_eq_false, not_false_eq_true, ite_not, z_b0, z_b1, z_b01, rNK0 hNK, rNK1 hNK, rNK2 hNK, rNK3 hNK, kNK0, kNK1, kNK2, kNK3, kNK4, kNK5, kNK6, kNK7, kNK8, h0, c1, c2, c3, c4, c5, hi, and_self, if_true, if_false]
end NOTES
