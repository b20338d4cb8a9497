/-! plans: pure, the class's small things -/
def pCo (C : Int → Int) (s : Int) : Nat → Int
  | 0 => 0
  | k + 1 => pCo C s k + if ybt s k = true then C k else 0
def pGU (P Kd G U : Int → Int) (s : Int) : Nat → (Int → Int) × (Int → Int)
  | 0 => (G, U)
  | k + 1 => if ybt s k = true then (zrw (pGU P Kd G U s k).1 (P k) (if Kd k = 0 then 2 else 0), zrw (pGU P Kd G U s k).2 (P k) (Kd k)) else pGU P Kd G U s k
def pBad (P G U : Int → Int) (s b : Int) : Bool := ybt s b && (!decide (G (P b) = 0 ∧ U (P b) = 0) || zany (fun a => ybt s a && decide (P a = P b)) b.toNat)
def pCan (P G U : Int → Int) (s : Int) (n : Nat) : Bool := !zany (pBad P G U s) n
def pBt (SW : (Int → Int) → (Int → Int) → Int) (P Kd C G U : Int → Int) (n : Nat) (B : Int) : Nat → Int × Int
  | 0 => (0, SW G U)
  | k + 1 => if (pCo C (k + 1) n ≤ B ∧ pCan P G U (k + 1) n = true) ∧ ((pBt SW P Kd C G U n B k).2 < SW (pGU P Kd G U (k + 1) n).1 (pGU P Kd G U (k + 1) n).2 ∨ ((pBt SW P Kd C G U n B k).2 = SW (pGU P Kd G U (k + 1) n).1 (pGU P Kd G U (k + 1) n).2 ∧ pCo C (k + 1) n < pCo C (pBt SW P Kd C G U n B k).1 n)) then ((k : Int) + 1, SW (pGU P Kd G U (k + 1) n).1 (pGU P Kd G U (k + 1) n).2) else pBt SW P Kd C G U n B k
theorem z_andbit {x p : Int} (hp : 0 ≤ p ∧ p < 64) : z64 (· &&& ·) x (zbit p) = 0 ↔ zbt x p = false := by
  constructor
  · intro h
    have e := zbt_and x (zbit p) p
    rw [h, zbt_0, zbt_bit hp hp] at e
    simpa using e.symm
  · intro h
    refine zbt_ext (z_rng64 _) (by unfold zi64; omega) (fun q q0 q1 => ?_)
    rw [zbt_and, zbt_0, zbt_bit hp ⟨q0, q1⟩]
    by_cases e : q = p
    · rw [e, h]; rfl
    · rw [decide_eq_false e, Bool.and_false]
section PLANS
variable {R m : zM} {t s : Int} {n : Nat} {P Kd C G U : Int → Int}
theorem pGU_out {q : Int} : ∀ k : Nat, (∀ a : Nat, a < k → ybt s a = true → P a ≠ q) → (pGU P Kd G U s k).1 q = G q ∧ (pGU P Kd G U s k).2 q = U q := by
  intro k
  induction k with
  | zero => intro _; exact ⟨rfl, rfl⟩
  | succ k ih =>
    intro h
    have ih := ih (fun a ha => h a (by omega))
    simp only [pGU]
    by_cases b : ybt s k = true
    · have := h k (by omega) b
      rw [if_pos b]
      dsimp only
      rw [zrw_ne (Ne.symm this), zrw_ne (Ne.symm this)]
      exact ih
    · rw [if_neg b]; exact ih
theorem pCan_iff : pCan P G U s n = true ↔ ∀ b : Nat, b < n → ybt s b = true → (G (P b) = 0 ∧ U (P b) = 0) ∧ ∀ a : Nat, a < b → ybt s a = true → P a ≠ P b := by
  unfold pCan
  rw [Bool.not_eq_true', ← Bool.not_eq_true, zany_iff]
  constructor
  · intro h b hb hy
    constructor
    · by_cases c : G (P b) = 0 ∧ U (P b) = 0
      · exact c
      · exact absurd ⟨(b : Int), by omega, by omega, by unfold pBad; rw [hy, decide_eq_false c]; rfl⟩ h
    · intro a ha hya e
      refine absurd ⟨(b : Int), by omega, by omega, ?_⟩ h
      unfold pBad
      have : zany (fun a => ybt s a && decide (P a = P b)) ((b : Int)).toNat = true := (zany_iff _ _).2 ⟨a, by omega, by omega, by rw [hya, decide_eq_true e]; rfl⟩
      rw [hy, this, Bool.or_true]; rfl
  · rintro h ⟨b, b0, b1, hb⟩
    unfold pBad at hb
    rw [Bool.and_eq_true, Bool.or_eq_true] at hb
    have h2 := h b.toNat (by omega)
    rw [show ((b.toNat : Nat) : Int) = b by omega] at h2
    obtain ⟨f, g⟩ := h2 hb.1
    rcases hb.2 with q | q
    · rw [decide_eq_true f] at q; cases q
    · obtain ⟨a, a0, a1, ha⟩ := (zany_iff _ _).1 q
      rw [Bool.and_eq_true] at ha
      have := g a.toNat (by omega)
      rw [show ((a.toNat : Nat) : Int) = a by omega] at this
      exact this ha.1 (of_decide_eq_true ha.2)
theorem pCo_bd (h : ∀ k : Int, 0 ≤ k → k < n → 0 ≤ C k ∧ C k ≤ 99) : ∀ k : Nat, k ≤ n → 0 ≤ pCo C s k ∧ pCo C s k ≤ 99 * k := by
  intro k
  induction k with
  | zero => intro _; simp only [pCo]; omega
  | succ k ih =>
    intro hk
    have := ih (by omega)
    have b := h k (by omega) (by omega)
    simp only [pCo]
    split <;> omega
def PLs (m : zM) (n : Nat) (N : Int) : Prop := m 87 0 = n ∧ n ≤ 6 ∧ ∀ k : Int, 0 ≤ k → k < n → (0 ≤ m 88 k ∧ m 88 k < N) ∧ (0 ≤ m 89 k ∧ m 89 k ≤ 3) ∧ 1 ≤ m 90 k ∧ m 90 k ≤ 99
variable {N : Int}
theorem tz_plhas (hQK : QK R) (h : PLs m n N) (k : Int) : ev 79 0 [(2, 87), (0, k)] [] R m = some ((0, if 0 ≤ k ∧ k < n then 1 else 0), R, m) := by
  have h0 := h.1
  have h6 := h.2.1
  simp only [s79_0, s79_1, s79_4, s79_5, s79_6, s79_9, s79_12, s79_13, s79_15, s79_18, s79_19, s79_22, s79_23, zps_0, zps_1, zps_2, zps_3, zps_9, Option.bind_some, Option.bind_none, Int.reduceEq, Int.reduceNe, Int.reduceLT, Int.reduceLE, Int.reduceNeg, Int.reduceAdd, Int.reduceSub, Int.reduceMul, reduceIte, if_true, if_false, true_and, and_true, false_and, and_false, or_true, true_or, or_false, false_or, not_true_eq_false, not_false_eq_true, ite_not, z_b0, z_b1, z_b01, rQK0 hQK, rQK1 hQK, rQK2 hQK, kQK0, kQK1, kQK2, kQK3, kQK4, kQK5, kQK6, h0]
  (repeat' split) <;> first | rfl | (exfalso; omega)
theorem tz_plplot (hQK : QK R) (h : PLs m n N) {k : Int} (hk : 0 ≤ k ∧ k < n) : ev 81 0 [(2, 87), (0, k)] [] R m = some ((0, m 88 k), R, m) := by
  have H := tz_plhas hQK h k
  rw [if_pos hk] at H
  have c : 0 ≤ k ∧ k < 6 := by have := h.2.1; omega
  simp only [s81_0, s81_1, s81_2, s81_5, s81_8, s81_9, s81_12, s81_13, s81_14, s81_17, s81_19, zps_0, zps_1, zps_2, zps_3, zps_9, Option.bind_some, Option.bind_none, Int.reduceEq, Int.reduceNe, Int.reduceLT, Int.reduceLE, Int.reduceNeg, Int.reduceAdd, Int.reduceSub, Int.reduceMul, reduceIte, if_true, if_false, true_and, and_true, false_and, and_false, or_true, true_or, or_false, false_or, not_true_eq_false, not_false_eq_true, ite_not, z_b0, z_b1, z_b01, rQK0 hQK, rQK1 hQK, rQK2 hQK, kQK0, kQK1, kQK2, kQK3, kQK4, kQK5, kQK6, H, c, and_self, if_true, if_false]
theorem tz_plkind (hQK : QK R) (h : PLs m n N) {k : Int} (hk : 0 ≤ k ∧ k < n) : ev 83 0 [(2, 87), (0, k)] [] R m = some ((0, m 89 k), R, m) := by
  have H := tz_plhas hQK h k
  rw [if_pos hk] at H
  have c : 0 ≤ k ∧ k < 6 := by have := h.2.1; omega
  simp only [s83_0, s83_1, s83_2, s83_5, s83_8, s83_9, s83_12, s83_13, s83_14, s83_17, s83_18, zps_0, zps_1, zps_2, zps_3, zps_9, Option.bind_some, Option.bind_none, Int.reduceEq, Int.reduceNe, Int.reduceLT, Int.reduceLE, Int.reduceNeg, Int.reduceAdd, Int.reduceSub, Int.reduceMul, reduceIte, if_true, if_false, true_and, and_true, false_and, and_false, or_true, true_or, or_false, false_or, not_true_eq_false, not_false_eq_true, ite_not, z_b0, z_b1, z_b01, rQK0 hQK, rQK1 hQK, rQK2 hQK, kQK0, kQK1, kQK2, kQK3, kQK4, kQK5, kQK6, H, c, and_self, if_true, if_false]
theorem tz_plisIn (hQK : QK R) (h : PLs m n N) {k : Int} (hk : 0 ≤ k ∧ k < n) (s : Int) : ev 78 0 [(2, 87), (0, s), (0, k)] [] R m = some ((0, if ybt s k = true then 1 else 0), R, m) := by
  have H := tz_plhas hQK h k
  rw [if_pos hk] at H
  have A := y_ask (x := s) (p := k) (by have := h.2.1; omega)
  by_cases c : ybt s k = true
  · rw [if_pos c] at A
    simp only [s78_0, s78_1, s78_2, s78_5, s78_8, s78_9, s78_10, s78_11, s78_12, s78_13, s78_14, s78_17, s78_18, s78_21, s78_22, zps_0, zps_1, zps_2, zps_3, zps_9, Option.bind_some, Option.bind_none, Int.reduceEq, Int.reduceNe, Int.reduceLT, Int.reduceLE, Int.reduceNeg, Int.reduceAdd, Int.reduceSub, Int.reduceMul, reduceIte, if_true, if_false, true_and, and_true, false_and, and_false, or_true, true_or, or_false, false_or, not_true_eq_false, not_false_eq_true, ite_not, z_b0, z_b1, z_b01, rQK0 hQK, rQK1 hQK, rQK2 hQK, kQK0, kQK1, kQK2, kQK3, kQK4, kQK5, kQK6, H, A, c, if_true, if_false]
  · rw [if_neg c] at A
    simp only [s78_0, s78_1, s78_2, s78_5, s78_8, s78_9, s78_10, s78_11, s78_12, s78_13, s78_14, s78_17, s78_18, s78_21, s78_22, zps_0, zps_1, zps_2, zps_3, zps_9, Option.bind_some, Option.bind_none, Int.reduceEq, Int.reduceNe, Int.reduceLT, Int.reduceLE, Int.reduceNeg, Int.reduceAdd, Int.reduceSub, Int.reduceMul, reduceIte, if_true, if_false, true_and, and_true, false_and, and_false, or_true, true_or, or_false, false_or, not_true_eq_false, not_false_eq_true, ite_not, z_b0, z_b1, z_b01, rQK0 hQK, rQK1 hQK, rQK2 hQK, kQK0, kQK1, kQK2, kQK3, kQK4, kQK5, kQK6, H, A, c, if_true, if_false, Bool.false_eq_true]
theorem tz_plcost (hQK : QK R) (h : PLs m n N) (s : Int) : ev 77 0 [(2, 87), (0, s), (9, 0), (9, 0)] [] R m = some ((0, pCo (m 90) s n), R, m) := by
  have h0 := h.1
  have h6 := h.2.1
  have L0 : ev 77 0 [(2, 87), (0, s), (9, 0), (9, 0)] [] R m = ev 77 4 [(2, 87), (0, s), (0, 0), (0, 0)] [] R m := by
    simp only [s77_0, s77_1, s77_2, s77_3, s77_5, s77_6, s77_9, s77_12, s77_13, s77_14, s77_15, s77_18, s77_21, s77_22, s77_23, s77_26, s77_27, s77_28, s77_29, s77_30, s77_33, s77_36, s77_37, zps_0, zps_1, zps_2, zps_3, zps_9, Option.bind_some, Option.bind_none, Int.reduceEq, Int.reduceNe, Int.reduceLT, Int.reduceLE, Int.reduceNeg, Int.reduceAdd, Int.reduceSub, Int.reduceMul, reduceIte, if_true, if_false, true_and, and_true, false_and, and_false, or_true, true_or, or_false, false_or, not_true_eq_false, not_false_eq_true, ite_not, z_b0, z_b1, z_b01]
  rw [L0]
  have key : ∀ k : Nat, k ≤ n → ev 77 4 [(2, 87), (0, s), (0, 0), (0, 0)] [] R m = ev 77 4 [(2, 87), (0, s), (0, pCo (m 90) s k), (0, (k : Int))] [] R m := by
    intro k
    induction k with
    | zero => intro _; rfl
    | succ k ih =>
      intro hk
      have c1 : (k : Int) < n := by omega
      have c2 : ¬ (n : Int) ≤ k := by omega
      have c3 : 0 ≤ (k : Int) ∧ (k : Int) < 6 := by omega
      have z1 : zw ((k : Int) + 1) = ((k + 1 : Nat) : Int) := by rw [zw_i (by omega) (by omega)]; rfl
      have I := tz_plisIn (R := R) hQK h (k := k) ⟨by omega, by omega⟩ s
      have bd := pCo_bd (C := m 90) (s := s) (n := n) (fun k k0 k1 => by have := (h.2.2 k k0 k1).2.2; omega) (k + 1) hk
      rw [ih (by omega), s77_4]
      simp only [pCo] at bd ⊢
      by_cases b : ybt s k = true
      · rw [if_pos b] at bd ⊢
        rw [if_pos b] at I
        have z2 : zw (pCo (m 90) s k + m 90 k) = pCo (m 90) s k + m 90 k := zw_i (by omega) (by omega)
        simp only [s77_0, s77_1, s77_2, s77_3, s77_5, s77_6, s77_9, s77_12, s77_13, s77_14, s77_15, s77_18, s77_21, s77_22, s77_23, s77_26, s77_27, s77_28, s77_29, s77_30, s77_33, s77_36, s77_37, zps_0, zps_1, zps_2, zps_3, zps_9, Option.bind_some, Option.bind_none, Int.reduceEq, Int.reduceNe, Int.reduceLT, Int.reduceLE, Int.reduceNeg, Int.reduceAdd, Int.reduceSub, Int.reduceMul, reduceIte, if_true, if_false, true_and, and_true, false_and, and_false, or_true, true_or, or_false, false_or, not_true_eq_false, not_false_eq_true, ite_not, z_b0, z_b1, z_b01, rQK0 hQK, rQK1 hQK, rQK2 hQK, kQK0, kQK1, kQK2, kQK3, kQK4, kQK5, kQK6, h0, c1, c2, c3, I, z1, z2, and_self, if_true, if_false]
      · rw [if_neg b] at I ⊢
        simp only [s77_0, s77_1, s77_2, s77_3, s77_5, s77_6, s77_9, s77_12, s77_13, s77_14, s77_15, s77_18, s77_21, s77_22, s77_23, s77_26, s77_27, s77_28, s77_29, s77_30, s77_33, s77_36, s77_37, zps_0, zps_1, zps_2, zps_3, zps_9, Option.bind_some, Option.bind_none, Int.reduceEq, Int.reduceNe, Int.reduceLT, Int.reduceLE, Int.reduceNeg, Int.reduceAdd, Int.reduceSub, Int.reduceMul, reduceIte, if_true, if_false, true_and, and_true, false_and, and_false, or_true, true_or, or_false, false_or, not_true_eq_false, not_false_eq_true, ite_not, z_b0, z_b1, z_b01, rQK0 hQK, rQK1 hQK, rQK2 hQK, kQK0, kQK1, kQK2, kQK3, kQK4, kQK5, kQK6, h0, c1, c2, c3, I, z1, Int.add_zero, and_self, if_true, if_false]
  rw [key n (Nat.le_refl _), s77_4]
  simp only [s77_0, s77_1, s77_2, s77_3, s77_5, s77_6, s77_9, s77_12, s77_13, s77_14, s77_15, s77_18, s77_21, s77_22, s77_23, s77_26, s77_27, s77_28, s77_29, s77_30, s77_33, s77_36, s77_37, zps_0, zps_1, zps_2, zps_3, zps_9, Option.bind_some, Option.bind_none, Int.reduceEq, Int.reduceNe, Int.reduceLT, Int.reduceLE, Int.reduceNeg, Int.reduceAdd, Int.reduceSub, Int.reduceMul, reduceIte, if_true, if_false, true_and, and_true, false_and, and_false, or_true, true_or, or_false, false_or, not_true_eq_false, not_false_eq_true, ite_not, z_b0, z_b1, z_b01, rQK0 hQK, rQK1 hQK, rQK2 hQK, kQK0, kQK1, kQK2, kQK3, kQK4, kQK5, kQK6, h0, Int.le_refl, if_true]
theorem tz_plcan (hQK : QK R) (hB : BK R t) (hV : BV m t) (h : PLs m n (m t 2)) (s : Int) : ev 80 0 [(2, 87), (0, s), (2, t), (9, 0), (9, 0), (9, 0), (9, 0), (9, 0)] [] R m = some ((0, if pCan (m 88) (m (t + 1)) (m (t + 3)) s n = true then 1 else 0), R, m) := by
  have h0 := h.1
  have h6 := h.2.1
  have h64 := hV.2.2.2.2.2.1
  have b0 := hB.1
  have L0 : ev 80 0 [(2, 87), (0, s), (2, t), (9, 0), (9, 0), (9, 0), (9, 0), (9, 0)] [] R m = ev 80 5 [(2, 87), (0, s), (2, t), (1, 0), (8, 0), (0, 0), (9, 0), (9, 0)] [] R m := by
    simp only [s80_0, s80_1, s80_2, s80_3, s80_7, s80_8, s80_11, s80_14, s80_15, s80_16, s80_18, s80_21, s80_24, s80_27, s80_28, s80_30, s80_33, s80_36, s80_38, s80_39, s80_40, s80_42, s80_45, s80_48, s80_51, s80_52, s80_54, s80_55, s80_56, s80_57, s80_60, s80_61, s80_62, s80_63, s80_65, s80_66, s80_67, s80_70, s80_73, s80_74, zps_0, zps_1, zps_2, zps_3, zps_9, Option.bind_some, Option.bind_none, Int.reduceEq, Int.reduceNe, Int.reduceLT, Int.reduceLE, Int.reduceNeg, Int.reduceAdd, Int.reduceSub, Int.reduceMul, reduceIte, if_true, if_false, true_and, and_true, false_and, and_false, or_true, true_or, or_false, false_or, not_true_eq_false, not_false_eq_true, ite_not, z_b0, z_b1, z_b01]
  rw [L0]
  refine zloop (fun r => r = some ((0, if pCan (m 88) (m (t + 1)) (m (t + 3)) s n = true then 1 else 0), R, m)) (fun k (x : Int × zV × zV) => ev 80 5 [(2, 87), (0, s), (2, t), (1, x.1), (8, 0), (0, k), x.2.1, x.2.2] [] R m) n (fun k x => 0 ≤ k ∧ (∀ b : Nat, b < k → pBad (m 88) (m (t + 1)) (m (t + 3)) s b = false) ∧ ∀ q, 0 ≤ q → q < 64 → zbt x.1 q = zany (fun a => ybt s a && decide (m 88 a = q)) k.toNat) ?_ ?_ 0 (0, (9, 0), (9, 0)) (by omega) ⟨by omega, fun b hb => by omega, fun q _ _ => by rw [zbt_0]; rfl⟩
  · rintro k ⟨x, l6, l7⟩ hk ⟨k0, hB', hI⟩ ih
    dsimp only at hI ih ⊢
    have pk := (h.2.2 k k0 hk).1
    have c1 : ¬ (n : Int) ≤ k := by omega
    have z1 : zw (k + 1) = k + 1 := zw_i (by omega) (by omega)
    have I := tz_plisIn (R := R) hQK h (k := k) ⟨k0, hk⟩ s
    have PP := tz_plplot (R := R) hQK h (k := k) ⟨k0, hk⟩
    have BT := tz_bit (m 88 k) R m
    have IF := tz_isFree (R := R) hB hV (m 88 k)
    have step : ∀ q, 0 ≤ q → q < 64 → zany (fun a => ybt s a && decide (m 88 a = q)) (k + 1).toNat = (zany (fun a => ybt s a && decide (m 88 a = q)) k.toNat || (ybt s k && decide (m 88 k = q))) := fun q _ _ => zany_step _ k0
    rw [s80_5]
    by_cases b : ybt s k = true
    · rw [if_pos b] at I
      by_cases f : m (t + 1) (m 88 k) = 0 ∧ m (t + 3) (m 88 k) = 0
      · rw [if_pos ⟨pk, f⟩] at IF
        have hq := hI (m 88 k) pk.1 (by omega)
        have AN := z_andbit (x := x) (p := m 88 k) ⟨pk.1, by omega⟩
        by_cases d : zbt x (m 88 k) = true
        · have hne : z64 (· &&& ·) x (zbit (m 88 k)) ≠ 0 := fun e => by rw [AN.1 e] at d; cases d
          have bad : pBad (m 88) (m (t + 1)) (m (t + 3)) s k = true := by
            unfold pBad
            rw [b, ← hq, d, Bool.or_true]; rfl
          have ncan : pCan (m 88) (m (t + 1)) (m (t + 3)) s n = false := by
            unfold pCan
            rw [(zany_iff _ _).2 ⟨k, k0, hk, bad⟩]; rfl
          rw [ncan]
          by_cases pos : 0 < z64 (· &&& ·) x (zbit (m 88 k))
          · simp only [s80_0, s80_1, s80_2, s80_3, s80_7, s80_8, s80_11, s80_14, s80_15, s80_16, s80_18, s80_21, s80_24, s80_27, s80_28, s80_30, s80_33, s80_36, s80_38, s80_39, s80_40, s80_42, s80_45, s80_48, s80_51, s80_52, s80_54, s80_55, s80_56, s80_57, s80_60, s80_61, s80_62, s80_63, s80_65, s80_66, s80_67, s80_70, s80_73, s80_74, zps_0, zps_1, zps_2, zps_3, zps_9, Option.bind_some, Option.bind_none, Int.reduceEq, Int.reduceNe, Int.reduceLT, Int.reduceLE, Int.reduceNeg, Int.reduceAdd, Int.reduceSub, Int.reduceMul, reduceIte, if_true, if_false, true_and, and_true, false_and, and_false, or_true, true_or, or_false, false_or, not_true_eq_false, not_false_eq_true, ite_not, z_b0, z_b1, z_b01, rQK0 hQK, rQK1 hQK, rQK2 hQK, kQK0, kQK1, kQK2, kQK3, kQK4, kQK5, kQK6, h0, hk, c1, I, PP, BT, b0, IF, pos, if_true, if_false, Bool.false_eq_true]
          · simp only [s80_0, s80_1, s80_2, s80_3, s80_7, s80_8, s80_11, s80_14, s80_15, s80_16, s80_18, s80_21, s80_24, s80_27, s80_28, s80_30, s80_33, s80_36, s80_38, s80_39, s80_40, s80_42, s80_45, s80_48, s80_51, s80_52, s80_54, s80_55, s80_56, s80_57, s80_60, s80_61, s80_62, s80_63, s80_65, s80_66, s80_67, s80_70, s80_73, s80_74, zps_0, zps_1, zps_2, zps_3, zps_9, Option.bind_some, Option.bind_none, Int.reduceEq, Int.reduceNe, Int.reduceLT, Int.reduceLE, Int.reduceNeg, Int.reduceAdd, Int.reduceSub, Int.reduceMul, reduceIte, if_true, if_false, true_and, and_true, false_and, and_false, or_true, true_or, or_false, false_or, not_true_eq_false, not_false_eq_true, ite_not, z_b0, z_b1, z_b01, rQK0 hQK, rQK1 hQK, rQK2 hQK, kQK0, kQK1, kQK2, kQK3, kQK4, kQK5, kQK6, h0, hk, c1, I, PP, BT, b0, IF, pos, hne, if_true, if_false, Bool.false_eq_true]
        · have d' : zbt x (m 88 k) = false := by simpa using d
          have hz := AN.2 d'
          simp only [s80_0, s80_1, s80_2, s80_3, s80_7, s80_8, s80_11, s80_14, s80_15, s80_16, s80_18, s80_21, s80_24, s80_27, s80_28, s80_30, s80_33, s80_36, s80_38, s80_39, s80_40, s80_42, s80_45, s80_48, s80_51, s80_52, s80_54, s80_55, s80_56, s80_57, s80_60, s80_61, s80_62, s80_63, s80_65, s80_66, s80_67, s80_70, s80_73, s80_74, zps_0, zps_1, zps_2, zps_3, zps_9, Option.bind_some, Option.bind_none, Int.reduceEq, Int.reduceNe, Int.reduceLT, Int.reduceLE, Int.reduceNeg, Int.reduceAdd, Int.reduceSub, Int.reduceMul, reduceIte, if_true, if_false, true_and, and_true, false_and, and_false, or_true, true_or, or_false, false_or, not_true_eq_false, not_false_eq_true, ite_not, z_b0, z_b1, z_b01, rQK0 hQK, rQK1 hQK, rQK2 hQK, kQK0, kQK1, kQK2, kQK3, kQK4, kQK5, kQK6, h0, hk, c1, I, PP, BT, b0, IF, hz, z1, if_true, if_false]
          refine ih (z64 (· ||| ·) x (zbit (m 88 k)), (1, zbit (m 88 k)), (8, 0)) ⟨by omega, fun b' hb' => ?_, fun q q0 q1 => ?_⟩
          · by_cases e : (b' : Int) = k
            · rw [e]
              unfold pBad
              rw [b, decide_eq_true f, ← hq, d']; rfl
            · exact hB' b' (by omega)
          · show zbt (z64 (· ||| ·) x (zbit (m 88 k))) q = _
            rw [step q q0 q1, zbt_or, zbt_bit ⟨pk.1, by omega⟩ ⟨q0, q1⟩, hI q q0 q1, b, Bool.true_and]
            congr 1
            exact decide_eq_decide.mpr ⟨Eq.symm, Eq.symm⟩
      · rw [if_neg (fun q => f q.2)] at IF
        have bad : pBad (m 88) (m (t + 1)) (m (t + 3)) s k = true := by
          unfold pBad
          rw [b, decide_eq_false f]; rfl
        have ncan : pCan (m 88) (m (t + 1)) (m (t + 3)) s n = false := by
          unfold pCan
          rw [(zany_iff _ _).2 ⟨k, k0, hk, bad⟩]; rfl
        rw [ncan]
        simp only [s80_0, s80_1, s80_2, s80_3, s80_7, s80_8, s80_11, s80_14, s80_15, s80_16, s80_18, s80_21, s80_24, s80_27, s80_28, s80_30, s80_33, s80_36, s80_38, s80_39, s80_40, s80_42, s80_45, s80_48, s80_51, s80_52, s80_54, s80_55, s80_56, s80_57, s80_60, s80_61, s80_62, s80_63, s80_65, s80_66, s80_67, s80_70, s80_73, s80_74, zps_0, zps_1, zps_2, zps_3, zps_9, Option.bind_some, Option.bind_none, Int.reduceEq, Int.reduceNe, Int.reduceLT, Int.reduceLE, Int.reduceNeg, Int.reduceAdd, Int.reduceSub, Int.reduceMul, reduceIte, if_true, if_false, true_and, and_true, false_and, and_false, or_true, true_or, or_false, false_or, not_true_eq_false, not_false_eq_true, ite_not, z_b0, z_b1, z_b01, rQK0 hQK, rQK1 hQK, rQK2 hQK, kQK0, kQK1, kQK2, kQK3, kQK4, kQK5, kQK6, h0, hk, c1, I, PP, BT, b0, IF, if_true, if_false, Bool.false_eq_true]
    · rw [if_neg b] at I
      have b' : ybt s k = false := by simpa using b
      simp only [s80_0, s80_1, s80_2, s80_3, s80_7, s80_8, s80_11, s80_14, s80_15, s80_16, s80_18, s80_21, s80_24, s80_27, s80_28, s80_30, s80_33, s80_36, s80_38, s80_39, s80_40, s80_42, s80_45, s80_48, s80_51, s80_52, s80_54, s80_55, s80_56, s80_57, s80_60, s80_61, s80_62, s80_63, s80_65, s80_66, s80_67, s80_70, s80_73, s80_74, zps_0, zps_1, zps_2, zps_3, zps_9, Option.bind_some, Option.bind_none, Int.reduceEq, Int.reduceNe, Int.reduceLT, Int.reduceLE, Int.reduceNeg, Int.reduceAdd, Int.reduceSub, Int.reduceMul, reduceIte, if_true, if_false, true_and, and_true, false_and, and_false, or_true, true_or, or_false, false_or, not_true_eq_false, not_false_eq_true, ite_not, z_b0, z_b1, z_b01, rQK0 hQK, rQK1 hQK, rQK2 hQK, kQK0, kQK1, kQK2, kQK3, kQK4, kQK5, kQK6, h0, hk, c1, I, z1, if_true, if_false]
      refine ih (x, l6, l7) ⟨by omega, fun b2 hb2 => ?_, fun q q0 q1 => ?_⟩
      · by_cases e : (b2 : Int) = k
        · rw [e]
          unfold pBad
          rw [b']; rfl
        · exact hB' b2 (by omega)
      · show zbt x q = _
        rw [step q q0 q1, hI q q0 q1, b', Bool.false_and, Bool.or_false]
  · rintro ⟨x, l6, l7⟩ ⟨-, hB', hI⟩
    dsimp only
    have can : pCan (m 88) (m (t + 1)) (m (t + 3)) s n = true := by
      unfold pCan
      rw [Bool.not_eq_true', ← Bool.not_eq_true, zany_iff]
      rintro ⟨b, b0, b1, hb⟩
      have := hB' b.toNat (by omega)
      rw [show ((b.toNat : Nat) : Int) = b by omega, hb] at this
      cases this
    rw [can, s80_5]
    simp only [s80_0, s80_1, s80_2, s80_3, s80_7, s80_8, s80_11, s80_14, s80_15, s80_16, s80_18, s80_21, s80_24, s80_27, s80_28, s80_30, s80_33, s80_36, s80_38, s80_39, s80_40, s80_42, s80_45, s80_48, s80_51, s80_52, s80_54, s80_55, s80_56, s80_57, s80_60, s80_61, s80_62, s80_63, s80_65, s80_66, s80_67, s80_70, s80_73, s80_74, zps_0, zps_1, zps_2, zps_3, zps_9, Option.bind_some, Option.bind_none, Int.reduceEq, Int.reduceNe, Int.reduceLT, Int.reduceLE, Int.reduceNeg, Int.reduceAdd, Int.reduceSub, Int.reduceMul, reduceIte, if_true, if_false, true_and, and_true, false_and, and_false, or_true, true_or, or_false, false_or, not_true_eq_false, not_false_eq_true, ite_not, z_b0, z_b1, z_b01, rQK0 hQK, rQK1 hQK, rQK2 hQK, kQK0, kQK1, kQK2, kQK3, kQK4, kQK5, kQK6, h0, Int.le_refl, if_true]
end PLANS
