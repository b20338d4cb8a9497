/-! the class splits its tape -/
theorem zdg_bd {b : Int → Int} {p : Int} {k : Nat} (hk : k ≤ 3) (h : ∀ q : Int, p ≤ q → q < p + k → 48 ≤ b q ∧ b q ≤ 57) : 0 ≤ zdg b p k ∧ zdg b p k ≤ 999 := by
  have : k = 0 ∨ k = 1 ∨ k = 2 ∨ k = 3 := by omega
  rcases this with rfl | rfl | rfl | rfl
  · simp only [zdg]; omega
  · have h0 := h (p + (0 : Nat)) (by omega) (by omega)
    simp only [zdg]; omega
  · have h0 := h (p + (0 : Nat)) (by omega) (by omega)
    have h1 := h (p + (1 : Nat)) (by omega) (by omega)
    simp only [zdg]; omega
  · have h0 := h (p + (0 : Nat)) (by omega) (by omega)
    have h1 := h (p + (1 : Nat)) (by omega) (by omega)
    have h2 := h (p + (2 : Nat)) (by omega) (by omega)
    simp only [zdg]; omega
theorem zlx_ok {f : Int → Int} {n s : Int} (hs : 0 ≤ s ∧ s ≤ n) : (0 ≤ (zlx f n s).1 ∧ (zlx f n s).1 ≤ 4) ∧ (s ≤ (zlx f n s).2.2 ∧ (zlx f n s).2.2 ≤ n) ∧ ((zlx f n s).1 ≠ 0 → s < (zlx f n s).2.2) ∧ ((zlx f n s).1 = 0 → s = n) ∧ ((zlx f n s).1 = 1 → 0 ≤ (zlx f n s).2.1 ∧ (zlx f n s).2.1 ≤ 10) ∧ ((zlx f n s).1 = 2 → -999 ≤ (zlx f n s).2.1 ∧ (zlx f n s).2.1 ≤ 999) := by
  unfold zlx
  by_cases c0 : n ≤ s
  · rw [if_pos c0]; dsimp only; omega
  · rw [if_neg c0]
    by_cases c1 : cL f n s = true
    · rw [if_pos c1]
      obtain ⟨e0, e1, e2, e3⟩ := zbh_run (cL f n) hs.2
      have e4 : s < zbh (cL f n) n s := by
        rcases Int.lt_or_eq_of_le e0 with q | q
        · exact q
        · exfalso
          rw [← q, c1] at e3
          have := e3 (by omega)
          cases this
      have hn := zfst_ok (fun i => zsp f n i s (zbh (cL f n) n s)) 11
      by_cases c2 : 0 ≤ znm f n s (zbh (cL f n) n s)
      · rw [if_pos c2]; unfold znm at *; dsimp only; omega
      · rw [if_neg c2]; dsimp only; omega
    · rw [if_neg c1]
      obtain ⟨e0, e1, e2, e3⟩ := zbh_run (cF f n) (show s + 1 ≤ n by omega)
      have dg : ∀ q, s + 1 ≤ q → q < zbh (cF f n) n (s + 1) → 48 ≤ zb f n q ∧ zb f n q ≤ 57 := fun q a b => by have := e2 q a b; unfold cF at this; exact of_decide_eq_true this
      by_cases c2 : cF f n s = true
      · have d0 : 48 ≤ zb f n s ∧ zb f n s ≤ 57 := by unfold cF at c2; exact of_decide_eq_true c2
        rw [if_pos c2]
        by_cases c3 : 3 < zbh (cF f n) n (s + 1) - s
        · rw [if_pos c3]; dsimp only; omega
        · rw [if_neg c3]
          have := zdg_bd (b := zb f n) (p := s) (k := (zbh (cF f n) n (s + 1) - s).toNat) (by omega) (fun q a b => by
            by_cases e : q = s
            · rw [e]; exact d0
            · exact dg q (by omega) (by omega))
          dsimp only; omega
      · rw [if_neg c2]
        by_cases c3 : zb f n s = 45
        · rw [if_pos c3]
          by_cases c4 : zbh (cF f n) n (s + 1) - (s + 1) < 1 ∨ 3 < zbh (cF f n) n (s + 1) - (s + 1)
          · rw [if_pos c4]; dsimp only; omega
          · rw [if_neg c4]
            have := zdg_bd (b := zb f n) (p := s + 1) (k := (zbh (cF f n) n (s + 1) - (s + 1)).toNat) (by omega) (fun q a b => dg q (by omega) (by omega))
            dsimp only; omega
        · rw [if_neg c3]
          by_cases c4 : zb f n s = 59
          · rw [if_pos c4]; dsimp only; omega
          · rw [if_neg c4]; dsimp only; omega
section SPLIT
variable {R m : zM} {f : Int → Int} {n : Int}
theorem tz_word {i : Int} (h : 0 ≤ i ∧ i ≤ 10) : ev 44 0 [(0, i)] [] R m = some ((3, i), R, m) := by
  have : i = 0 ∨ i = 1 ∨ i = 2 ∨ i = 3 ∨ i = 4 ∨ i = 5 ∨ i = 6 ∨ i = 7 ∨ i = 8 ∨ i = 9 ∨ i = 10 := by omega
  rcases this with rfl | rfl | rfl | rfl | rfl | rfl | rfl | rfl | rfl | rfl | rfl <;> simp only [s44_0, s44_1, s44_60, s44_62, s44_63, s44_65, s44_66, s44_68, s44_69, s44_71, s44_72, s44_74, s44_75, s44_77, s44_78, s44_80, s44_81, s44_83, s44_84, s44_86, s44_87, s44_89, s44_90, s44_92, s44_93, s44_95, zps_0, zps_1, zps_2, zps_3, zps_9, Option.bind_some, Option.bind_none, Int.reduceEq, Int.reduceNe, Int.reduceLT, Int.reduceLE, Int.reduceNeg, Int.reduceAdd, Int.reduceSub, Int.reduceMul, reduceIte, if_true, if_false, true_and, and_true, false_and, and_false, or_true, true_or, or_false, false_or, not_true_eq_false, not_false_eq_true, ite_not, z_b0, z_b1, z_b01]
theorem tz_addName (hXK : XK R) (hf : m 64 = f) (hn : m 63 0 = n) (h320 : 0 ≤ n ∧ n ≤ 320) (ht : 0 ≤ m 63 4 ∧ m 63 4 ≤ 320) {s e : Int} (hs : 0 ≤ s ∧ s ≤ e ∧ e ≤ n) : ev 43 0 [(2, 63), (0, s), (0, e), (9, 0)] [] R m = some ((9, 0), R, if 0 ≤ znm f n s e then ztk m 1 s (znm f n s e) else ztk m 4 s 0) := by
  simp only [s43_0, s43_1, s43_3, s43_5, s43_8, s43_9, s43_10, s43_13, s43_14, s43_15, s43_18, s43_21, s43_22, s43_23, s43_24, s43_25, s43_28, s43_29, s43_32, s43_35, s43_36, s43_37, s43_38, s43_39, s43_42, zps_0, zps_1, zps_2, zps_3, zps_9, Option.bind_some, Option.bind_none, Int.reduceEq, Int.reduceNe, Int.reduceLT, Int.reduceLE, Int.reduceNeg, Int.reduceAdd, Int.reduceSub, Int.reduceMul, reduceIte, if_true, if_false, true_and, and_true, false_and, and_false, or_true, true_or, or_false, false_or, not_true_eq_false, not_false_eq_true, ite_not, z_b0, z_b1, z_b01]
  have A := fun k v => tz_addToken (R := R) hXK ht k s v
  refine zloop (fun r => r = some ((9, 0), R, if 0 ≤ znm f n s e then ztk m 1 s (znm f n s e) else ztk m 4 s 0)) (fun i (_ : Unit) => ev 43 2 [(2, 63), (0, s), (0, e), (0, i)] [] R m) 11 (fun i _ => 0 ≤ i ∧ ∀ j, 0 ≤ j → j < i → zsp f n j s e = false) ?_ ?_ 0 () (by omega) ⟨Int.le_refl _, fun j a b => by omega⟩
  · intro i _ hi ⟨i0, hI⟩ ih
    have S := tz_spells hXK hf hn h320 (i := i) hs
    have W := tz_word (R := R) (m := m) (i := i) ⟨i0, by omega⟩
    have z : zw (i + 1) = i + 1 := zw_i (by omega) (by omega)
    have c : ¬ 10 < i := by omega
    have c' : i ≤ 10 := by omega
    rw [s43_2]
    by_cases c2 : zsp f n i s e = true
    · have e1 : znm f n s e = i := zfst_is i0 (by omega) c2 hI
      simp only [s43_0, s43_1, s43_3, s43_5, s43_8, s43_9, s43_10, s43_13, s43_14, s43_15, s43_18, s43_21, s43_22, s43_23, s43_24, s43_25, s43_28, s43_29, s43_32, s43_35, s43_36, s43_37, s43_38, s43_39, s43_42, zps_0, zps_1, zps_2, zps_3, zps_9, Option.bind_some, Option.bind_none, Int.reduceEq, Int.reduceNe, Int.reduceLT, Int.reduceLE, Int.reduceNeg, Int.reduceAdd, Int.reduceSub, Int.reduceMul, reduceIte, if_true, if_false, true_and, and_true, false_and, and_false, or_true, true_or, or_false, false_or, not_true_eq_false, not_false_eq_true, ite_not, z_b0, z_b1, z_b01, rXK0 hXK, rXK1 hXK, rXK2 hXK, rXK3 hXK, kXK0, kXK1, kXK2, kXK3, kXK4, kXK5, kXK6, kXK7, kXK8, c, c', if_true, if_false, W, S, c2, A, e1, i0]
    · simp only [s43_0, s43_1, s43_3, s43_5, s43_8, s43_9, s43_10, s43_13, s43_14, s43_15, s43_18, s43_21, s43_22, s43_23, s43_24, s43_25, s43_28, s43_29, s43_32, s43_35, s43_36, s43_37, s43_38, s43_39, s43_42, zps_0, zps_1, zps_2, zps_3, zps_9, Option.bind_some, Option.bind_none, Int.reduceEq, Int.reduceNe, Int.reduceLT, Int.reduceLE, Int.reduceNeg, Int.reduceAdd, Int.reduceSub, Int.reduceMul, reduceIte, if_true, if_false, true_and, and_true, false_and, and_false, or_true, true_or, or_false, false_or, not_true_eq_false, not_false_eq_true, ite_not, z_b0, z_b1, z_b01, rXK0 hXK, rXK1 hXK, rXK2 hXK, rXK3 hXK, kXK0, kXK1, kXK2, kXK3, kXK4, kXK5, kXK6, kXK7, kXK8, c, c', if_true, if_false, W, S, c2, z, Bool.false_eq_true]
      refine ih () ⟨by omega, fun j j0 j1 => ?_⟩
      by_cases e : j = i
      · rw [e]; simpa using c2
      · exact hI j j0 (by omega)
  · rintro _ ⟨-, hI⟩
    have e1 : znm f n s e = -1 := zfst_no hI
    rw [s43_2, e1]
    simp only [s43_0, s43_1, s43_3, s43_5, s43_8, s43_9, s43_10, s43_13, s43_14, s43_15, s43_18, s43_21, s43_22, s43_23, s43_24, s43_25, s43_28, s43_29, s43_32, s43_35, s43_36, s43_37, s43_38, s43_39, s43_42, zps_0, zps_1, zps_2, zps_3, zps_9, Option.bind_some, Option.bind_none, Int.reduceEq, Int.reduceNe, Int.reduceLT, Int.reduceLE, Int.reduceNeg, Int.reduceAdd, Int.reduceSub, Int.reduceMul, reduceIte, if_true, if_false, true_and, and_true, false_and, and_false, or_true, true_or, or_false, false_or, not_true_eq_false, not_false_eq_true, ite_not, z_b0, z_b1, z_b01, rXK0 hXK, rXK1 hXK, rXK2 hXK, rXK3 hXK, kXK0, kXK1, kXK2, kXK3, kXK4, kXK5, kXK6, kXK7, kXK8, if_true, if_false, A]
theorem tz_addNumber (hXK : XK R) (hf : m 64 = f) (hn : m 63 0 = n) (h320 : 0 ≤ n ∧ n ≤ 320) (ht : 0 ≤ m 63 4 ∧ m 63 4 ≤ 320) {s e a : Int} (ng : Bool) (hng : zb f n s = 45 ↔ ng = true) (ha : a = if ng = true then s + 1 else s) (hs : 0 ≤ s ∧ a ≤ e ∧ e ≤ n) (hd : ∀ q, a ≤ q → q < e → cF f n q = true) (hs' : s < n) : ev 48 0 [(2, 63), (0, s), (0, e), (9, 0), (9, 0), (9, 0), (9, 0), (9, 0)] [] R m = some ((9, 0), R, if e - a < 1 ∨ 3 < e - a then ztk m 4 s 0 else ztk m 2 s (if ng = true then - zdg (zb f n) a (e - a).toNat else zdg (zb f n) a (e - a).toNat)) := by
  have A := fun k v => tz_addToken (R := R) hXK ht k s v
  have B := tz_byte hXK hf hn h320
  have zs : zw (s + 1) = s + 1 := zw_i (by omega) (by omega)
  have za : 0 ≤ a ∧ a ≤ 321 := by cases ng <;> simp at ha <;> omega
  have ze : zw (e - a) = e - a := zw_i (by omega) (by omega)
  have d : ∀ q, a ≤ q → q < e → 48 ≤ zb f n q ∧ zb f n q ≤ 57 := fun q q0 q1 => by have := hd q q0 q1; unfold cF at this; exact of_decide_eq_true this
  have st : ev 48 0 [(2, 63), (0, s), (0, e), (9, 0), (9, 0), (9, 0), (9, 0), (9, 0)] [] R m = ev 48 35 [(2, 63), (0, s), (0, e), (0, if ng = true then 1 else 0), (0, a), (0, e - a), (9, 0), (9, 0)] [] R m := by
    cases ng
    · have c : ¬ zb f n s = 45 := fun q => by have := hng.1 q; cases this
      simp only [Bool.false_eq_true, if_false] at ha
      subst ha
      simp only [s48_0, s48_1, s48_2, s48_5, s48_7, s48_10, s48_11, s48_14, s48_15, s48_16, s48_17, s48_20, s48_21, s48_22, s48_23, s48_26, s48_27, s48_29, s48_30, s48_32, s48_33, s48_37, s48_38, s48_41, s48_43, s48_44, s48_47, s48_48, s48_49, s48_50, s48_51, s48_54, s48_55, s48_56, s48_58, s48_60, s48_64, s48_65, s48_68, s48_70, s48_72, s48_73, s48_74, s48_76, s48_79, s48_80, s48_82, s48_83, s48_85, s48_88, s48_91, s48_92, s48_93, s48_94, s48_95, s48_98, s48_100, s48_101, s48_104, s48_106, s48_109, zps_0, zps_1, zps_2, zps_3, zps_9, Option.bind_some, Option.bind_none, Int.reduceEq, Int.reduceNe, Int.reduceLT, Int.reduceLE, Int.reduceNeg, Int.reduceAdd, Int.reduceSub, Int.reduceMul, reduceIte, if_true, if_false, true_and, and_true, false_and, and_false, or_true, true_or, or_false, false_or, not_true_eq_false, not_false_eq_true, ite_not, z_b0, z_b1, z_b01, rXK0 hXK, rXK1 hXK, rXK2 hXK, rXK3 hXK, kXK0, kXK1, kXK2, kXK3, kXK4, kXK5, kXK6, kXK7, kXK8, B, c, if_true, if_false, ze, Bool.false_eq_true]
    · have c : zb f n s = 45 := hng.2 rfl
      simp only [if_true] at ha
      subst ha
      simp only [s48_0, s48_1, s48_2, s48_5, s48_7, s48_10, s48_11, s48_14, s48_15, s48_16, s48_17, s48_20, s48_21, s48_22, s48_23, s48_26, s48_27, s48_29, s48_30, s48_32, s48_33, s48_37, s48_38, s48_41, s48_43, s48_44, s48_47, s48_48, s48_49, s48_50, s48_51, s48_54, s48_55, s48_56, s48_58, s48_60, s48_64, s48_65, s48_68, s48_70, s48_72, s48_73, s48_74, s48_76, s48_79, s48_80, s48_82, s48_83, s48_85, s48_88, s48_91, s48_92, s48_93, s48_94, s48_95, s48_98, s48_100, s48_101, s48_104, s48_106, s48_109, zps_0, zps_1, zps_2, zps_3, zps_9, Option.bind_some, Option.bind_none, Int.reduceEq, Int.reduceNe, Int.reduceLT, Int.reduceLE, Int.reduceNeg, Int.reduceAdd, Int.reduceSub, Int.reduceMul, reduceIte, if_true, if_false, true_and, and_true, false_and, and_false, or_true, true_or, or_false, false_or, not_true_eq_false, not_false_eq_true, ite_not, z_b0, z_b1, z_b01, rXK0 hXK, rXK1 hXK, rXK2 hXK, rXK3 hXK, kXK0, kXK1, kXK2, kXK3, kXK4, kXK5, kXK6, kXK7, kXK8, B, c, if_true, if_false, ze, zs]
  rw [st]
  clear st
  by_cases c : e - a < 1 ∨ 3 < e - a
  · rw [if_pos c]
    by_cases c1 : e - a < 1
    · have c2 : ¬ 1 ≤ e - a := by omega
      simp only [s48_0, s48_1, s48_2, s48_5, s48_7, s48_10, s48_11, s48_14, s48_15, s48_16, s48_17, s48_20, s48_21, s48_22, s48_23, s48_26, s48_27, s48_29, s48_30, s48_32, s48_33, s48_35, s48_37, s48_38, s48_41, s48_43, s48_44, s48_47, s48_48, s48_49, s48_50, s48_51, s48_54, s48_55, s48_56, s48_58, s48_60, s48_64, s48_65, s48_68, s48_70, s48_72, s48_73, s48_74, s48_76, s48_79, s48_80, s48_82, s48_83, s48_85, s48_88, s48_91, s48_92, s48_93, s48_94, s48_95, s48_98, s48_100, s48_101, s48_104, s48_106, s48_109, zps_0, zps_1, zps_2, zps_3, zps_9, Option.bind_some, Option.bind_none, Int.reduceEq, Int.reduceNe, Int.reduceLT, Int.reduceLE, Int.reduceNeg, Int.reduceAdd, Int.reduceSub, Int.reduceMul, reduceIte, if_true, if_false, true_and, and_true, false_and, and_false, or_true, true_or, or_false, false_or, not_true_eq_false, not_false_eq_true, ite_not, z_b0, z_b1, z_b01, rXK0 hXK, rXK1 hXK, rXK2 hXK, rXK3 hXK, kXK0, kXK1, kXK2, kXK3, kXK4, kXK5, kXK6, kXK7, kXK8, c1, c2, if_true, if_false, A]
    · have c2 : 1 ≤ e - a := by omega
      have c3 : ¬ e - a ≤ 3 := by omega
      simp only [s48_0, s48_1, s48_2, s48_5, s48_7, s48_10, s48_11, s48_14, s48_15, s48_16, s48_17, s48_20, s48_21, s48_22, s48_23, s48_26, s48_27, s48_29, s48_30, s48_32, s48_33, s48_35, s48_37, s48_38, s48_41, s48_43, s48_44, s48_47, s48_48, s48_49, s48_50, s48_51, s48_54, s48_55, s48_56, s48_58, s48_60, s48_64, s48_65, s48_68, s48_70, s48_72, s48_73, s48_74, s48_76, s48_79, s48_80, s48_82, s48_83, s48_85, s48_88, s48_91, s48_92, s48_93, s48_94, s48_95, s48_98, s48_100, s48_101, s48_104, s48_106, s48_109, zps_0, zps_1, zps_2, zps_3, zps_9, Option.bind_some, Option.bind_none, Int.reduceEq, Int.reduceNe, Int.reduceLT, Int.reduceLE, Int.reduceNeg, Int.reduceAdd, Int.reduceSub, Int.reduceMul, reduceIte, if_true, if_false, true_and, and_true, false_and, and_false, or_true, true_or, or_false, false_or, not_true_eq_false, not_false_eq_true, ite_not, z_b0, z_b1, z_b01, rXK0 hXK, rXK1 hXK, rXK2 hXK, rXK3 hXK, kXK0, kXK1, kXK2, kXK3, kXK4, kXK5, kXK6, kXK7, kXK8, c1, c2, c3, if_true, if_false, A]
  · rw [if_neg c]
    have c1 : ¬ e - a < 1 := by omega
    have c2 : 1 ≤ e - a := by omega
    have c3 : e - a ≤ 3 := by omega
    have L0 : ev 48 35 [(2, 63), (0, s), (0, e), (0, if ng = true then 1 else 0), (0, a), (0, e - a), (9, 0), (9, 0)] [] R m = ev 48 62 [(2, 63), (0, s), (0, e), (0, if ng = true then 1 else 0), (0, a), (0, e - a), (0, 0), (0, a)] [] R m := by
      simp only [s48_0, s48_1, s48_2, s48_5, s48_7, s48_10, s48_11, s48_14, s48_15, s48_16, s48_17, s48_20, s48_21, s48_22, s48_23, s48_26, s48_27, s48_29, s48_30, s48_32, s48_33, s48_35, s48_37, s48_38, s48_41, s48_43, s48_44, s48_47, s48_48, s48_49, s48_50, s48_51, s48_54, s48_55, s48_56, s48_58, s48_60, s48_64, s48_65, s48_68, s48_70, s48_72, s48_73, s48_74, s48_76, s48_79, s48_80, s48_82, s48_83, s48_85, s48_88, s48_91, s48_92, s48_93, s48_94, s48_95, s48_98, s48_100, s48_101, s48_104, s48_106, s48_109, zps_0, zps_1, zps_2, zps_3, zps_9, Option.bind_some, Option.bind_none, Int.reduceEq, Int.reduceNe, Int.reduceLT, Int.reduceLE, Int.reduceNeg, Int.reduceAdd, Int.reduceSub, Int.reduceMul, reduceIte, if_true, if_false, true_and, and_true, false_and, and_false, or_true, true_or, or_false, false_or, not_true_eq_false, not_false_eq_true, ite_not, z_b0, z_b1, z_b01, rXK0 hXK, rXK1 hXK, rXK2 hXK, rXK3 hXK, kXK0, kXK1, kXK2, kXK3, kXK4, kXK5, kXK6, kXK7, kXK8, c1, c2, c3, if_true, if_false]
    rw [L0]
    clear L0
    have key := zloop (fun r => r = some ((9, 0), R, ztk m 2 s (if ng = true then - zdg (zb f n) a (e - a).toNat else zdg (zb f n) a (e - a).toNat))) (fun i (_ : Unit) => ev 48 62 [(2, 63), (0, s), (0, e), (0, if ng = true then 1 else 0), (0, a), (0, e - a), (0, zdg (zb f n) a (i - a).toNat), (0, i)] [] R m) e (fun i _ => a ≤ i) (fun i _ hi i0 ih => by
      have k1 : i + 1 - a = (i - a) + 1 := by omega
      have st : zdg (zb f n) a (i + 1 - a).toNat = zdg (zb f n) a (i - a).toNat * 10 + zb f n i - 48 := by
        rw [show (i + 1 - a).toNat = (i - a).toNat + 1 by omega]
        simp only [zdg]
        rw [show a + ((i - a).toNat : Int) = i by omega]
      have bd := zdg_bd (b := zb f n) (p := a) (k := (i - a).toNat) (by omega) (fun q q0 q1 => d q q0 (by omega))
      have di := d i i0 hi
      generalize zdg (zb f n) a (i - a).toNat = v at *
      have z1 : zw (v * 10) = v * 10 := zw_i (by omega) (by omega)
      have z2 : zw (v * 10 + zb f n i) = v * 10 + zb f n i := zw_i (by omega) (by omega)
      have z3 : zw (v * 10 + zb f n i - 48) = v * 10 + zb f n i - 48 := zw_i (by omega) (by omega)
      have z4 : zw (i + 1) = i + 1 := zw_i (by omega) (by omega)
      have c : ¬ e ≤ i := by omega
      have := ih () (by omega)
      rw [st] at this
      rw [s48_62]
      simp only [s48_0, s48_1, s48_2, s48_5, s48_7, s48_10, s48_11, s48_14, s48_15, s48_16, s48_17, s48_20, s48_21, s48_22, s48_23, s48_26, s48_27, s48_29, s48_30, s48_32, s48_33, s48_35, s48_37, s48_38, s48_41, s48_43, s48_44, s48_47, s48_48, s48_49, s48_50, s48_51, s48_54, s48_55, s48_56, s48_58, s48_60, s48_64, s48_65, s48_68, s48_70, s48_72, s48_73, s48_74, s48_76, s48_79, s48_80, s48_82, s48_83, s48_85, s48_88, s48_91, s48_92, s48_93, s48_94, s48_95, s48_98, s48_100, s48_101, s48_104, s48_106, s48_109, zps_0, zps_1, zps_2, zps_3, zps_9, Option.bind_some, Option.bind_none, Int.reduceEq, Int.reduceNe, Int.reduceLT, Int.reduceLE, Int.reduceNeg, Int.reduceAdd, Int.reduceSub, Int.reduceMul, reduceIte, if_true, if_false, true_and, and_true, false_and, and_false, or_true, true_or, or_false, false_or, not_true_eq_false, not_false_eq_true, ite_not, z_b0, z_b1, z_b01, rXK0 hXK, rXK1 hXK, rXK2 hXK, rXK3 hXK, kXK0, kXK1, kXK2, kXK3, kXK4, kXK5, kXK6, kXK7, kXK8, c, if_false, B, z1, z2, z3, z4]
      exact this) (fun _ _ => by
      have bd := zdg_bd (b := zb f n) (p := a) (k := (e - a).toNat) (by omega) (fun q q0 q1 => d q q0 (by omega))
      generalize zdg (zb f n) a (e - a).toNat = v at *
      have z1 : zw (-v) = -v := zw_i (by omega) (by omega)
      rw [s48_62]
      cases ng
      · simp only [s48_0, s48_1, s48_2, s48_5, s48_7, s48_10, s48_11, s48_14, s48_15, s48_16, s48_17, s48_20, s48_21, s48_22, s48_23, s48_26, s48_27, s48_29, s48_30, s48_32, s48_33, s48_35, s48_37, s48_38, s48_41, s48_43, s48_44, s48_47, s48_48, s48_49, s48_50, s48_51, s48_54, s48_55, s48_56, s48_58, s48_60, s48_64, s48_65, s48_68, s48_70, s48_72, s48_73, s48_74, s48_76, s48_79, s48_80, s48_82, s48_83, s48_85, s48_88, s48_91, s48_92, s48_93, s48_94, s48_95, s48_98, s48_100, s48_101, s48_104, s48_106, s48_109, zps_0, zps_1, zps_2, zps_3, zps_9, Option.bind_some, Option.bind_none, Int.reduceEq, Int.reduceNe, Int.reduceLT, Int.reduceLE, Int.reduceNeg, Int.reduceAdd, Int.reduceSub, Int.reduceMul, reduceIte, if_true, if_false, true_and, and_true, false_and, and_false, or_true, true_or, or_false, false_or, not_true_eq_false, not_false_eq_true, ite_not, z_b0, z_b1, z_b01, rXK0 hXK, rXK1 hXK, rXK2 hXK, rXK3 hXK, kXK0, kXK1, kXK2, kXK3, kXK4, kXK5, kXK6, kXK7, kXK8, Int.le_refl, if_true, if_false, A, Bool.false_eq_true]
      · simp only [s48_0, s48_1, s48_2, s48_5, s48_7, s48_10, s48_11, s48_14, s48_15, s48_16, s48_17, s48_20, s48_21, s48_22, s48_23, s48_26, s48_27, s48_29, s48_30, s48_32, s48_33, s48_35, s48_37, s48_38, s48_41, s48_43, s48_44, s48_47, s48_48, s48_49, s48_50, s48_51, s48_54, s48_55, s48_56, s48_58, s48_60, s48_64, s48_65, s48_68, s48_70, s48_72, s48_73, s48_74, s48_76, s48_79, s48_80, s48_82, s48_83, s48_85, s48_88, s48_91, s48_92, s48_93, s48_94, s48_95, s48_98, s48_100, s48_101, s48_104, s48_106, s48_109, zps_0, zps_1, zps_2, zps_3, zps_9, Option.bind_some, Option.bind_none, Int.reduceEq, Int.reduceNe, Int.reduceLT, Int.reduceLE, Int.reduceNeg, Int.reduceAdd, Int.reduceSub, Int.reduceMul, reduceIte, if_true, if_false, true_and, and_true, false_and, and_false, or_true, true_or, or_false, false_or, not_true_eq_false, not_false_eq_true, ite_not, z_b0, z_b1, z_b01, rXK0 hXK, rXK1 hXK, rXK2 hXK, rXK3 hXK, kXK0, kXK1, kXK2, kXK3, kXK4, kXK5, kXK6, kXK7, kXK8, Int.le_refl, if_true, if_false, A, z1]) a () (by omega) (Int.le_refl _)
    try dsimp only at key
    rw [Int.sub_self] at key
    exact key
theorem tz_addTokenAt (hXK : XK R) (hf : m 64 = f) (hn : m 63 0 = n) (h320 : 0 ≤ n ∧ n ≤ 320) (ht : 0 ≤ m 63 4 ∧ m 63 4 ≤ 320) {s : Int} (hs : 0 ≤ s ∧ s ≤ n) : ev 39 0 [(2, 63), (0, s), (9, 0)] [] R m = some ((0, (zlx f n s).2.2), R, ztk m (zlx f n s).1 s (zlx f n s).2.1) := by
  have A := fun k v => tz_addToken (R := R) hXK ht k s v
  unfold zlx
  by_cases c0 : n ≤ s
  · have c0' : ¬ s < n := by omega
    rw [if_pos c0]
    simp only [s39_0, s39_1, s39_2, s39_5, s39_8, s39_9, s39_10, s39_11, s39_12, s39_15, s39_16, s39_17, s39_18, s39_19, s39_22, s39_25, s39_26, s39_27, s39_30, s39_31, s39_32, s39_33, s39_34, s39_37, s39_38, s39_39, s39_40, s39_41, s39_44, s39_47, s39_48, s39_49, s39_52, s39_54, s39_57, s39_58, s39_59, s39_60, s39_61, s39_64, s39_65, s39_66, s39_67, s39_68, s39_71, s39_72, s39_73, s39_74, s39_75, s39_76, s39_79, s39_81, s39_84, s39_85, s39_88, s39_89, s39_90, s39_91, s39_94, s39_95, s39_96, s39_97, zps_0, zps_1, zps_2, zps_3, zps_9, Option.bind_some, Option.bind_none, Int.reduceEq, Int.reduceNe, Int.reduceLT, Int.reduceLE, Int.reduceNeg, Int.reduceAdd, Int.reduceSub, Int.reduceMul, reduceIte, if_true, if_false, true_and, and_true, false_and, and_false, or_true, true_or, or_false, false_or, not_true_eq_false, not_false_eq_true, ite_not, z_b0, z_b1, z_b01, rXK0 hXK, rXK1 hXK, rXK2 hXK, rXK3 hXK, kXK0, kXK1, kXK2, kXK3, kXK4, kXK5, kXK6, kXK7, kXK8, hn, c0, c0', if_true, if_false, A]
  · have c0' : s < n := by omega
    rw [if_neg c0]
    have L := tz_isLetter hXK hf hn h320 s
    have F := tz_isFigure hXK hf hn h320 s
    have B := tz_byte hXK hf hn h320 s
    by_cases c1 : cL f n s = true
    · rw [if_pos c1]
      have bl := tz_bLetters hXK hf hn h320 hs
      obtain ⟨e0, e1, -⟩ := zbh_run (cL f n) hs.2
      have N := tz_addName hXK hf hn h320 ht (s := s) (e := zbh (cL f n) n s) ⟨hs.1, e0, e1⟩
      simp only [s39_0, s39_1, s39_2, s39_5, s39_8, s39_9, s39_10, s39_11, s39_12, s39_15, s39_16, s39_17, s39_18, s39_19, s39_22, s39_25, s39_26, s39_27, s39_30, s39_31, s39_32, s39_33, s39_34, s39_37, s39_38, s39_39, s39_40, s39_41, s39_44, s39_47, s39_48, s39_49, s39_52, s39_54, s39_57, s39_58, s39_59, s39_60, s39_61, s39_64, s39_65, s39_66, s39_67, s39_68, s39_71, s39_72, s39_73, s39_74, s39_75, s39_76, s39_79, s39_81, s39_84, s39_85, s39_88, s39_89, s39_90, s39_91, s39_94, s39_95, s39_96, s39_97, zps_0, zps_1, zps_2, zps_3, zps_9, Option.bind_some, Option.bind_none, Int.reduceEq, Int.reduceNe, Int.reduceLT, Int.reduceLE, Int.reduceNeg, Int.reduceAdd, Int.reduceSub, Int.reduceMul, reduceIte, if_true, if_false, true_and, and_true, false_and, and_false, or_true, true_or, or_false, false_or, not_true_eq_false, not_false_eq_true, ite_not, z_b0, z_b1, z_b01, rXK0 hXK, rXK1 hXK, rXK2 hXK, rXK3 hXK, kXK0, kXK1, kXK2, kXK3, kXK4, kXK5, kXK6, kXK7, kXK8, hn, c0, c0', if_true, if_false, L, c1, bl, N]
      by_cases c2 : 0 ≤ znm f n s (zbh (cL f n) n s)
      · rw [if_pos c2, if_pos c2]
      · rw [if_neg c2, if_neg c2]
    · rw [if_neg c1]
      have zs : zw (s + 1) = s + 1 := zw_i (by omega) (by omega)
      have bf := tz_bFigures hXK hf hn h320 (p := s + 1) (by omega)
      obtain ⟨e0, e1, e2, -⟩ := zbh_run (cF f n) (show s + 1 ≤ n by omega)
      by_cases c2 : cF f n s = true
      · rw [if_pos c2]
        have c45 : ¬ zb f n s = 45 := by unfold cF at c2; have := of_decide_eq_true c2; omega
        have N := tz_addNumber hXK hf hn h320 ht (s := s) (e := zbh (cF f n) n (s + 1)) (a := s) false (by constructor; exact fun q => absurd q c45; exact fun q => by cases q) rfl ⟨hs.1, by omega, e1⟩ (fun q q0 q1 => by
          by_cases e : q = s
          · rw [e]; exact c2
          · exact e2 q (by omega) q1) c0'
        simp only [s39_0, s39_1, s39_2, s39_5, s39_8, s39_9, s39_10, s39_11, s39_12, s39_15, s39_16, s39_17, s39_18, s39_19, s39_22, s39_25, s39_26, s39_27, s39_30, s39_31, s39_32, s39_33, s39_34, s39_37, s39_38, s39_39, s39_40, s39_41, s39_44, s39_47, s39_48, s39_49, s39_52, s39_54, s39_57, s39_58, s39_59, s39_60, s39_61, s39_64, s39_65, s39_66, s39_67, s39_68, s39_71, s39_72, s39_73, s39_74, s39_75, s39_76, s39_79, s39_81, s39_84, s39_85, s39_88, s39_89, s39_90, s39_91, s39_94, s39_95, s39_96, s39_97, zps_0, zps_1, zps_2, zps_3, zps_9, Option.bind_some, Option.bind_none, Int.reduceEq, Int.reduceNe, Int.reduceLT, Int.reduceLE, Int.reduceNeg, Int.reduceAdd, Int.reduceSub, Int.reduceMul, reduceIte, if_true, if_false, true_and, and_true, false_and, and_false, or_true, true_or, or_false, false_or, not_true_eq_false, not_false_eq_true, ite_not, z_b0, z_b1, z_b01, rXK0 hXK, rXK1 hXK, rXK2 hXK, rXK3 hXK, kXK0, kXK1, kXK2, kXK3, kXK4, kXK5, kXK6, kXK7, kXK8, hn, c0, c0', if_true, if_false, L, c1, F, c2, bf, zs, N, Bool.false_eq_true]
        by_cases c3 : 3 < zbh (cF f n) n (s + 1) - s
        · rw [if_pos c3, if_pos (Or.inr c3)]
        · rw [if_neg c3, if_neg (by omega)]
      · rw [if_neg c2]
        by_cases c3 : zb f n s = 45
        · rw [if_pos c3]
          have N := tz_addNumber hXK hf hn h320 ht (s := s) (e := zbh (cF f n) n (s + 1)) (a := s + 1) true (by constructor; exact fun _ => rfl; exact fun _ => c3) rfl ⟨hs.1, by omega, e1⟩ (fun q q0 q1 => e2 q q0 q1) c0'
          simp only [s39_0, s39_1, s39_2, s39_5, s39_8, s39_9, s39_10, s39_11, s39_12, s39_15, s39_16, s39_17, s39_18, s39_19, s39_22, s39_25, s39_26, s39_27, s39_30, s39_31, s39_32, s39_33, s39_34, s39_37, s39_38, s39_39, s39_40, s39_41, s39_44, s39_47, s39_48, s39_49, s39_52, s39_54, s39_57, s39_58, s39_59, s39_60, s39_61, s39_64, s39_65, s39_66, s39_67, s39_68, s39_71, s39_72, s39_73, s39_74, s39_75, s39_76, s39_79, s39_81, s39_84, s39_85, s39_88, s39_89, s39_90, s39_91, s39_94, s39_95, s39_96, s39_97, zps_0, zps_1, zps_2, zps_3, zps_9, Option.bind_some, Option.bind_none, Int.reduceEq, Int.reduceNe, Int.reduceLT, Int.reduceLE, Int.reduceNeg, Int.reduceAdd, Int.reduceSub, Int.reduceMul, reduceIte, if_true, if_false, true_and, and_true, false_and, and_false, or_true, true_or, or_false, false_or, not_true_eq_false, not_false_eq_true, ite_not, z_b0, z_b1, z_b01, rXK0 hXK, rXK1 hXK, rXK2 hXK, rXK3 hXK, kXK0, kXK1, kXK2, kXK3, kXK4, kXK5, kXK6, kXK7, kXK8, hn, c0, c0', if_true, if_false, L, c1, F, c2, B, c3, bf, zs, N, Bool.false_eq_true]
          by_cases c4 : zbh (cF f n) n (s + 1) - (s + 1) < 1 ∨ 3 < zbh (cF f n) n (s + 1) - (s + 1)
          · rw [if_pos c4, if_pos c4]
          · rw [if_neg c4, if_neg c4]
        · rw [if_neg c3]
          by_cases c4 : zb f n s = 59
          · rw [if_pos c4]
            simp only [s39_0, s39_1, s39_2, s39_5, s39_8, s39_9, s39_10, s39_11, s39_12, s39_15, s39_16, s39_17, s39_18, s39_19, s39_22, s39_25, s39_26, s39_27, s39_30, s39_31, s39_32, s39_33, s39_34, s39_37, s39_38, s39_39, s39_40, s39_41, s39_44, s39_47, s39_48, s39_49, s39_52, s39_54, s39_57, s39_58, s39_59, s39_60, s39_61, s39_64, s39_65, s39_66, s39_67, s39_68, s39_71, s39_72, s39_73, s39_74, s39_75, s39_76, s39_79, s39_81, s39_84, s39_85, s39_88, s39_89, s39_90, s39_91, s39_94, s39_95, s39_96, s39_97, zps_0, zps_1, zps_2, zps_3, zps_9, Option.bind_some, Option.bind_none, Int.reduceEq, Int.reduceNe, Int.reduceLT, Int.reduceLE, Int.reduceNeg, Int.reduceAdd, Int.reduceSub, Int.reduceMul, reduceIte, if_true, if_false, true_and, and_true, false_and, and_false, or_true, true_or, or_false, false_or, not_true_eq_false, not_false_eq_true, ite_not, z_b0, z_b1, z_b01, rXK0 hXK, rXK1 hXK, rXK2 hXK, rXK3 hXK, kXK0, kXK1, kXK2, kXK3, kXK4, kXK5, kXK6, kXK7, kXK8, hn, c0, c0', if_true, if_false, L, c1, F, c2, B, c3, c4, zs, A, Bool.false_eq_true]
          · rw [if_neg c4]
            simp only [s39_0, s39_1, s39_2, s39_5, s39_8, s39_9, s39_10, s39_11, s39_12, s39_15, s39_16, s39_17, s39_18, s39_19, s39_22, s39_25, s39_26, s39_27, s39_30, s39_31, s39_32, s39_33, s39_34, s39_37, s39_38, s39_39, s39_40, s39_41, s39_44, s39_47, s39_48, s39_49, s39_52, s39_54, s39_57, s39_58, s39_59, s39_60, s39_61, s39_64, s39_65, s39_66, s39_67, s39_68, s39_71, s39_72, s39_73, s39_74, s39_75, s39_76, s39_79, s39_81, s39_84, s39_85, s39_88, s39_89, s39_90, s39_91, s39_94, s39_95, s39_96, s39_97, zps_0, zps_1, zps_2, zps_3, zps_9, Option.bind_some, Option.bind_none, Int.reduceEq, Int.reduceNe, Int.reduceLT, Int.reduceLE, Int.reduceNeg, Int.reduceAdd, Int.reduceSub, Int.reduceMul, reduceIte, if_true, if_false, true_and, and_true, false_and, and_false, or_true, true_or, or_false, false_or, not_true_eq_false, not_false_eq_true, ite_not, z_b0, z_b1, z_b01, rXK0 hXK, rXK1 hXK, rXK2 hXK, rXK3 hXK, kXK0, kXK1, kXK2, kXK3, kXK4, kXK5, kXK6, kXK7, kXK8, hn, c0, c0', if_true, if_false, L, c1, F, c2, B, c3, c4, zs, A, Bool.false_eq_true]
def zsT (f : Int → Int) (n : Int) : Nat → Int
  | 0 => zbh (cB f n) n 0
  | j + 1 => zbh (cB f n) n (zlx f n (zsT f n j)).2.2
def zkd (f : Int → Int) (n : Int) (j : Int) : Int := (zlx f n (zsT f n j.toNat)).1
def zva (f : Int → Int) (n : Int) (j : Int) : Int := (zlx f n (zsT f n j.toNat)).2.1
def zsj (f : Int → Int) (n : Int) (j : Int) : Int := zsT f n j.toNat
theorem zsT_ok (f : Int → Int) {n : Int} (hn : 0 ≤ n) (j : Nat) : 0 ≤ zsT f n j ∧ zsT f n j ≤ n := by
  induction j with
  | zero =>
    obtain ⟨a, b, -⟩ := zbh_run (cB f n) hn
    exact ⟨a, b⟩
  | succ j ih =>
    have h := (zlx_ok (f := f) ih).2.1
    obtain ⟨a, b, -⟩ := zbh_run (cB f n) h.2
    exact ⟨by simp only [zsT]; omega, b⟩
def Spl (m : zM) (f : Int → Int) (n N : Int) : Prop := m 63 4 = N ∧ (1 ≤ N ∧ N ≤ 321) ∧ (∀ j, 0 ≤ j → j < N → m 65 j = zkd f n j ∧ m 66 j = zsj f n j ∧ m 67 j = zva f n j) ∧ (zkd f n (N - 1) = 0 ∨ zkd f n (N - 1) = 4) ∧ ∀ j, 0 ≤ j → j + 1 < N → zkd f n j ≠ 0 ∧ zkd f n j ≠ 4
theorem tz_isLast (hXK : XK R) (h : 0 ≤ m 63 4 ∧ m 63 4 ≤ 321) : ev 36 0 [(2, 63)] [] R m = some ((0, if 1 ≤ m 63 4 ∧ (m 65 (m 63 4 - 1) = 0 ∨ m 65 (m 63 4 - 1) = 4) then 1 else 0), R, m) := by
  have z : zw (m 63 4 - 1) = m 63 4 - 1 := zw_i (by omega) (by omega)
  have c3 : m 63 4 ≤ 321 := h.2
  by_cases c : 1 ≤ m 63 4
  · have c1 : ¬ m 63 4 < 1 := by omega
    have c2 : 0 ≤ m 63 4 - 1 ∧ m 63 4 - 1 < 321 := by omega
    simp only [s36_0, s36_1, s36_4, s36_5, s36_8, s36_9, s36_12, s36_15, s36_18, s36_19, s36_20, s36_21, s36_24, s36_25, s36_28, s36_29, s36_30, s36_31, s36_34, s36_35, s36_38, s36_39, s36_42, s36_43, s36_44, s36_45, s36_46, s36_49, s36_50, s36_53, s36_54, zps_0, zps_1, zps_2, zps_3, zps_9, Option.bind_some, Option.bind_none, Int.reduceEq, Int.reduceNe, Int.reduceLT, Int.reduceLE, Int.reduceNeg, Int.reduceAdd, Int.reduceSub, Int.reduceMul, reduceIte, if_true, if_false, true_and, and_true, false_and, and_false, or_true, true_or, or_false, false_or, not_true_eq_false, not_false_eq_true, ite_not, z_b0, z_b1, z_b01, z_em, rXK0 hXK, rXK1 hXK, rXK2 hXK, rXK3 hXK, kXK0, kXK1, kXK2, kXK3, kXK4, kXK5, kXK6, kXK7, kXK8, c, c1, c2, c3, z, and_self, if_true, if_false, true_and]
    by_cases d : m 65 (m 63 4 - 1) = 0
    · simp only [d, zps_0, zps_1, zps_2, zps_3, zps_9, Option.bind_some, Option.bind_none, Int.reduceEq, Int.reduceNe, Int.reduceLT, Int.reduceLE, Int.reduceNeg, Int.reduceAdd, Int.reduceSub, Int.reduceMul, reduceIte, if_true, if_false, true_and, and_true, false_and, and_false, or_true, true_or, or_false, false_or, not_true_eq_false, not_false_eq_true, ite_not, z_b0, z_b1, z_b01, z_em, if_true, true_or]
    · by_cases d2 : m 65 (m 63 4 - 1) = 4
      · simp only [d2, zps_0, zps_1, zps_2, zps_3, zps_9, Option.bind_some, Option.bind_none, Int.reduceEq, Int.reduceNe, Int.reduceLT, Int.reduceLE, Int.reduceNeg, Int.reduceAdd, Int.reduceSub, Int.reduceMul, reduceIte, if_true, if_false, true_and, and_true, false_and, and_false, or_true, true_or, or_false, false_or, not_true_eq_false, not_false_eq_true, ite_not, z_b0, z_b1, z_b01, z_em, if_true, if_false, or_true]
      · simp only [d, d2, zps_0, zps_1, zps_2, zps_3, zps_9, Option.bind_some, Option.bind_none, Int.reduceEq, Int.reduceNe, Int.reduceLT, Int.reduceLE, Int.reduceNeg, Int.reduceAdd, Int.reduceSub, Int.reduceMul, reduceIte, if_true, if_false, true_and, and_true, false_and, and_false, or_true, true_or, or_false, false_or, not_true_eq_false, not_false_eq_true, ite_not, z_b0, z_b1, z_b01, z_em, if_false, or_self]
  · have c1 : m 63 4 < 1 := by omega
    simp only [s36_0, s36_1, s36_4, s36_5, s36_8, s36_9, s36_12, s36_15, s36_18, s36_19, s36_20, s36_21, s36_24, s36_25, s36_28, s36_29, s36_30, s36_31, s36_34, s36_35, s36_38, s36_39, s36_42, s36_43, s36_44, s36_45, s36_46, s36_49, s36_50, s36_53, s36_54, zps_0, zps_1, zps_2, zps_3, zps_9, Option.bind_some, Option.bind_none, Int.reduceEq, Int.reduceNe, Int.reduceLT, Int.reduceLE, Int.reduceNeg, Int.reduceAdd, Int.reduceSub, Int.reduceMul, reduceIte, if_true, if_false, true_and, and_true, false_and, and_false, or_true, true_or, or_false, false_or, not_true_eq_false, not_false_eq_true, ite_not, z_b0, z_b1, z_b01, z_em, rXK0 hXK, rXK1 hXK, rXK2 hXK, rXK3 hXK, kXK0, kXK1, kXK2, kXK3, kXK4, kXK5, kXK6, kXK7, kXK8, c, c1, if_true, if_false, false_and]
theorem ztk_rows (m : zM) (k s v : Int) : ztk m k s v 65 = zrw (m 65) (m 63 4) k ∧ ztk m k s v 66 = zrw (m 66) (m 63 4) s ∧ ztk m k s v 67 = zrw (m 67) (m 63 4) v ∧ ztk m k s v 63 = zrw (m 63) 4 (m 63 4 + 1) ∧ ∀ a, a ≠ 63 → a ≠ 65 → a ≠ 66 → a ≠ 67 → ztk m k s v a = m a := by
  unfold ztk
  refine ⟨?_, ?_, ?_, ?_, fun a h1 h2 h3 h4 => ?_⟩
  · simp (disch := decide) only [zpr_ne, zpr_at]
  · simp (disch := decide) only [zpr_ne, zpr_at]
  · simp (disch := decide) only [zpr_ne, zpr_at]
  · rw [zpr_at]
  · rw [zpr_ne h1, zpr_ne h4, zpr_ne h3, zpr_ne h2]
theorem tz_split (hXK : XK R) (hf : m 64 = f) (hn : m 63 0 = n) (h320 : 0 ≤ n ∧ n ≤ 320) : ∃ (m' : zM) (N : Int), ev 35 0 [(2, 63), (9, 0), (9, 0)] [] R m = some ((9, 0), R, m') ∧ (∀ a, a ≠ 63 → a ≠ 65 → a ≠ 66 → a ≠ 67 → m' a = m a) ∧ (∀ k, k ≠ 4 → m' 63 k = m 63 k) ∧ Spl m' f n N := by
  have L0 : ev 35 0 [(2, 63), (9, 0), (9, 0)] [] R m = ev 35 9 [(2, 63), (0, 0), (0, 0)] [] R (zpr m 63 (zrw (m 63) 4 0)) := by
    simp only [s35_0, s35_1, s35_2, s35_5, s35_6, s35_7, s35_8, s35_10, s35_13, s35_16, s35_17, s35_20, s35_23, s35_24, s35_25, s35_26, s35_29, s35_32, s35_33, s35_36, s35_39, zps_0, zps_1, zps_2, zps_3, zps_9, Option.bind_some, Option.bind_none, Int.reduceEq, Int.reduceNe, Int.reduceLT, Int.reduceLE, Int.reduceNeg, Int.reduceAdd, Int.reduceSub, Int.reduceMul, reduceIte, if_true, if_false, true_and, and_true, false_and, and_false, or_true, true_or, or_false, false_or, not_true_eq_false, not_false_eq_true, ite_not, z_b0, z_b1, z_b01, rXK0 hXK, rXK1 hXK, rXK2 hXK, rXK3 hXK, kXK0, kXK1, kXK2, kXK3, kXK4, kXK5, kXK6, kXK7, kXK8, zup_zpr]
  rw [L0]
  refine zloopM (fun r => ∃ (m' : zM) (N : Int), r = some ((9, 0), R, m') ∧ (∀ a, a ≠ 63 → a ≠ 65 → a ≠ 66 → a ≠ 67 → m' a = m a) ∧ (∀ k, k ≠ 4 → m' 63 k = m 63 k) ∧ Spl m' f n N) (fun (x : Int × Int × zM) => ev 35 9 [(2, 63), (0, x.2.1), (0, x.1)] [] R x.2.2) (fun x => (322 - x.1).toNat) (fun x => (0 ≤ x.1 ∧ x.1 ≤ 321) ∧ (0 ≤ x.2.1 ∧ x.2.1 ≤ n) ∧ zbh (cB f n) n x.2.1 = zsT f n x.1.toNat ∧ x.2.2 63 4 = x.1 ∧ (∀ a, a ≠ 63 → a ≠ 65 → a ≠ 66 → a ≠ 67 → x.2.2 a = m a) ∧ (∀ k, k ≠ 4 → x.2.2 63 k = m 63 k) ∧ (∀ j, 0 ≤ j → j < x.1 → x.2.2 65 j = zkd f n j ∧ x.2.2 66 j = zsj f n j ∧ x.2.2 67 j = zva f n j) ∧ (∀ j, 0 ≤ j → j + 1 < x.1 → zkd f n j ≠ 0 ∧ zkd f n j ≠ 4) ∧ (x.1 ≤ x.2.1 ∨ (1 ≤ x.1 ∧ (zkd f n (x.1 - 1) = 0 ∨ zkd f n (x.1 - 1) = 4)))) ?_ (0, 0, zpr m 63 (zrw (m 63) 4 0)) ⟨by dsimp only; omega, by dsimp only; omega, rfl, by dsimp only; rw [zpr_at, zrw_at], fun a h1 _ _ _ => zpr_ne h1, fun k h => by dsimp only; rw [zpr_at, zrw_ne h], fun j a b => by dsimp only at b; omega, fun j a b => by dsimp only at b; omega, Or.inl (Int.le_refl _)⟩
  rintro ⟨i, p, w⟩ ⟨hi, hp, hz, ht, hr, hk, hj, hnl, hpr⟩ ih
  dsimp only at hi hp hz ht hr hk hj hnl hpr ih ⊢
  have IL := tz_isLast (R := R) (m := w) hXK (by omega)
  have hwf : w 64 = f := by rw [hr 64 (by decide) (by decide) (by decide) (by decide), hf]
  have hwn : w 63 0 = n := by rw [hk 0 (by decide), hn]
  rw [ht] at IL
  by_cases cl : 1 ≤ i ∧ (zkd f n (i - 1) = 0 ∨ zkd f n (i - 1) = 4)
  · have hS : Spl w f n i := ⟨ht, by omega, hj, cl.2, hnl⟩
    have c65 : w 65 (i - 1) = 0 ∨ w 65 (i - 1) = 4 := by rw [(hj (i - 1) (by omega) (by omega)).1]; exact cl.2
    rw [s35_9]
    by_cases c : 320 < i
    · have c' : ¬ i ≤ 320 := by omega
      simp only [s35_0, s35_1, s35_2, s35_5, s35_6, s35_7, s35_8, s35_10, s35_13, s35_16, s35_17, s35_20, s35_23, s35_24, s35_25, s35_26, s35_29, s35_32, s35_33, s35_36, s35_39, zps_0, zps_1, zps_2, zps_3, zps_9, Option.bind_some, Option.bind_none, Int.reduceEq, Int.reduceNe, Int.reduceLT, Int.reduceLE, Int.reduceNeg, Int.reduceAdd, Int.reduceSub, Int.reduceMul, reduceIte, if_true, if_false, true_and, and_true, false_and, and_false, or_true, true_or, or_false, false_or, not_true_eq_false, not_false_eq_true, ite_not, z_b0, z_b1, z_b01, rXK0 hXK, rXK1 hXK, rXK2 hXK, rXK3 hXK, kXK0, kXK1, kXK2, kXK3, kXK4, kXK5, kXK6, kXK7, kXK8, c, c', if_true, if_false]
      exact ⟨w, i, rfl, hr, hk, hS⟩
    · have c' : i ≤ 320 := by omega
      simp only [s35_0, s35_1, s35_2, s35_5, s35_6, s35_7, s35_8, s35_10, s35_13, s35_16, s35_17, s35_20, s35_23, s35_24, s35_25, s35_26, s35_29, s35_32, s35_33, s35_36, s35_39, zps_0, zps_1, zps_2, zps_3, zps_9, Option.bind_some, Option.bind_none, Int.reduceEq, Int.reduceNe, Int.reduceLT, Int.reduceLE, Int.reduceNeg, Int.reduceAdd, Int.reduceSub, Int.reduceMul, reduceIte, if_true, if_false, true_and, and_true, false_and, and_false, or_true, true_or, or_false, false_or, not_true_eq_false, not_false_eq_true, ite_not, z_b0, z_b1, z_b01, rXK0 hXK, rXK1 hXK, rXK2 hXK, rXK3 hXK, kXK0, kXK1, kXK2, kXK3, kXK4, kXK5, kXK6, kXK7, kXK8, c, c', if_true, if_false, IL, cl.1, c65, and_self]
      exact ⟨w, i, rfl, hr, hk, hS⟩
  · have ip : i ≤ p := hpr.elim (fun q => q) (fun q => absurd q cl)
    have c : ¬ 320 < i := by omega
    have c' : i ≤ 320 := by omega
    have c65 : ¬ (1 ≤ i ∧ (w 65 (i - 1) = 0 ∨ w 65 (i - 1) = 4)) := by
      intro q
      apply cl
      refine ⟨q.1, ?_⟩
      rw [← (hj (i - 1) (by omega) (by omega)).1]
      exact q.2
    have bb := tz_bBlanks hXK hwf hwn h320 hp
    rw [hz] at bb
    have hs := zsT_ok f h320.1 i.toNat
    have at' := tz_addTokenAt (R := R) hXK hwf hwn h320 (by omega) hs
    have z : zw (i + 1) = i + 1 := zw_i (by omega) (by omega)
    rw [s35_9]
    simp only [s35_0, s35_1, s35_2, s35_5, s35_6, s35_7, s35_8, s35_10, s35_13, s35_16, s35_17, s35_20, s35_23, s35_24, s35_25, s35_26, s35_29, s35_32, s35_33, s35_36, s35_39, zps_0, zps_1, zps_2, zps_3, zps_9, Option.bind_some, Option.bind_none, Int.reduceEq, Int.reduceNe, Int.reduceLT, Int.reduceLE, Int.reduceNeg, Int.reduceAdd, Int.reduceSub, Int.reduceMul, reduceIte, if_true, if_false, true_and, and_true, false_and, and_false, or_true, true_or, or_false, false_or, not_true_eq_false, not_false_eq_true, ite_not, z_b0, z_b1, z_b01, rXK0 hXK, rXK1 hXK, rXK2 hXK, rXK3 hXK, kXK0, kXK1, kXK2, kXK3, kXK4, kXK5, kXK6, kXK7, kXK8, c, c', if_true, if_false, IL, c65, bb, at', z]
    have lx := zlx_ok (f := f) hs
    obtain ⟨e0, e1, -⟩ := zbh_run (cB f n) hp.2
    rw [hz] at e0 e1
    obtain ⟨r1, r2, r3, r4, rr⟩ := ztk_rows w (zlx f n (zsT f n i.toNat)).1 (zsT f n i.toNat) (zlx f n (zsT f n i.toNat)).2.1
    rw [ht] at r1 r2 r3 r4
    have en : (i + 1).toNat = i.toNat + 1 := by omega
    refine ih (i + 1, (zlx f n (zsT f n i.toNat)).2.2, ztk w (zlx f n (zsT f n i.toNat)).1 (zsT f n i.toNat) (zlx f n (zsT f n i.toNat)).2.1) ⟨by dsimp only; omega, by dsimp only; omega, ?_, ?_, ?_, ?_, ?_, ?_, ?_⟩ (by dsimp only; omega)
    · dsimp only; rw [en]; rfl
    · dsimp only; rw [r4, zrw_at]
    · intro a h1 h2 h3 h4; dsimp only; rw [rr a h1 h2 h3 h4]; exact hr a h1 h2 h3 h4
    · intro k hk4; dsimp only; rw [r4, zrw_ne hk4]; exact hk k hk4
    · intro j j0 j1
      dsimp only at j1 ⊢
      rw [r1, r2, r3]
      by_cases e : j = i
      · subst e
        rw [zrw_at, zrw_at, zrw_at]
        exact ⟨rfl, rfl, rfl⟩
      · rw [zrw_ne e, zrw_ne e, zrw_ne e]
        exact hj j j0 (by omega)
    · intro j j0 j1
      dsimp only at j1
      by_cases e : j + 1 < i
      · exact hnl j j0 e
      · have : j = i - 1 := by omega
        subst this
        constructor
        · intro q; exact cl ⟨by omega, Or.inl q⟩
        · intro q; exact cl ⟨by omega, Or.inr q⟩
    · dsimp only
      by_cases e : zkd f n i = 0 ∨ zkd f n i = 4
      · right
        refine ⟨by omega, ?_⟩
        rw [show i + 1 - 1 = i by omega]
        exact e
      · left
        have : zkd f n i ≠ 0 := fun q => e (Or.inl q)
        have := lx.2.2.1 this
        omega
end SPLIT
