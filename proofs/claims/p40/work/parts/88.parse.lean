/-! laws out of tokens: the pure course; the class's reading of numbers and words -/
def pF (f : Int → Int) (n j why : Int) : Int × Int := (if zkd f n j = 4 then 1 else why, zsj f n j)
def pW (f : Int → Int) (n j lo hi : Int) : Except (Int × Int) Int := if zkd f n j = 1 ∧ lo ≤ zva f n j ∧ zva f n j ≤ hi then .ok (zva f n j) else .error (pF f n j 2)
def pN (f : Int → Int) (n j lo hi : Int) : Except (Int × Int) Int := if zkd f n j = 2 then (if lo ≤ zva f n j ∧ zva f n j ≤ hi then .ok (zva f n j) else .error (3, zsj f n j)) else .error (pF f n j 2)
def pNums (f : Int → Int) (n act j : Int) : Except (Int × Int) (Int × (Int → Int)) :=
  if act = 0 then
    match pN f n j 0 7 with
    | .error e => .error e
    | .ok a => match pN f n (j + 1) 0 7 with
      | .error e => .error e
      | .ok b => match pN f n (j + 2) a 7 with
        | .error e => .error e
        | .ok c => match pN f n (j + 3) b 7 with
          | .error e => .error e
          | .ok d => .ok (j + 4, fun i => if i = 3 then a else if i = 4 then b else if i = 5 then c else if i = 6 then d else 0)
  else if act = 1 then
    match pW f n j 6 10 with
    | .error e => .error e
    | .ok a => match pN f n (j + 1) 1 14 with
      | .error e => .error e
      | .ok b => match pN f n (j + 2) (-99) 99 with
        | .error e => .error e
        | .ok c => .ok (j + 3, fun i => if i = 3 then a - 6 else if i = 4 then b else if i = 5 then c else 0)
  else
    match pN f n j 0 (if act = 2 then 100 else if act = 3 then 64 else 999) with
    | .error e => .error e
    | .ok a => .ok (j + 1, fun i => if i = 3 then a else 0)
def Tk (m : zM) (f : Int → Int) (n N : Int) : Prop := (1 ≤ N ∧ N ≤ 321) ∧ (∀ j, 0 ≤ j → j < N → m 65 j = zkd f n j ∧ m 66 j = zsj f n j ∧ m 67 j = zva f n j) ∧ (zkd f n (N - 1) = 0 ∨ zkd f n (N - 1) = 4) ∧ ∀ j, 0 ≤ j → j + 1 < N → zkd f n j ≠ 0 ∧ zkd f n j ≠ 4
def PM (m0 : zM) (G H L : Int → Int) : zM := zpr (zpr (zpr m0 63 G) 68 H) 69 L
theorem PM_63 (m0 : zM) (G H L : Int → Int) : PM m0 G H L 63 = G := by unfold PM; simp (disch := decide) only [zpr_ne, zpr_at]
theorem PM_68 (m0 : zM) (G H L : Int → Int) : PM m0 G H L 68 = H := by unfold PM; simp (disch := decide) only [zpr_ne, zpr_at]
theorem PM_69 (m0 : zM) (G H L : Int → Int) : PM m0 G H L 69 = L := by unfold PM; rw [zpr_at]
theorem PM_ne (m0 : zM) (G H L : Int → Int) {a : Int} (h1 : a ≠ 63) (h2 : a ≠ 68) (h3 : a ≠ 69) : PM m0 G H L a = m0 a := by unfold PM; rw [zpr_ne h3, zpr_ne h2, zpr_ne h1]
theorem PM_p63 (m0 : zM) (G H L X : Int → Int) : zpr (PM m0 G H L) 63 X = PM m0 X H L := by
  funext q
  by_cases q1 : q = 63
  · subst q1; rw [zpr_at, PM_63]
  · rw [zpr_ne q1]
    by_cases q2 : q = 68
    · subst q2; rw [PM_68, PM_68]
    · by_cases q3 : q = 69
      · subst q3; rw [PM_69, PM_69]
      · rw [PM_ne _ _ _ _ q1 q2 q3, PM_ne _ _ _ _ q1 q2 q3]
theorem PM_p68 (m0 : zM) (G H L X : Int → Int) : zpr (PM m0 G H L) 68 X = PM m0 G X L := by
  funext q
  by_cases q2 : q = 68
  · subst q2; rw [zpr_at, PM_68]
  · rw [zpr_ne q2]
    by_cases q1 : q = 63
    · subst q1; rw [PM_63, PM_63]
    · by_cases q3 : q = 69
      · subst q3; rw [PM_69, PM_69]
      · rw [PM_ne _ _ _ _ q1 q2 q3, PM_ne _ _ _ _ q1 q2 q3]
theorem PM_p69 (m0 : zM) (G H L X : Int → Int) : zpr (PM m0 G H L) 69 X = PM m0 G H X := by unfold PM; rw [zpr_zpr]
section PARSE
variable {R m0 : zM} {f : Int → Int} {n N j : Int} {G H L : Int → Int}
theorem PM_65 (m0 : zM) (G H L : Int → Int) : PM m0 G H L 65 = m0 65 := PM_ne _ _ _ _ (by decide) (by decide) (by decide)
theorem PM_66 (m0 : zM) (G H L : Int → Int) : PM m0 G H L 66 = m0 66 := PM_ne _ _ _ _ (by decide) (by decide) (by decide)
theorem PM_67 (m0 : zM) (G H L : Int → Int) : PM m0 G H L 67 = m0 67 := PM_ne _ _ _ _ (by decide) (by decide) (by decide)
theorem tz_nk (hXK : XK R) (hT : Tk m0 f n N) (h4 : G 4 = N) (h8 : G 8 = j) (hj : 0 ≤ j ∧ j < N) : ev 49 0 [(2, 63)] [] R (PM m0 G H L) = some ((0, zkd f n j), R, PM m0 G H L) := by
  have t := hT.2.1 j hj.1 hj.2
  have hN := hT.1
  have c1 : 0 ≤ j := hj.1
  have c2 : ¬ N ≤ j := by omega
  have c3 : j ≤ 320 := by omega
  have c4 : 0 ≤ j ∧ j < 321 := by omega
  have c5 : j < N := hj.2
  have c6 : ¬ 320 < j := by omega
  have c7 : ¬ j < 0 := by omega
  simp only [s49_0, s49_1, s49_4, s49_7, s49_8, s49_11, s49_12, s49_15, s49_18, s49_19, s49_22, s49_25, s49_28, s49_29, s49_32, s49_33, s49_36, s49_37, s49_40, s49_41, zps_0, zps_1, zps_2, zps_3, zps_9, Option.bind_some, Option.bind_none, Int.reduceEq, Int.reduceNe, Int.reduceLT, Int.reduceLE, Int.reduceNeg, Int.reduceAdd, Int.reduceSub, Int.reduceMul, reduceIte, if_true, if_false, true_and, and_true, false_and, and_false, or_true, true_or, or_false, false_or, not_true_eq_false, not_false_eq_true, ite_not, z_b0, z_b1, z_b01, rXK0 hXK, rXK1 hXK, rXK2 hXK, rXK3 hXK, kXK0, kXK1, kXK2, kXK3, kXK4, kXK5, kXK6, kXK7, kXK8, PM_63, PM_65, h4, h8, c1, c2, c3, c4, c5, c6, c7, t.1, and_self, if_true, if_false]
theorem tz_isN (hXK : XK R) (hT : Tk m0 f n N) (h4 : G 4 = N) (h8 : G 8 = j) (hj : 0 ≤ j ∧ j < N) (k lo hi : Int) : ev 51 0 [(2, 63), (0, k), (0, lo), (0, hi), (9, 0)] [] R (PM m0 G H L) = some ((0, if zkd f n j = k ∧ lo ≤ zva f n j ∧ zva f n j ≤ hi then 1 else 0), R, PM m0 G H L) := by
  have t := hT.2.1 j hj.1 hj.2
  have hN := hT.1
  have c1 : 0 ≤ j := hj.1
  have c2 : ¬ N ≤ j := by omega
  have c3 : j ≤ 320 := by omega
  have c4 : 0 ≤ j ∧ j < 321 := by omega
  have c5 : j < N := hj.2
  have c6 : ¬ 320 < j := by omega
  have c7 : ¬ j < 0 := by omega
  simp only [s51_0, s51_1, s51_4, s51_7, s51_8, s51_11, s51_12, s51_15, s51_18, s51_19, s51_22, s51_25, s51_28, s51_29, s51_32, s51_33, s51_35, s51_37, s51_40, s51_41, s51_44, s51_45, s51_48, s51_49, s51_50, s51_53, s51_54, s51_57, s51_58, s51_61, s51_62, s51_63, s51_66, s51_67, s51_70, s51_71, s51_74, s51_75, s51_76, s51_79, s51_80, s51_83, s51_84, zps_0, zps_1, zps_2, zps_3, zps_9, Option.bind_some, Option.bind_none, Int.reduceEq, Int.reduceNe, Int.reduceLT, Int.reduceLE, Int.reduceNeg, Int.reduceAdd, Int.reduceSub, Int.reduceMul, reduceIte, if_true, if_false, true_and, and_true, false_and, and_false, or_true, true_or, or_false, false_or, not_true_eq_false, not_false_eq_true, ite_not, z_b0, z_b1, z_b01, rXK0 hXK, rXK1 hXK, rXK2 hXK, rXK3 hXK, kXK0, kXK1, kXK2, kXK3, kXK4, kXK5, kXK6, kXK7, kXK8, PM_63, PM_65, PM_67, h4, h8, c1, c2, c3, c4, c5, c6, c7, t.1, t.2.2, and_self, if_true, if_false]
  (repeat' split) <;> first | rfl | (exfalso; omega)
theorem tz_ref (hXK : XK R) (hT : Tk m0 f n N) (h4 : G 4 = N) (h8 : G 8 = j) (hj : 0 ≤ j ∧ j < N) (why : Int) : ev 52 0 [(2, 63), (0, why), (9, 0)] [] R (PM m0 G H L) = some ((0, 0), R, PM m0 (zrw (zrw G 1 (pF f n j why).1) 2 (pF f n j why).2) H L) := by
  have t := hT.2.1 j hj.1 hj.2
  have hN := hT.1
  have c1 : 0 ≤ j := hj.1
  have c2 : ¬ N ≤ j := by omega
  have c3 : j ≤ 320 := by omega
  have c4 : 0 ≤ j ∧ j < 321 := by omega
  have c5 : j < N := hj.2
  have c6 : ¬ 320 < j := by omega
  have c7 : ¬ j < 0 := by omega
  have h8' : ∀ v, zrw G 1 v 8 = j := fun v => by rw [zrw_ne (by decide), h8]
  unfold pF
  dsimp only
  by_cases c : zkd f n j = 4
  · simp only [s52_0, s52_1, s52_4, s52_7, s52_8, s52_11, s52_12, s52_15, s52_18, s52_19, s52_22, s52_25, s52_28, s52_29, s52_32, s52_33, s52_34, s52_35, s52_36, s52_39, s52_40, s52_43, s52_44, s52_47, s52_48, s52_49, s52_52, s52_53, s52_56, s52_57, s52_60, s52_61, s52_62, s52_65, s52_66, s52_69, s52_70, s52_73, s52_74, s52_77, s52_78, s52_81, s52_84, s52_85, zps_0, zps_1, zps_2, zps_3, zps_9, Option.bind_some, Option.bind_none, Int.reduceEq, Int.reduceNe, Int.reduceLT, Int.reduceLE, Int.reduceNeg, Int.reduceAdd, Int.reduceSub, Int.reduceMul, reduceIte, if_true, if_false, true_and, and_true, false_and, and_false, or_true, true_or, or_false, false_or, not_true_eq_false, not_false_eq_true, ite_not, z_b0, z_b1, z_b01, rXK0 hXK, rXK1 hXK, rXK2 hXK, rXK3 hXK, kXK0, kXK1, kXK2, kXK3, kXK4, kXK5, kXK6, kXK7, kXK8, PM_63, PM_65, PM_66, h4, h8, c1, c2, c3, c4, c5, c6, c7, t.1, t.2.1, and_self, if_true, if_false, c, zup_zpr, PM_p63, h8', true_or]
  · simp only [s52_0, s52_1, s52_4, s52_7, s52_8, s52_11, s52_12, s52_15, s52_18, s52_19, s52_22, s52_25, s52_28, s52_29, s52_32, s52_33, s52_34, s52_35, s52_36, s52_39, s52_40, s52_43, s52_44, s52_47, s52_48, s52_49, s52_52, s52_53, s52_56, s52_57, s52_60, s52_61, s52_62, s52_65, s52_66, s52_69, s52_70, s52_73, s52_74, s52_77, s52_78, s52_81, s52_84, s52_85, zps_0, zps_1, zps_2, zps_3, zps_9, Option.bind_some, Option.bind_none, Int.reduceEq, Int.reduceNe, Int.reduceLT, Int.reduceLE, Int.reduceNeg, Int.reduceAdd, Int.reduceSub, Int.reduceMul, reduceIte, if_true, if_false, true_and, and_true, false_and, and_false, or_true, true_or, or_false, false_or, not_true_eq_false, not_false_eq_true, ite_not, z_b0, z_b1, z_b01, rXK0 hXK, rXK1 hXK, rXK2 hXK, rXK3 hXK, kXK0, kXK1, kXK2, kXK3, kXK4, kXK5, kXK6, kXK7, kXK8, PM_63, PM_65, PM_66, h4, h8, c1, c2, c3, c4, c5, c6, c7, t.1, t.2.1, and_self, if_true, if_false, c, zup_zpr, PM_p63, h8', true_or]
theorem tz_tak (hXK : XK R) (hT : Tk m0 f n N) (h4 : G 4 = N) (h8 : G 8 = j) (hj : 0 ≤ j ∧ j < N) : ev 53 0 [(2, 63)] [] R (PM m0 G H L) = some ((9, 0), R, PM m0 (zrw (zrw G 9 (zva f n j)) 8 (j + 1)) H L) := by
  have t := hT.2.1 j hj.1 hj.2
  have hN := hT.1
  have c1 : 0 ≤ j := hj.1
  have c2 : ¬ N ≤ j := by omega
  have c3 : j ≤ 320 := by omega
  have c4 : 0 ≤ j ∧ j < 321 := by omega
  have c5 : j < N := hj.2
  have c6 : ¬ 320 < j := by omega
  have c7 : ¬ j < 0 := by omega
  have z : zw (j + 1) = j + 1 := zw_i (by omega) (by omega)
  have h8' : ∀ v, zrw G 9 v 8 = j := fun v => by rw [zrw_ne (by decide), h8]
  simp only [s53_0, s53_1, s53_4, s53_7, s53_8, s53_11, s53_12, s53_15, s53_18, s53_19, s53_22, s53_25, s53_28, s53_29, s53_30, s53_31, s53_34, s53_35, s53_38, s53_39, s53_42, s53_43, s53_44, s53_47, s53_48, s53_49, s53_52, zps_0, zps_1, zps_2, zps_3, zps_9, Option.bind_some, Option.bind_none, Int.reduceEq, Int.reduceNe, Int.reduceLT, Int.reduceLE, Int.reduceNeg, Int.reduceAdd, Int.reduceSub, Int.reduceMul, reduceIte, if_true, if_false, true_and, and_true, false_and, and_false, or_true, true_or, or_false, false_or, not_true_eq_false, not_false_eq_true, ite_not, z_b0, z_b1, z_b01, rXK0 hXK, rXK1 hXK, rXK2 hXK, rXK3 hXK, kXK0, kXK1, kXK2, kXK3, kXK4, kXK5, kXK6, kXK7, kXK8, PM_63, PM_67, h4, h8, c1, c2, c3, c4, c5, c6, c7, t.2.2, and_self, if_true, if_false, zup_zpr, PM_p63, h8', z]
def zgok (G : Int → Int) (j v : Int) : Int → Int := zrw (zrw G 9 v) 8 (j + 1)
def zger (G : Int → Int) (e : Int × Int) : Int → Int := zrw (zrw G 1 e.1) 2 e.2
theorem tz_tW (hXK : XK R) (hT : Tk m0 f n N) (h4 : G 4 = N) (h8 : G 8 = j) (hj : 0 ≤ j ∧ j < N) (lo hi : Int) : ev 55 0 [(2, 63), (0, lo), (0, hi)] [] R (PM m0 G H L) = match pW f n j lo hi with | .ok v => some ((0, 1), R, PM m0 (zgok G j v) H L) | .error e => some ((0, 0), R, PM m0 (zger G e) H L) := by
  have I := tz_isN (H := H) (L := L) hXK hT h4 h8 hj 1 lo hi
  have A := tz_ref (H := H) (L := L) hXK hT h4 h8 hj 2
  have T := tz_tak (H := H) (L := L) hXK hT h4 h8 hj
  unfold pW
  by_cases c : zkd f n j = 1 ∧ lo ≤ zva f n j ∧ zva f n j ≤ hi
  · rw [if_pos c]
    rw [if_pos c] at I
    simp only [s55_0, s55_1, s55_2, s55_3, s55_4, s55_7, s55_10, s55_11, s55_12, s55_15, s55_16, s55_17, s55_20, s55_21, zps_0, zps_1, zps_2, zps_3, zps_9, Option.bind_some, Option.bind_none, Int.reduceEq, Int.reduceNe, Int.reduceLT, Int.reduceLE, Int.reduceNeg, Int.reduceAdd, Int.reduceSub, Int.reduceMul, reduceIte, if_true, if_false, true_and, and_true, false_and, and_false, or_true, true_or, or_false, false_or, not_true_eq_false, not_false_eq_true, ite_not, z_b0, z_b1, z_b01, rXK0 hXK, rXK1 hXK, rXK2 hXK, rXK3 hXK, kXK0, kXK1, kXK2, kXK3, kXK4, kXK5, kXK6, kXK7, kXK8, I, T, true_or, or_true, if_true]
    rfl
  · rw [if_neg c]
    rw [if_neg c] at I
    simp only [s55_0, s55_1, s55_2, s55_3, s55_4, s55_7, s55_10, s55_11, s55_12, s55_15, s55_16, s55_17, s55_20, s55_21, zps_0, zps_1, zps_2, zps_3, zps_9, Option.bind_some, Option.bind_none, Int.reduceEq, Int.reduceNe, Int.reduceLT, Int.reduceLE, Int.reduceNeg, Int.reduceAdd, Int.reduceSub, Int.reduceMul, reduceIte, if_true, if_false, true_and, and_true, false_and, and_false, or_true, true_or, or_false, false_or, not_true_eq_false, not_false_eq_true, ite_not, z_b0, z_b1, z_b01, rXK0 hXK, rXK1 hXK, rXK2 hXK, rXK3 hXK, kXK0, kXK1, kXK2, kXK3, kXK4, kXK5, kXK6, kXK7, kXK8, I, A, true_or, or_true, if_true]
    rfl
theorem tz_tN (hXK : XK R) (hT : Tk m0 f n N) (h4 : G 4 = N) (h8 : G 8 = j) (hj : 0 ≤ j ∧ j < N) (lo hi : Int) : ev 54 0 [(2, 63), (0, lo), (0, hi)] [] R (PM m0 G H L) = match pN f n j lo hi with | .ok v => some ((0, 1), R, PM m0 (zgok G j v) H L) | .error e => some ((0, 0), R, PM m0 (zger G e) H L) := by
  have K := tz_nk (H := H) (L := L) hXK hT h4 h8 hj
  have I := tz_isN (H := H) (L := L) hXK hT h4 h8 hj 2 lo hi
  have A := fun why => tz_ref (H := H) (L := L) hXK hT h4 h8 hj why
  have T := tz_tak (H := H) (L := L) hXK hT h4 h8 hj
  unfold pN
  by_cases c : zkd f n j = 2
  · rw [if_pos c]
    by_cases d : lo ≤ zva f n j ∧ zva f n j ≤ hi
    · rw [if_pos d]
      rw [if_pos ⟨c, d⟩] at I
      simp only [s54_0, s54_1, s54_4, s54_5, s54_8, s54_9, s54_10, s54_13, s54_14, s54_15, s54_16, s54_17, s54_18, s54_21, s54_24, s54_25, s54_26, s54_29, s54_30, s54_31, s54_34, s54_35, zps_0, zps_1, zps_2, zps_3, zps_9, Option.bind_some, Option.bind_none, Int.reduceEq, Int.reduceNe, Int.reduceLT, Int.reduceLE, Int.reduceNeg, Int.reduceAdd, Int.reduceSub, Int.reduceMul, reduceIte, if_true, if_false, true_and, and_true, false_and, and_false, or_true, true_or, or_false, false_or, not_true_eq_false, not_false_eq_true, ite_not, z_b0, z_b1, z_b01, rXK0 hXK, rXK1 hXK, rXK2 hXK, rXK3 hXK, kXK0, kXK1, kXK2, kXK3, kXK4, kXK5, kXK6, kXK7, kXK8, K, c, I, T, true_or, or_true, if_true]
      rfl
    · rw [if_neg d]
      rw [if_neg (fun q => d q.2)] at I
      have e : pF f n j 3 = (3, zsj f n j) := by unfold pF; rw [if_neg (by omega)]
      have A3 := A 3
      rw [e] at A3
      simp only [s54_0, s54_1, s54_4, s54_5, s54_8, s54_9, s54_10, s54_13, s54_14, s54_15, s54_16, s54_17, s54_18, s54_21, s54_24, s54_25, s54_26, s54_29, s54_30, s54_31, s54_34, s54_35, zps_0, zps_1, zps_2, zps_3, zps_9, Option.bind_some, Option.bind_none, Int.reduceEq, Int.reduceNe, Int.reduceLT, Int.reduceLE, Int.reduceNeg, Int.reduceAdd, Int.reduceSub, Int.reduceMul, reduceIte, if_true, if_false, true_and, and_true, false_and, and_false, or_true, true_or, or_false, false_or, not_true_eq_false, not_false_eq_true, ite_not, z_b0, z_b1, z_b01, rXK0 hXK, rXK1 hXK, rXK2 hXK, rXK3 hXK, kXK0, kXK1, kXK2, kXK3, kXK4, kXK5, kXK6, kXK7, kXK8, K, c, I, A3, true_or, or_true, if_true]
      rfl
  · rw [if_neg c]
    simp only [s54_0, s54_1, s54_4, s54_5, s54_8, s54_9, s54_10, s54_13, s54_14, s54_15, s54_16, s54_17, s54_18, s54_21, s54_24, s54_25, s54_26, s54_29, s54_30, s54_31, s54_34, s54_35, zps_0, zps_1, zps_2, zps_3, zps_9, Option.bind_some, Option.bind_none, Int.reduceEq, Int.reduceNe, Int.reduceLT, Int.reduceLE, Int.reduceNeg, Int.reduceAdd, Int.reduceSub, Int.reduceMul, reduceIte, if_true, if_false, true_and, and_true, false_and, and_false, or_true, true_or, or_false, false_or, not_true_eq_false, not_false_eq_true, ite_not, z_b0, z_b1, z_b01, rXK0 hXK, rXK1 hXK, rXK2 hXK, rXK3 hXK, kXK0, kXK1, kXK2, kXK3, kXK4, kXK5, kXK6, kXK7, kXK8, K, c, A, true_or, or_true, if_true, if_false]
    rfl
theorem tz_nU (hXK : XK R) (hT : Tk m0 f n N) (h4 : G 4 = N) (h8 : G 8 = j) (hj : 0 ≤ j ∧ j < N) (hv : -999 ≤ zva f n j ∧ zva f n j ≤ 999) : ev 56 0 [(2, 63)] [] R (PM m0 G H L) = some ((0, zva f n j - 5), R, PM m0 G H L) := by
  have t := hT.2.1 j hj.1 hj.2
  have hN := hT.1
  have c1 : 0 ≤ j := hj.1
  have c2 : ¬ N ≤ j := by omega
  have c3 : j ≤ 320 := by omega
  have c4 : 0 ≤ j ∧ j < 321 := by omega
  have c5 : j < N := hj.2
  have c6 : ¬ 320 < j := by omega
  have c7 : ¬ j < 0 := by omega
  have z1 : zw (zva f n j - 6) = zva f n j - 6 := zw_i (by omega) (by omega)
  have z2 : zw (zva f n j - 6 + 1) = zva f n j - 5 := by rw [zw_i (by omega) (by omega)]; omega
  simp only [s56_0, s56_1, s56_4, s56_7, s56_8, s56_11, s56_12, s56_15, s56_18, s56_19, s56_22, s56_25, s56_28, s56_29, s56_32, s56_33, s56_36, s56_37, s56_39, s56_40, s56_41, s56_42, s56_45, s56_46, zps_0, zps_1, zps_2, zps_3, zps_9, Option.bind_some, Option.bind_none, Int.reduceEq, Int.reduceNe, Int.reduceLT, Int.reduceLE, Int.reduceNeg, Int.reduceAdd, Int.reduceSub, Int.reduceMul, reduceIte, if_true, if_false, true_and, and_true, false_and, and_false, or_true, true_or, or_false, false_or, not_true_eq_false, not_false_eq_true, ite_not, z_b0, z_b1, z_b01, rXK0 hXK, rXK1 hXK, rXK2 hXK, rXK3 hXK, kXK0, kXK1, kXK2, kXK3, kXK4, kXK5, kXK6, kXK7, kXK8, PM_63, PM_67, h4, h8, c1, c2, c3, c4, c5, c6, c7, t.2.2, and_self, if_true, if_false, z1, z2]
theorem pN_ok {f : Int → Int} {n j lo hi v : Int} (h : pN f n j lo hi = .ok v) : zkd f n j = 2 ∧ v = zva f n j ∧ lo ≤ v ∧ v ≤ hi := by
  unfold pN at h
  split at h
  next c =>
    split at h
    next d => cases h; exact ⟨c, rfl, d⟩
    next => cases h
  next => cases h
theorem pW_ok {f : Int → Int} {n j lo hi v : Int} (h : pW f n j lo hi = .ok v) : zkd f n j = 1 ∧ v = zva f n j ∧ lo ≤ v ∧ v ≤ hi := by
  unfold pW at h
  split at h
  next c => cases h; exact ⟨c.1, rfl, c.2⟩
  next => cases h
theorem Tk_next (hT : Tk m0 f n N) (hj : 0 ≤ j ∧ j < N) (h0 : zkd f n j ≠ 0) (h4 : zkd f n j ≠ 4) : 0 ≤ j + 1 ∧ j + 1 < N := by
  refine ⟨by omega, ?_⟩
  by_cases c : j = N - 1
  · rw [c] at h0 h4
    rcases hT.2.2.1 with q | q
    · exact absurd q h0
    · exact absurd q h4
  · omega
theorem tz_rN (hXK : XK R) (hLK : LK R 68) (hT : Tk m0 f n N) (h4 : G 4 = N) (h8 : G 8 = j) (hj : 0 ≤ j ∧ j < N) {k pl : Int} (hk : 0 ≤ k ∧ k < H 0 ∧ H 0 ≤ 12) (hp : 0 ≤ pl ∧ pl < 7) (lo hi : Int) : ev 58 0 [(2, 63), (2, 68), (0, k), (0, pl), (0, lo), (0, hi)] [] R (PM m0 G H L) = match pN f n j lo hi with | .ok v => some ((0, 1), R, PM m0 (zgok G j v) H (zrw L (7 * k + pl) v)) | .error e => some ((0, 0), R, PM m0 (zger G e) H L) := by
  have T := tz_tN (H := H) (L := L) hXK hT h4 h8 hj lo hi
  have P := fun v => tz_lput (R := R) (m := PM m0 (zgok G j v) H L) (o := 68) hLK (by rw [PM_68]; exact hk.2.2) hk.1 (by rw [PM_68]; exact hk.2.1) hp.1 hp.2 v
  simp only [Int.reduceAdd, PM_69, PM_p69] at P
  have g9 : ∀ v, zgok G j v 9 = v := fun v => by unfold zgok; rw [zrw_ne (by decide), zrw_at]
  have k68 : KD 68 = 4 := by decide +kernel
  cases h : pN f n j lo hi with
  | ok v =>
    rw [h] at T
    dsimp only at T ⊢
    simp only [s58_0, s58_1, s58_3, s58_5, s58_8, s58_11, s58_12, s58_13, s58_14, s58_15, s58_16, s58_17, s58_20, s58_23, s58_24, zps_0, zps_1, zps_2, zps_3, zps_9, Option.bind_some, Option.bind_none, Int.reduceEq, Int.reduceNe, Int.reduceLT, Int.reduceLE, Int.reduceNeg, Int.reduceAdd, Int.reduceSub, Int.reduceMul, reduceIte, if_true, if_false, true_and, and_true, false_and, and_false, or_true, true_or, or_false, false_or, not_true_eq_false, not_false_eq_true, ite_not, z_b0, z_b1, z_b01, rXK0 hXK, rXK1 hXK, rXK2 hXK, rXK3 hXK, kXK0, kXK1, kXK2, kXK3, kXK4, kXK5, kXK6, kXK7, kXK8, T, k68, PM_63, g9, P, true_or, or_true, if_true]
  | error e =>
    rw [h] at T
    dsimp only at T ⊢
    simp only [s58_0, s58_1, s58_3, s58_5, s58_8, s58_11, s58_12, s58_13, s58_14, s58_15, s58_16, s58_17, s58_20, s58_23, s58_24, zps_0, zps_1, zps_2, zps_3, zps_9, Option.bind_some, Option.bind_none, Int.reduceEq, Int.reduceNe, Int.reduceLT, Int.reduceLE, Int.reduceNeg, Int.reduceAdd, Int.reduceSub, Int.reduceMul, reduceIte, if_true, if_false, true_and, and_true, false_and, and_false, or_true, true_or, or_false, false_or, not_true_eq_false, not_false_eq_true, ite_not, z_b0, z_b1, z_b01, rXK0 hXK, rXK1 hXK, rXK2 hXK, rXK3 hXK, kXK0, kXK1, kXK2, kXK3, kXK4, kXK5, kXK6, kXK7, kXK8, T, true_or, or_true, if_true]
end PARSE
