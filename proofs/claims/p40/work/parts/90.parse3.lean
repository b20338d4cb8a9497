/-! laws out of tokens: the class's reading of a law, of all laws -/
def pAll (f : Int → Int) (n : Int) : Nat → Int → Int → (Int → Int) → Except (Int × Int) (Int × (Int → Int))
  | 0, _, nl, L => .ok (nl, L)
  | k + 1, j, nl, L => if zkd f n j = 0 then .ok (nl, L) else
      match pLaw f n j nl L with
      | .error e => .error e
      | .ok (j', row) => pAll f n k j' (nl + 1) (zr7 L nl row)
theorem zva_b (f : Int → Int) {n : Int} (hn : 0 ≤ n) {j : Int} (h : zkd f n j = 1 ∨ zkd f n j = 2) : -999 ≤ zva f n j ∧ zva f n j ≤ 999 := by
  have := zlx_ok (f := f) (zsT_ok f hn j.toNat)
  unfold zkd at h
  unfold zva
  rcases h with h | h
  · have := this.2.2.2.2.1 h; omega
  · exact this.2.2.2.2.2 h
section PARSE3
variable {R m0 : zM} {f : Int → Int} {n N j nl : Int} {G H L : Int → Int}
theorem tz_rTl (hXK : XK R) (hLK : LK R 68) (hn0 : 0 ≤ n) (hT : Tk m0 f n N) (h4 : G 4 = N) (h8 : G 8 = j) (hj : 0 ≤ j ∧ j < N) (hH : H 0 = nl) (hnl : 0 ≤ nl ∧ nl < 12) {act fr : Int} (ha : 0 ≤ act ∧ act ≤ 4) : match pTl f n nl L act fr j with | .ok (j', row) => ∃ G' : Int → Int, ev 50 78 [(2, 63), (2, 68), (0, fr), (0, act), (9, 0), (9, 0)] [] R (PM m0 G H L) = some ((0, 1), R, PM m0 G' (zrw H 0 (nl + 1)) (zr7 L nl row)) ∧ CJ G G' N j' | .error e => ∃ G' H' L' : Int → Int, ev 50 78 [(2, 63), (2, 68), (0, fr), (0, act), (9, 0), (9, 0)] [] R (PM m0 G H L) = some ((0, 0), R, PM m0 G' H' L') ∧ G' 1 = e.1 ∧ G' 2 = e.2 := by
  have k68 : KD 68 = 4 := by decide +kernel
  have I := tz_isN (H := H) (L := L) hXK hT h4 h8 hj 1 6 8
  have A := fun why => tz_ref (H := H) (L := L) hXK hT h4 h8 hj why
  unfold pTl
  by_cases c : zkd f n j = 1 ∧ 6 ≤ zva f n j ∧ zva f n j ≤ 8
  · rw [if_pos c]
    rw [if_pos c] at I
    have U := tz_nU (H := H) (L := L) hXK hT h4 h8 hj (zva_b f hn0 (Or.inl c.1))
    have TE := tz_ltell (R := R) (m := PM m0 G H L) (o := 68) hLK (by rw [PM_68, hH]; omega) act (zva f n j - 5) fr
    rw [show (68 : Int) + 1 = 69 by decide, PM_68, PM_69, hH] at TE
    change ev 61 0 [(2, 68), (0, act), (0, zva f n j - 5), (0, fr), (9, 0)] [] R (PM m0 G H L) = some ((0, if pTold nl L act (zva f n j - 5) fr = true then 1 else 0), R, PM m0 G H L) at TE
    by_cases t : 2 ≤ act ∧ pTold nl L act (zva f n j - 5) fr = true
    · rw [if_pos t]
      dsimp only
      have A5 := A 5
      have e5 : pF f n j 5 = (5, zsj f n j) := by unfold pF; rw [if_neg (by omega)]
      rw [e5] at A5
      dsimp only at A5
      refine ⟨_, H, L, ?_, zger_ok G (5, zsj f n j)⟩
      have : act = 2 ∨ act = 3 ∨ act = 4 := by omega
      have t2 := t.2
      rcases this with rfl | rfl | rfl <;> simp only [s50_0, s50_1, s50_2, s50_3, s50_4, s50_7, s50_10, s50_11, s50_12, s50_15, s50_16, s50_17, s50_20, s50_23, s50_24, s50_25, s50_28, s50_29, s50_30, s50_31, s50_32, s50_33, s50_34, s50_35, s50_38, s50_41, s50_42, s50_45, s50_46, s50_47, s50_49, s50_52, s50_55, s50_56, s50_57, s50_58, s50_61, s50_62, s50_63, s50_64, s50_65, s50_68, s50_71, s50_72, s50_73, s50_74, s50_77, s50_78, s50_79, s50_80, s50_82, s50_84, s50_87, s50_90, s50_91, s50_92, s50_95, s50_96, s50_97, s50_98, s50_101, s50_102, s50_103, s50_106, s50_107, s50_108, s50_111, s50_112, s50_115, s50_116, s50_118, s50_120, s50_123, s50_124, s50_125, s50_126, s50_129, s50_130, s50_133, s50_136, s50_137, s50_138, s50_141, s50_142, s50_143, s50_144, s50_145, s50_148, s50_150, s50_151, s50_153, s50_154, s50_155, s50_158, s50_161, s50_162, s50_165, s50_166, s50_167, s50_168, s50_170, s50_173, s50_176, s50_177, s50_178, s50_179, s50_182, s50_183, s50_186, s50_187, s50_188, s50_191, s50_192, s50_193, s50_196, s50_197, zps_0, zps_1, zps_2, zps_3, zps_9, Option.bind_some, Option.bind_none, Int.reduceEq, Int.reduceNe, Int.reduceLT, Int.reduceLE, Int.reduceNeg, Int.reduceAdd, Int.reduceSub, Int.reduceMul, reduceIte, if_true, if_false, true_and, and_true, false_and, and_false, or_true, true_or, or_false, false_or, not_true_eq_false, not_false_eq_true, ite_not, z_b0, z_b1, z_b01, rXK0 hXK, rXK1 hXK, rXK2 hXK, rXK3 hXK, kXK0, kXK1, kXK2, kXK3, kXK4, kXK5, kXK6, kXK7, kXK8, k68, I, U, TE, t2, A5, true_or, or_true, if_true] <;> rfl
    · rw [if_neg t]
      have AD := tz_ladd (R := R) (m := PM m0 G H L) (o := 68) hLK (by rw [PM_68, hH]; omega) act fr
      rw [show (68 : Int) + 1 = 69 by decide, PM_68, PM_69, hH, PM_p68, PM_p69] at AD
      have h1 : zrw H 0 (nl + 1) 0 = nl + 1 := zrw_at _ _ _
      have PU := tz_lput (R := R) (m := PM m0 G (zrw H 0 (nl + 1)) (zr7 L nl (fun j => if j = 0 then act else if j = 1 then fr else 0))) (o := 68) hLK (by rw [PM_68, h1]; omega) (k := nl) (i := 2) hnl.1 (by rw [PM_68, h1]; omega) (by omega) (by omega) (zva f n j - 5)
      rw [show (68 : Int) + 1 = 69 by decide, PM_69, PM_p69] at PU
      have U2 := tz_nU (H := zrw H 0 (nl + 1)) (L := zr7 L nl (fun j => if j = 0 then act else if j = 1 then fr else 0)) hXK hT h4 h8 hj (zva_b f hn0 (Or.inl c.1))
      obtain ⟨L2, hL2⟩ : ∃ L2, zrw (zr7 L nl (fun j => if j = 0 then act else if j = 1 then fr else 0)) (7 * nl + 2) (zva f n j - 5) = L2 := ⟨_, rfl⟩
      rw [hL2] at PU
      have TA := tz_tak (H := zrw H 0 (nl + 1)) (L := L2) hXK hT h4 h8 hj
      have c1 := CJ_ok hT h4 hj (zva f n j) (by omega) (by omega)
      change ev 53 0 [(2, 63)] [] R (PM m0 G (zrw H 0 (nl + 1)) L2) = some ((9, 0), R, PM m0 (zgok G j (zva f n j)) (zrw H 0 (nl + 1)) L2) at TA
      have z2 : ∀ i, 3 ≤ i → i < 7 → L2 (7 * nl + i) = 0 := by
        intro i i0 i1
        rw [← hL2, zrw_ne (by omega)]
        unfold zr7
        rw [if_pos (by omega)]
        dsimp only
        rw [if_neg (by omega), if_neg (by omega)]
      have NU := tz_rNums (H := zrw H 0 (nl + 1)) (L := L2) (k := nl) hXK hLK hT c1.2.1 c1.1 c1.2.2.1 (by rw [h1]; omega) z2 ha
      have L0 : ev 50 78 [(2, 63), (2, 68), (0, fr), (0, act), (9, 0), (9, 0)] [] R (PM m0 G H L) = ev 50 165 [(2, 63), (2, 68), (0, fr), (0, act), (0, if 2 ≤ act then 1 else 0), (0, nl)] [] R (PM m0 (zgok G j (zva f n j)) (zrw H 0 (nl + 1)) L2) := by
        have : act = 0 ∨ act = 1 ∨ act = 2 ∨ act = 3 ∨ act = 4 := by omega
        rcases this with rfl | rfl | rfl | rfl | rfl
        · simp only [s50_0, s50_1, s50_2, s50_3, s50_4, s50_7, s50_10, s50_11, s50_12, s50_15, s50_16, s50_17, s50_20, s50_23, s50_24, s50_25, s50_28, s50_29, s50_30, s50_31, s50_32, s50_33, s50_34, s50_35, s50_38, s50_41, s50_42, s50_45, s50_46, s50_47, s50_49, s50_52, s50_55, s50_56, s50_57, s50_58, s50_61, s50_62, s50_63, s50_64, s50_65, s50_68, s50_71, s50_72, s50_73, s50_74, s50_77, s50_78, s50_79, s50_80, s50_82, s50_84, s50_87, s50_90, s50_91, s50_92, s50_95, s50_96, s50_97, s50_98, s50_101, s50_102, s50_103, s50_106, s50_107, s50_108, s50_111, s50_112, s50_115, s50_116, s50_118, s50_120, s50_123, s50_124, s50_125, s50_126, s50_129, s50_130, s50_133, s50_136, s50_137, s50_138, s50_141, s50_142, s50_143, s50_144, s50_145, s50_148, s50_150, s50_151, s50_153, s50_154, s50_155, s50_158, s50_161, s50_162, s50_166, s50_167, s50_168, s50_170, s50_173, s50_176, s50_177, s50_178, s50_179, s50_182, s50_183, s50_186, s50_187, s50_188, s50_191, s50_192, s50_193, s50_196, s50_197, zps_0, zps_1, zps_2, zps_3, zps_9, Option.bind_some, Option.bind_none, Int.reduceEq, Int.reduceNe, Int.reduceLT, Int.reduceLE, Int.reduceNeg, Int.reduceAdd, Int.reduceSub, Int.reduceMul, reduceIte, if_true, if_false, true_and, and_true, false_and, and_false, or_true, true_or, or_false, false_or, not_true_eq_false, not_false_eq_true, ite_not, z_b0, z_b1, z_b01, rXK0 hXK, rXK1 hXK, rXK2 hXK, rXK3 hXK, kXK0, kXK1, kXK2, kXK3, kXK4, kXK5, kXK6, kXK7, kXK8, k68, I, U, AD, U2, PU, TA, true_or, or_true, if_true, if_false]
        · simp only [s50_0, s50_1, s50_2, s50_3, s50_4, s50_7, s50_10, s50_11, s50_12, s50_15, s50_16, s50_17, s50_20, s50_23, s50_24, s50_25, s50_28, s50_29, s50_30, s50_31, s50_32, s50_33, s50_34, s50_35, s50_38, s50_41, s50_42, s50_45, s50_46, s50_47, s50_49, s50_52, s50_55, s50_56, s50_57, s50_58, s50_61, s50_62, s50_63, s50_64, s50_65, s50_68, s50_71, s50_72, s50_73, s50_74, s50_77, s50_78, s50_79, s50_80, s50_82, s50_84, s50_87, s50_90, s50_91, s50_92, s50_95, s50_96, s50_97, s50_98, s50_101, s50_102, s50_103, s50_106, s50_107, s50_108, s50_111, s50_112, s50_115, s50_116, s50_118, s50_120, s50_123, s50_124, s50_125, s50_126, s50_129, s50_130, s50_133, s50_136, s50_137, s50_138, s50_141, s50_142, s50_143, s50_144, s50_145, s50_148, s50_150, s50_151, s50_153, s50_154, s50_155, s50_158, s50_161, s50_162, s50_166, s50_167, s50_168, s50_170, s50_173, s50_176, s50_177, s50_178, s50_179, s50_182, s50_183, s50_186, s50_187, s50_188, s50_191, s50_192, s50_193, s50_196, s50_197, zps_0, zps_1, zps_2, zps_3, zps_9, Option.bind_some, Option.bind_none, Int.reduceEq, Int.reduceNe, Int.reduceLT, Int.reduceLE, Int.reduceNeg, Int.reduceAdd, Int.reduceSub, Int.reduceMul, reduceIte, if_true, if_false, true_and, and_true, false_and, and_false, or_true, true_or, or_false, false_or, not_true_eq_false, not_false_eq_true, ite_not, z_b0, z_b1, z_b01, rXK0 hXK, rXK1 hXK, rXK2 hXK, rXK3 hXK, kXK0, kXK1, kXK2, kXK3, kXK4, kXK5, kXK6, kXK7, kXK8, k68, I, U, AD, U2, PU, TA, true_or, or_true, if_true, if_false]
        · have t2 : pTold nl L 2 (zva f n j - 5) fr = false := by
            cases h : pTold nl L 2 (zva f n j - 5) fr with
            | false => rfl
            | true => exact absurd ⟨by omega, h⟩ t
          simp only [s50_0, s50_1, s50_2, s50_3, s50_4, s50_7, s50_10, s50_11, s50_12, s50_15, s50_16, s50_17, s50_20, s50_23, s50_24, s50_25, s50_28, s50_29, s50_30, s50_31, s50_32, s50_33, s50_34, s50_35, s50_38, s50_41, s50_42, s50_45, s50_46, s50_47, s50_49, s50_52, s50_55, s50_56, s50_57, s50_58, s50_61, s50_62, s50_63, s50_64, s50_65, s50_68, s50_71, s50_72, s50_73, s50_74, s50_77, s50_78, s50_79, s50_80, s50_82, s50_84, s50_87, s50_90, s50_91, s50_92, s50_95, s50_96, s50_97, s50_98, s50_101, s50_102, s50_103, s50_106, s50_107, s50_108, s50_111, s50_112, s50_115, s50_116, s50_118, s50_120, s50_123, s50_124, s50_125, s50_126, s50_129, s50_130, s50_133, s50_136, s50_137, s50_138, s50_141, s50_142, s50_143, s50_144, s50_145, s50_148, s50_150, s50_151, s50_153, s50_154, s50_155, s50_158, s50_161, s50_162, s50_166, s50_167, s50_168, s50_170, s50_173, s50_176, s50_177, s50_178, s50_179, s50_182, s50_183, s50_186, s50_187, s50_188, s50_191, s50_192, s50_193, s50_196, s50_197, zps_0, zps_1, zps_2, zps_3, zps_9, Option.bind_some, Option.bind_none, Int.reduceEq, Int.reduceNe, Int.reduceLT, Int.reduceLE, Int.reduceNeg, Int.reduceAdd, Int.reduceSub, Int.reduceMul, reduceIte, if_true, if_false, true_and, and_true, false_and, and_false, or_true, true_or, or_false, false_or, not_true_eq_false, not_false_eq_true, ite_not, z_b0, z_b1, z_b01, rXK0 hXK, rXK1 hXK, rXK2 hXK, rXK3 hXK, kXK0, kXK1, kXK2, kXK3, kXK4, kXK5, kXK6, kXK7, kXK8, k68, I, U, TE, t2, AD, U2, PU, TA, true_or, or_true, if_true, if_false, Bool.false_eq_true]
        · have t2 : pTold nl L 3 (zva f n j - 5) fr = false := by
            cases h : pTold nl L 3 (zva f n j - 5) fr with
            | false => rfl
            | true => exact absurd ⟨by omega, h⟩ t
          simp only [s50_0, s50_1, s50_2, s50_3, s50_4, s50_7, s50_10, s50_11, s50_12, s50_15, s50_16, s50_17, s50_20, s50_23, s50_24, s50_25, s50_28, s50_29, s50_30, s50_31, s50_32, s50_33, s50_34, s50_35, s50_38, s50_41, s50_42, s50_45, s50_46, s50_47, s50_49, s50_52, s50_55, s50_56, s50_57, s50_58, s50_61, s50_62, s50_63, s50_64, s50_65, s50_68, s50_71, s50_72, s50_73, s50_74, s50_77, s50_78, s50_79, s50_80, s50_82, s50_84, s50_87, s50_90, s50_91, s50_92, s50_95, s50_96, s50_97, s50_98, s50_101, s50_102, s50_103, s50_106, s50_107, s50_108, s50_111, s50_112, s50_115, s50_116, s50_118, s50_120, s50_123, s50_124, s50_125, s50_126, s50_129, s50_130, s50_133, s50_136, s50_137, s50_138, s50_141, s50_142, s50_143, s50_144, s50_145, s50_148, s50_150, s50_151, s50_153, s50_154, s50_155, s50_158, s50_161, s50_162, s50_166, s50_167, s50_168, s50_170, s50_173, s50_176, s50_177, s50_178, s50_179, s50_182, s50_183, s50_186, s50_187, s50_188, s50_191, s50_192, s50_193, s50_196, s50_197, zps_0, zps_1, zps_2, zps_3, zps_9, Option.bind_some, Option.bind_none, Int.reduceEq, Int.reduceNe, Int.reduceLT, Int.reduceLE, Int.reduceNeg, Int.reduceAdd, Int.reduceSub, Int.reduceMul, reduceIte, if_true, if_false, true_and, and_true, false_and, and_false, or_true, true_or, or_false, false_or, not_true_eq_false, not_false_eq_true, ite_not, z_b0, z_b1, z_b01, rXK0 hXK, rXK1 hXK, rXK2 hXK, rXK3 hXK, kXK0, kXK1, kXK2, kXK3, kXK4, kXK5, kXK6, kXK7, kXK8, k68, I, U, TE, t2, AD, U2, PU, TA, true_or, or_true, if_true, if_false, Bool.false_eq_true]
        · have t2 : pTold nl L 4 (zva f n j - 5) fr = false := by
            cases h : pTold nl L 4 (zva f n j - 5) fr with
            | false => rfl
            | true => exact absurd ⟨by omega, h⟩ t
          simp only [s50_0, s50_1, s50_2, s50_3, s50_4, s50_7, s50_10, s50_11, s50_12, s50_15, s50_16, s50_17, s50_20, s50_23, s50_24, s50_25, s50_28, s50_29, s50_30, s50_31, s50_32, s50_33, s50_34, s50_35, s50_38, s50_41, s50_42, s50_45, s50_46, s50_47, s50_49, s50_52, s50_55, s50_56, s50_57, s50_58, s50_61, s50_62, s50_63, s50_64, s50_65, s50_68, s50_71, s50_72, s50_73, s50_74, s50_77, s50_78, s50_79, s50_80, s50_82, s50_84, s50_87, s50_90, s50_91, s50_92, s50_95, s50_96, s50_97, s50_98, s50_101, s50_102, s50_103, s50_106, s50_107, s50_108, s50_111, s50_112, s50_115, s50_116, s50_118, s50_120, s50_123, s50_124, s50_125, s50_126, s50_129, s50_130, s50_133, s50_136, s50_137, s50_138, s50_141, s50_142, s50_143, s50_144, s50_145, s50_148, s50_150, s50_151, s50_153, s50_154, s50_155, s50_158, s50_161, s50_162, s50_166, s50_167, s50_168, s50_170, s50_173, s50_176, s50_177, s50_178, s50_179, s50_182, s50_183, s50_186, s50_187, s50_188, s50_191, s50_192, s50_193, s50_196, s50_197, zps_0, zps_1, zps_2, zps_3, zps_9, Option.bind_some, Option.bind_none, Int.reduceEq, Int.reduceNe, Int.reduceLT, Int.reduceLE, Int.reduceNeg, Int.reduceAdd, Int.reduceSub, Int.reduceMul, reduceIte, if_true, if_false, true_and, and_true, false_and, and_false, or_true, true_or, or_false, false_or, not_true_eq_false, not_false_eq_true, ite_not, z_b0, z_b1, z_b01, rXK0 hXK, rXK1 hXK, rXK2 hXK, rXK3 hXK, kXK0, kXK1, kXK2, kXK3, kXK4, kXK5, kXK6, kXK7, kXK8, k68, I, U, TE, t2, AD, U2, PU, TA, true_or, or_true, if_true, if_false, Bool.false_eq_true]
      rw [L0]
      clear L0 AD PU TA U U2 TE I A
      generalize (if 2 ≤ act then (1 : Int) else 0) = on
      cases h : pNums f n act (j + 1) with
      | error e =>
        rw [h] at NU
        dsimp only at NU ⊢
        obtain ⟨G', L', e1, e2, e3⟩ := NU
        refine ⟨G', zrw H 0 (nl + 1), L', ?_, e2, e3⟩
        · simp only [s50_0, s50_1, s50_2, s50_3, s50_4, s50_7, s50_10, s50_11, s50_12, s50_15, s50_16, s50_17, s50_20, s50_23, s50_24, s50_25, s50_28, s50_29, s50_30, s50_31, s50_32, s50_33, s50_34, s50_35, s50_38, s50_41, s50_42, s50_45, s50_46, s50_47, s50_49, s50_52, s50_55, s50_56, s50_57, s50_58, s50_61, s50_62, s50_63, s50_64, s50_65, s50_68, s50_71, s50_72, s50_73, s50_74, s50_77, s50_78, s50_79, s50_80, s50_82, s50_84, s50_87, s50_90, s50_91, s50_92, s50_95, s50_96, s50_97, s50_98, s50_101, s50_102, s50_103, s50_106, s50_107, s50_108, s50_111, s50_112, s50_115, s50_116, s50_118, s50_120, s50_123, s50_124, s50_125, s50_126, s50_129, s50_130, s50_133, s50_136, s50_137, s50_138, s50_141, s50_142, s50_143, s50_144, s50_145, s50_148, s50_150, s50_151, s50_153, s50_154, s50_155, s50_158, s50_161, s50_162, s50_165, s50_166, s50_167, s50_168, s50_170, s50_173, s50_176, s50_177, s50_178, s50_179, s50_182, s50_183, s50_186, s50_187, s50_188, s50_191, s50_192, s50_193, s50_196, s50_197, zps_0, zps_1, zps_2, zps_3, zps_9, Option.bind_some, Option.bind_none, Int.reduceEq, Int.reduceNe, Int.reduceLT, Int.reduceLE, Int.reduceNeg, Int.reduceAdd, Int.reduceSub, Int.reduceMul, reduceIte, if_true, if_false, true_and, and_true, false_and, and_false, or_true, true_or, or_false, false_or, not_true_eq_false, not_false_eq_true, ite_not, z_b0, z_b1, z_b01, rXK0 hXK, rXK1 hXK, rXK2 hXK, rXK3 hXK, kXK0, kXK1, kXK2, kXK3, kXK4, kXK5, kXK6, kXK7, kXK8, k68, e1, true_or, or_true, if_true]
      | ok p =>
        obtain ⟨j2, r⟩ := p
        rw [h] at NU
        dsimp only at NU ⊢
        obtain ⟨G', L', e1, c2, e3⟩ := NU
        have K := tz_nk (H := zrw H 0 (nl + 1)) (L := L') hXK hT c2.2.1 c2.1 c2.2.2.1
        by_cases k3 : zkd f n j2 = 3
        · rw [if_pos k3]
          dsimp only
          have T2 := tz_tak (H := zrw H 0 (nl + 1)) (L := L') hXK hT c2.2.1 c2.1 c2.2.2.1
          have c3 := CJ_ok hT c2.2.1 c2.2.2.1 (zva f n j2) (by omega) (by omega)
          change ev 53 0 [(2, 63)] [] R (PM m0 G' (zrw H 0 (nl + 1)) L') = some ((9, 0), R, PM m0 (zgok G' j2 (zva f n j2)) (zrw H 0 (nl + 1)) L') at T2
          refine ⟨_, ?_, CJ_tr c1 (CJ_tr c2 c3)⟩
          have eL : L' = zr7 L nl (fun i => if i = 0 then act else if i = 1 then fr else if i = 2 then zva f n j - 5 else r i) := by
            funext i
            rw [e3 i, ← hL2]
            unfold zr7
            simp only [zrw_if]
            (repeat' split) <;> first | rfl | (exfalso; omega)
          rw [← eL]
          simp only [s50_0, s50_1, s50_2, s50_3, s50_4, s50_7, s50_10, s50_11, s50_12, s50_15, s50_16, s50_17, s50_20, s50_23, s50_24, s50_25, s50_28, s50_29, s50_30, s50_31, s50_32, s50_33, s50_34, s50_35, s50_38, s50_41, s50_42, s50_45, s50_46, s50_47, s50_49, s50_52, s50_55, s50_56, s50_57, s50_58, s50_61, s50_62, s50_63, s50_64, s50_65, s50_68, s50_71, s50_72, s50_73, s50_74, s50_77, s50_78, s50_79, s50_80, s50_82, s50_84, s50_87, s50_90, s50_91, s50_92, s50_95, s50_96, s50_97, s50_98, s50_101, s50_102, s50_103, s50_106, s50_107, s50_108, s50_111, s50_112, s50_115, s50_116, s50_118, s50_120, s50_123, s50_124, s50_125, s50_126, s50_129, s50_130, s50_133, s50_136, s50_137, s50_138, s50_141, s50_142, s50_143, s50_144, s50_145, s50_148, s50_150, s50_151, s50_153, s50_154, s50_155, s50_158, s50_161, s50_162, s50_165, s50_166, s50_167, s50_168, s50_170, s50_173, s50_176, s50_177, s50_178, s50_179, s50_182, s50_183, s50_186, s50_187, s50_188, s50_191, s50_192, s50_193, s50_196, s50_197, zps_0, zps_1, zps_2, zps_3, zps_9, Option.bind_some, Option.bind_none, Int.reduceEq, Int.reduceNe, Int.reduceLT, Int.reduceLE, Int.reduceNeg, Int.reduceAdd, Int.reduceSub, Int.reduceMul, reduceIte, if_true, if_false, true_and, and_true, false_and, and_false, or_true, true_or, or_false, false_or, not_true_eq_false, not_false_eq_true, ite_not, z_b0, z_b1, z_b01, rXK0 hXK, rXK1 hXK, rXK2 hXK, rXK3 hXK, kXK0, kXK1, kXK2, kXK3, kXK4, kXK5, kXK6, kXK7, kXK8, k68, e1, K, k3, T2, true_or, or_true, if_true]
        · rw [if_neg k3]
          dsimp only
          have T2 := tz_ref (H := zrw H 0 (nl + 1)) (L := L') hXK hT c2.2.1 c2.1 c2.2.2.1 2
          refine ⟨_, zrw H 0 (nl + 1), L', ?_, zger_ok G' (pF f n j2 2)⟩
          simp only [s50_0, s50_1, s50_2, s50_3, s50_4, s50_7, s50_10, s50_11, s50_12, s50_15, s50_16, s50_17, s50_20, s50_23, s50_24, s50_25, s50_28, s50_29, s50_30, s50_31, s50_32, s50_33, s50_34, s50_35, s50_38, s50_41, s50_42, s50_45, s50_46, s50_47, s50_49, s50_52, s50_55, s50_56, s50_57, s50_58, s50_61, s50_62, s50_63, s50_64, s50_65, s50_68, s50_71, s50_72, s50_73, s50_74, s50_77, s50_78, s50_79, s50_80, s50_82, s50_84, s50_87, s50_90, s50_91, s50_92, s50_95, s50_96, s50_97, s50_98, s50_101, s50_102, s50_103, s50_106, s50_107, s50_108, s50_111, s50_112, s50_115, s50_116, s50_118, s50_120, s50_123, s50_124, s50_125, s50_126, s50_129, s50_130, s50_133, s50_136, s50_137, s50_138, s50_141, s50_142, s50_143, s50_144, s50_145, s50_148, s50_150, s50_151, s50_153, s50_154, s50_155, s50_158, s50_161, s50_162, s50_165, s50_166, s50_167, s50_168, s50_170, s50_173, s50_176, s50_177, s50_178, s50_179, s50_182, s50_183, s50_186, s50_187, s50_188, s50_191, s50_192, s50_193, s50_196, s50_197, zps_0, zps_1, zps_2, zps_3, zps_9, Option.bind_some, Option.bind_none, Int.reduceEq, Int.reduceNe, Int.reduceLT, Int.reduceLE, Int.reduceNeg, Int.reduceAdd, Int.reduceSub, Int.reduceMul, reduceIte, if_true, if_false, true_and, and_true, false_and, and_false, or_true, true_or, or_false, false_or, not_true_eq_false, not_false_eq_true, ite_not, z_b0, z_b1, z_b01, rXK0 hXK, rXK1 hXK, rXK2 hXK, rXK3 hXK, kXK0, kXK1, kXK2, kXK3, kXK4, kXK5, kXK6, kXK7, kXK8, k68, e1, K, k3, T2, true_or, or_true, if_true, if_false]
          rfl
  · rw [if_neg c]
    rw [if_neg c] at I
    dsimp only
    refine ⟨_, H, L, ?_, zger_ok G (pF f n j 2)⟩
    simp only [s50_0, s50_1, s50_2, s50_3, s50_4, s50_7, s50_10, s50_11, s50_12, s50_15, s50_16, s50_17, s50_20, s50_23, s50_24, s50_25, s50_28, s50_29, s50_30, s50_31, s50_32, s50_33, s50_34, s50_35, s50_38, s50_41, s50_42, s50_45, s50_46, s50_47, s50_49, s50_52, s50_55, s50_56, s50_57, s50_58, s50_61, s50_62, s50_63, s50_64, s50_65, s50_68, s50_71, s50_72, s50_73, s50_74, s50_77, s50_78, s50_79, s50_80, s50_82, s50_84, s50_87, s50_90, s50_91, s50_92, s50_95, s50_96, s50_97, s50_98, s50_101, s50_102, s50_103, s50_106, s50_107, s50_108, s50_111, s50_112, s50_115, s50_116, s50_118, s50_120, s50_123, s50_124, s50_125, s50_126, s50_129, s50_130, s50_133, s50_136, s50_137, s50_138, s50_141, s50_142, s50_143, s50_144, s50_145, s50_148, s50_150, s50_151, s50_153, s50_154, s50_155, s50_158, s50_161, s50_162, s50_165, s50_166, s50_167, s50_168, s50_170, s50_173, s50_176, s50_177, s50_178, s50_179, s50_182, s50_183, s50_186, s50_187, s50_188, s50_191, s50_192, s50_193, s50_196, s50_197, zps_0, zps_1, zps_2, zps_3, zps_9, Option.bind_some, Option.bind_none, Int.reduceEq, Int.reduceNe, Int.reduceLT, Int.reduceLE, Int.reduceNeg, Int.reduceAdd, Int.reduceSub, Int.reduceMul, reduceIte, if_true, if_false, true_and, and_true, false_and, and_false, or_true, true_or, or_false, false_or, not_true_eq_false, not_false_eq_true, ite_not, z_b0, z_b1, z_b01, rXK0 hXK, rXK1 hXK, rXK2 hXK, rXK3 hXK, kXK0, kXK1, kXK2, kXK3, kXK4, kXK5, kXK6, kXK7, kXK8, I, A, true_or, or_true, if_true]
    rfl
theorem tz_rLaw (hXK : XK R) (hLK : LK R 68) (hn0 : 0 ≤ n) (hT : Tk m0 f n N) (h4 : G 4 = N) (h8 : G 8 = j) (hj : 0 ≤ j ∧ j < N) (hH : H 0 = nl) (hnl : 0 ≤ nl ∧ nl ≤ 12) : match pLaw f n j nl L with | .ok (j', row) => ∃ G' : Int → Int, ev 50 0 [(2, 63), (2, 68), (9, 0), (9, 0), (9, 0), (9, 0)] [] R (PM m0 G H L) = some ((0, 1), R, PM m0 G' (zrw H 0 (nl + 1)) (zr7 L nl row)) ∧ CJ G G' N j' | .error e => ∃ G' H' L' : Int → Int, ev 50 0 [(2, 63), (2, 68), (9, 0), (9, 0), (9, 0), (9, 0)] [] R (PM m0 G H L) = some ((0, 0), R, PM m0 G' H' L') ∧ G' 1 = e.1 ∧ G' 2 = e.2 := by
  have k68 : KD 68 = 4 := by decide +kernel
  have I := tz_isN (H := H) (L := L) hXK hT h4 h8 hj 1 0 5
  have I5 := tz_isN (H := H) (L := L) hXK hT h4 h8 hj 1 5 5
  have A := fun why => tz_ref (H := H) (L := L) hXK hT h4 h8 hj why
  have FU := tz_lfull (R := R) (m := PM m0 G H L) (o := 68) hLK
  rw [PM_68, hH] at FU
  unfold pLaw
  by_cases c : zkd f n j = 1 ∧ 0 ≤ zva f n j ∧ zva f n j ≤ 5
  · rw [if_pos c]
    rw [if_pos c] at I
    by_cases c12 : nl = 12
    · rw [if_pos c12]
      dsimp only
      have A4 := A 4
      have e4 : pF f n j 4 = (4, zsj f n j) := by unfold pF; rw [if_neg (by omega)]
      rw [e4] at A4
      dsimp only at A4
      have f12 : (12 : Int) ≤ nl := by omega
      refine ⟨_, H, L, ?_, zger_ok G (4, zsj f n j)⟩
      simp only [s50_0, s50_1, s50_2, s50_3, s50_4, s50_7, s50_10, s50_11, s50_12, s50_15, s50_16, s50_17, s50_20, s50_23, s50_24, s50_25, s50_28, s50_29, s50_30, s50_31, s50_32, s50_33, s50_34, s50_35, s50_38, s50_41, s50_42, s50_45, s50_46, s50_47, s50_49, s50_52, s50_55, s50_56, s50_57, s50_58, s50_61, s50_62, s50_63, s50_64, s50_65, s50_68, s50_71, s50_72, s50_73, s50_74, s50_77, s50_78, s50_79, s50_80, s50_82, s50_84, s50_87, s50_90, s50_91, s50_92, s50_95, s50_96, s50_97, s50_98, s50_101, s50_102, s50_103, s50_106, s50_107, s50_108, s50_111, s50_112, s50_115, s50_116, s50_118, s50_120, s50_123, s50_124, s50_125, s50_126, s50_129, s50_130, s50_133, s50_136, s50_137, s50_138, s50_141, s50_142, s50_143, s50_144, s50_145, s50_148, s50_150, s50_151, s50_153, s50_154, s50_155, s50_158, s50_161, s50_162, s50_165, s50_166, s50_167, s50_168, s50_170, s50_173, s50_176, s50_177, s50_178, s50_179, s50_182, s50_183, s50_186, s50_187, s50_188, s50_191, s50_192, s50_193, s50_196, s50_197, zps_0, zps_1, zps_2, zps_3, zps_9, Option.bind_some, Option.bind_none, Int.reduceEq, Int.reduceNe, Int.reduceLT, Int.reduceLE, Int.reduceNeg, Int.reduceAdd, Int.reduceSub, Int.reduceMul, reduceIte, if_true, if_false, true_and, and_true, false_and, and_false, or_true, true_or, or_false, false_or, not_true_eq_false, not_false_eq_true, ite_not, z_b0, z_b1, z_b01, rXK0 hXK, rXK1 hXK, rXK2 hXK, rXK3 hXK, kXK0, kXK1, kXK2, kXK3, kXK4, kXK5, kXK6, kXK7, kXK8, k68, I, FU, f12, A4, true_or, or_true, if_true]
      rfl
    · rw [if_neg c12]
      have f12 : ¬ (12 : Int) ≤ nl := by omega
      have head : match pHd f n j with | .ok (j1, fr) => ∃ G1 : Int → Int, ev 50 0 [(2, 63), (2, 68), (9, 0), (9, 0), (9, 0), (9, 0)] [] R (PM m0 G H L) = ev 50 62 [(2, 63), (2, 68), (0, fr), (9, 0), (9, 0), (9, 0)] [] R (PM m0 G1 H L) ∧ CJ G G1 N j1 | .error e => ∃ G' : Int → Int, ev 50 0 [(2, 63), (2, 68), (9, 0), (9, 0), (9, 0), (9, 0)] [] R (PM m0 G H L) = some ((0, 0), R, PM m0 G' H L) ∧ G' 1 = e.1 ∧ G' 2 = e.2 := by
        unfold pHd
        by_cases c5 : zva f n j = 5
        · rw [if_pos c5]
          rw [if_pos ⟨c.1, by omega, by omega⟩] at I5
          have T := tz_tak (H := H) (L := L) hXK hT h4 h8 hj
          have c1 := CJ_ok hT h4 hj (zva f n j) (by omega) (by omega)
          change ev 53 0 [(2, 63)] [] R (PM m0 G H L) = some ((9, 0), R, PM m0 (zgok G j (zva f n j)) H L) at T
          have TN := tz_tN (H := H) (L := L) hXK hT c1.2.1 c1.1 c1.2.2.1 0 99
          cases h : pN f n (j + 1) 0 99 with
          | error e =>
            rw [h] at TN
            dsimp only at TN ⊢
            refine ⟨_, ?_, zger_ok (zgok G j (zva f n j)) e⟩
            simp only [s50_0, s50_1, s50_2, s50_3, s50_4, s50_7, s50_10, s50_11, s50_12, s50_15, s50_16, s50_17, s50_20, s50_23, s50_24, s50_25, s50_28, s50_29, s50_30, s50_31, s50_32, s50_33, s50_34, s50_35, s50_38, s50_41, s50_42, s50_45, s50_46, s50_47, s50_49, s50_52, s50_55, s50_56, s50_57, s50_58, s50_61, s50_62, s50_63, s50_64, s50_65, s50_68, s50_71, s50_72, s50_73, s50_74, s50_77, s50_78, s50_79, s50_80, s50_82, s50_84, s50_87, s50_90, s50_91, s50_92, s50_95, s50_96, s50_97, s50_98, s50_101, s50_102, s50_103, s50_106, s50_107, s50_108, s50_111, s50_112, s50_115, s50_116, s50_118, s50_120, s50_123, s50_124, s50_125, s50_126, s50_129, s50_130, s50_133, s50_136, s50_137, s50_138, s50_141, s50_142, s50_143, s50_144, s50_145, s50_148, s50_150, s50_151, s50_153, s50_154, s50_155, s50_158, s50_161, s50_162, s50_165, s50_166, s50_167, s50_168, s50_170, s50_173, s50_176, s50_177, s50_178, s50_179, s50_182, s50_183, s50_186, s50_187, s50_188, s50_191, s50_192, s50_193, s50_196, s50_197, zps_0, zps_1, zps_2, zps_3, zps_9, Option.bind_some, Option.bind_none, Int.reduceEq, Int.reduceNe, Int.reduceLT, Int.reduceLE, Int.reduceNeg, Int.reduceAdd, Int.reduceSub, Int.reduceMul, reduceIte, if_true, if_false, true_and, and_true, false_and, and_false, or_true, true_or, or_false, false_or, not_true_eq_false, not_false_eq_true, ite_not, z_b0, z_b1, z_b01, rXK0 hXK, rXK1 hXK, rXK2 hXK, rXK3 hXK, kXK0, kXK1, kXK2, kXK3, kXK4, kXK5, kXK6, kXK7, kXK8, k68, I, FU, f12, I5, T, TN, true_or, or_true, if_true, if_false]
          | ok v =>
            rw [h] at TN
            dsimp only at TN ⊢
            have p1 := pN_ok h
            have c2 := CJ_ok hT c1.2.1 c1.2.2.1 v (by omega) (by omega)
            rw [show j + 1 + 1 = j + 2 by omega] at c2
            have g9 : zgok (zgok G j (zva f n j)) (j + 1) v 9 = v := by unfold zgok; rw [zrw_ne (by decide), zrw_at]
            refine ⟨_, ?_, CJ_tr c1 c2⟩
            simp only [s50_0, s50_1, s50_2, s50_3, s50_4, s50_7, s50_10, s50_11, s50_12, s50_15, s50_16, s50_17, s50_20, s50_23, s50_24, s50_25, s50_28, s50_29, s50_30, s50_31, s50_32, s50_33, s50_34, s50_35, s50_38, s50_41, s50_42, s50_45, s50_46, s50_47, s50_49, s50_52, s50_55, s50_56, s50_57, s50_58, s50_61, s50_63, s50_64, s50_65, s50_68, s50_71, s50_72, s50_73, s50_74, s50_77, s50_78, s50_79, s50_80, s50_82, s50_84, s50_87, s50_90, s50_91, s50_92, s50_95, s50_96, s50_97, s50_98, s50_101, s50_102, s50_103, s50_106, s50_107, s50_108, s50_111, s50_112, s50_115, s50_116, s50_118, s50_120, s50_123, s50_124, s50_125, s50_126, s50_129, s50_130, s50_133, s50_136, s50_137, s50_138, s50_141, s50_142, s50_143, s50_144, s50_145, s50_148, s50_150, s50_151, s50_153, s50_154, s50_155, s50_158, s50_161, s50_162, s50_165, s50_166, s50_167, s50_168, s50_170, s50_173, s50_176, s50_177, s50_178, s50_179, s50_182, s50_183, s50_186, s50_187, s50_188, s50_191, s50_192, s50_193, s50_196, s50_197, zps_0, zps_1, zps_2, zps_3, zps_9, Option.bind_some, Option.bind_none, Int.reduceEq, Int.reduceNe, Int.reduceLT, Int.reduceLE, Int.reduceNeg, Int.reduceAdd, Int.reduceSub, Int.reduceMul, reduceIte, if_true, if_false, true_and, and_true, false_and, and_false, or_true, true_or, or_false, false_or, not_true_eq_false, not_false_eq_true, ite_not, z_b0, z_b1, z_b01, rXK0 hXK, rXK1 hXK, rXK2 hXK, rXK3 hXK, kXK0, kXK1, kXK2, kXK3, kXK4, kXK5, kXK6, kXK7, kXK8, k68, I, FU, f12, I5, T, TN, PM_63, g9, true_or, or_true, if_true, if_false]
        · rw [if_neg c5]
          rw [if_neg (fun q => c5 (by omega))] at I5
          dsimp only
          refine ⟨G, ?_, h8, h4, hj, fun _ _ _ => rfl⟩
          simp only [s50_0, s50_1, s50_2, s50_3, s50_4, s50_7, s50_10, s50_11, s50_12, s50_15, s50_16, s50_17, s50_20, s50_23, s50_24, s50_25, s50_28, s50_29, s50_30, s50_31, s50_32, s50_33, s50_34, s50_35, s50_38, s50_41, s50_42, s50_45, s50_46, s50_47, s50_49, s50_52, s50_55, s50_56, s50_57, s50_58, s50_61, s50_63, s50_64, s50_65, s50_68, s50_71, s50_72, s50_73, s50_74, s50_77, s50_78, s50_79, s50_80, s50_82, s50_84, s50_87, s50_90, s50_91, s50_92, s50_95, s50_96, s50_97, s50_98, s50_101, s50_102, s50_103, s50_106, s50_107, s50_108, s50_111, s50_112, s50_115, s50_116, s50_118, s50_120, s50_123, s50_124, s50_125, s50_126, s50_129, s50_130, s50_133, s50_136, s50_137, s50_138, s50_141, s50_142, s50_143, s50_144, s50_145, s50_148, s50_150, s50_151, s50_153, s50_154, s50_155, s50_158, s50_161, s50_162, s50_165, s50_166, s50_167, s50_168, s50_170, s50_173, s50_176, s50_177, s50_178, s50_179, s50_182, s50_183, s50_186, s50_187, s50_188, s50_191, s50_192, s50_193, s50_196, s50_197, zps_0, zps_1, zps_2, zps_3, zps_9, Option.bind_some, Option.bind_none, Int.reduceEq, Int.reduceNe, Int.reduceLT, Int.reduceLE, Int.reduceNeg, Int.reduceAdd, Int.reduceSub, Int.reduceMul, reduceIte, if_true, if_false, true_and, and_true, false_and, and_false, or_true, true_or, or_false, false_or, not_true_eq_false, not_false_eq_true, ite_not, z_b0, z_b1, z_b01, rXK0 hXK, rXK1 hXK, rXK2 hXK, rXK3 hXK, kXK0, kXK1, kXK2, kXK3, kXK4, kXK5, kXK6, kXK7, kXK8, k68, I, FU, f12, I5, true_or, or_true, if_true, if_false]
      cases hh : pHd f n j with
      | error e =>
        rw [hh] at head
        dsimp only at head ⊢
        obtain ⟨G', e1, e2⟩ := head
        exact ⟨G', H, L, e1, e2⟩
      | ok p =>
        obtain ⟨j1, fr⟩ := p
        rw [hh] at head
        dsimp only at head ⊢
        obtain ⟨G1, e1, c1⟩ := head
        rw [e1]
        clear e1 I I5 A FU
        have TW := tz_tW (H := H) (L := L) hXK hT c1.2.1 c1.1 c1.2.2.1 0 4
        cases hw : pW f n j1 0 4 with
        | error e =>
          rw [hw] at TW
          dsimp only at TW ⊢
          refine ⟨_, H, L, ?_, zger_ok G1 e⟩
          simp only [s50_0, s50_1, s50_2, s50_3, s50_4, s50_7, s50_10, s50_11, s50_12, s50_15, s50_16, s50_17, s50_20, s50_23, s50_24, s50_25, s50_28, s50_29, s50_30, s50_31, s50_32, s50_33, s50_34, s50_35, s50_38, s50_41, s50_42, s50_45, s50_46, s50_47, s50_49, s50_52, s50_55, s50_56, s50_57, s50_58, s50_61, s50_62, s50_63, s50_64, s50_65, s50_68, s50_71, s50_72, s50_73, s50_74, s50_77, s50_78, s50_79, s50_80, s50_82, s50_84, s50_87, s50_90, s50_91, s50_92, s50_95, s50_96, s50_97, s50_98, s50_101, s50_102, s50_103, s50_106, s50_107, s50_108, s50_111, s50_112, s50_115, s50_116, s50_118, s50_120, s50_123, s50_124, s50_125, s50_126, s50_129, s50_130, s50_133, s50_136, s50_137, s50_138, s50_141, s50_142, s50_143, s50_144, s50_145, s50_148, s50_150, s50_151, s50_153, s50_154, s50_155, s50_158, s50_161, s50_162, s50_165, s50_166, s50_167, s50_168, s50_170, s50_173, s50_176, s50_177, s50_178, s50_179, s50_182, s50_183, s50_186, s50_187, s50_188, s50_191, s50_192, s50_193, s50_196, s50_197, zps_0, zps_1, zps_2, zps_3, zps_9, Option.bind_some, Option.bind_none, Int.reduceEq, Int.reduceNe, Int.reduceLT, Int.reduceLE, Int.reduceNeg, Int.reduceAdd, Int.reduceSub, Int.reduceMul, reduceIte, if_true, if_false, true_and, and_true, false_and, and_false, or_true, true_or, or_false, false_or, not_true_eq_false, not_false_eq_true, ite_not, z_b0, z_b1, z_b01, rXK0 hXK, rXK1 hXK, rXK2 hXK, rXK3 hXK, kXK0, kXK1, kXK2, kXK3, kXK4, kXK5, kXK6, kXK7, kXK8, TW, true_or, or_true, if_true]
        | ok act =>
          rw [hw] at TW
          dsimp only at TW ⊢
          have p1 := pW_ok hw
          have c2 := CJ_ok hT c1.2.1 c1.2.2.1 act (by omega) (by omega)
          have g9 : zgok G1 j1 act 9 = act := by unfold zgok; rw [zrw_ne (by decide), zrw_at]
          have L1 : ev 50 62 [(2, 63), (2, 68), (0, fr), (9, 0), (9, 0), (9, 0)] [] R (PM m0 G1 H L) = ev 50 78 [(2, 63), (2, 68), (0, fr), (0, act), (9, 0), (9, 0)] [] R (PM m0 (zgok G1 j1 act) H L) := by
            simp only [s50_0, s50_1, s50_2, s50_3, s50_4, s50_7, s50_10, s50_11, s50_12, s50_15, s50_16, s50_17, s50_20, s50_23, s50_24, s50_25, s50_28, s50_29, s50_30, s50_31, s50_32, s50_33, s50_34, s50_35, s50_38, s50_41, s50_42, s50_45, s50_46, s50_47, s50_49, s50_52, s50_55, s50_56, s50_57, s50_58, s50_61, s50_62, s50_63, s50_64, s50_65, s50_68, s50_71, s50_72, s50_73, s50_74, s50_77, s50_79, s50_80, s50_82, s50_84, s50_87, s50_90, s50_91, s50_92, s50_95, s50_96, s50_97, s50_98, s50_101, s50_102, s50_103, s50_106, s50_107, s50_108, s50_111, s50_112, s50_115, s50_116, s50_118, s50_120, s50_123, s50_124, s50_125, s50_126, s50_129, s50_130, s50_133, s50_136, s50_137, s50_138, s50_141, s50_142, s50_143, s50_144, s50_145, s50_148, s50_150, s50_151, s50_153, s50_154, s50_155, s50_158, s50_161, s50_162, s50_165, s50_166, s50_167, s50_168, s50_170, s50_173, s50_176, s50_177, s50_178, s50_179, s50_182, s50_183, s50_186, s50_187, s50_188, s50_191, s50_192, s50_193, s50_196, s50_197, zps_0, zps_1, zps_2, zps_3, zps_9, Option.bind_some, Option.bind_none, Int.reduceEq, Int.reduceNe, Int.reduceLT, Int.reduceLE, Int.reduceNeg, Int.reduceAdd, Int.reduceSub, Int.reduceMul, reduceIte, if_true, if_false, true_and, and_true, false_and, and_false, or_true, true_or, or_false, false_or, not_true_eq_false, not_false_eq_true, ite_not, z_b0, z_b1, z_b01, rXK0 hXK, rXK1 hXK, rXK2 hXK, rXK3 hXK, kXK0, kXK1, kXK2, kXK3, kXK4, kXK5, kXK6, kXK7, kXK8, TW, PM_63, g9, true_or, or_true, if_true]
          rw [L1]
          have TL := tz_rTl (H := H) (L := L) (nl := nl) (act := act) (fr := fr) hXK hLK hn0 hT c2.2.1 c2.1 c2.2.2.1 hH (by omega) (by omega)
          cases ht : pTl f n nl L act fr (j1 + 1) with
          | error e => rw [ht] at TL; exact TL
          | ok p =>
            obtain ⟨j', row⟩ := p
            rw [ht] at TL
            dsimp only at TL ⊢
            obtain ⟨G', a1, a2⟩ := TL
            exact ⟨G', a1, CJ_tr c1 (CJ_tr c2 a2)⟩
  · rw [if_neg c]
    rw [if_neg c] at I
    dsimp only
    refine ⟨_, H, L, ?_, zger_ok G (pF f n j 2)⟩
    simp only [s50_0, s50_1, s50_2, s50_3, s50_4, s50_7, s50_10, s50_11, s50_12, s50_15, s50_16, s50_17, s50_20, s50_23, s50_24, s50_25, s50_28, s50_29, s50_30, s50_31, s50_32, s50_33, s50_34, s50_35, s50_38, s50_41, s50_42, s50_45, s50_46, s50_47, s50_49, s50_52, s50_55, s50_56, s50_57, s50_58, s50_61, s50_62, s50_63, s50_64, s50_65, s50_68, s50_71, s50_72, s50_73, s50_74, s50_77, s50_78, s50_79, s50_80, s50_82, s50_84, s50_87, s50_90, s50_91, s50_92, s50_95, s50_96, s50_97, s50_98, s50_101, s50_102, s50_103, s50_106, s50_107, s50_108, s50_111, s50_112, s50_115, s50_116, s50_118, s50_120, s50_123, s50_124, s50_125, s50_126, s50_129, s50_130, s50_133, s50_136, s50_137, s50_138, s50_141, s50_142, s50_143, s50_144, s50_145, s50_148, s50_150, s50_151, s50_153, s50_154, s50_155, s50_158, s50_161, s50_162, s50_165, s50_166, s50_167, s50_168, s50_170, s50_173, s50_176, s50_177, s50_178, s50_179, s50_182, s50_183, s50_186, s50_187, s50_188, s50_191, s50_192, s50_193, s50_196, s50_197, zps_0, zps_1, zps_2, zps_3, zps_9, Option.bind_some, Option.bind_none, Int.reduceEq, Int.reduceNe, Int.reduceLT, Int.reduceLE, Int.reduceNeg, Int.reduceAdd, Int.reduceSub, Int.reduceMul, reduceIte, if_true, if_false, true_and, and_true, false_and, and_false, or_true, true_or, or_false, false_or, not_true_eq_false, not_false_eq_true, ite_not, z_b0, z_b1, z_b01, rXK0 hXK, rXK1 hXK, rXK2 hXK, rXK3 hXK, kXK0, kXK1, kXK2, kXK3, kXK4, kXK5, kXK6, kXK7, kXK8, I, A, true_or, or_true, if_true]
    rfl
end PARSE3
