/-! laws out of tokens: a law; the class -/
def pTold (nl : Int) (L : Int → Int) (act u fr : Int) : Bool := zany (fun k => decide (L (7 * k) = act ∧ L (7 * k + 2) = u ∧ L (7 * k + 1) = fr)) nl.toNat
def pHd (f : Int → Int) (n j : Int) : Except (Int × Int) (Int × Int) := if zva f n j = 5 then (match pN f n (j + 1) 0 99 with | .error e => .error e | .ok v => .ok (j + 2, v)) else .ok (j, 0)
def pTl (f : Int → Int) (n nl : Int) (L : Int → Int) (act fr j : Int) : Except (Int × Int) (Int × (Int → Int)) :=
  if zkd f n j = 1 ∧ 6 ≤ zva f n j ∧ zva f n j ≤ 8 then
    if 2 ≤ act ∧ pTold nl L act (zva f n j - 5) fr = true then .error (5, zsj f n j)
    else match pNums f n act (j + 1) with
      | .error e => .error e
      | .ok (j2, r) => if zkd f n j2 = 3 then .ok (j2 + 1, fun i => if i = 0 then act else if i = 1 then fr else if i = 2 then zva f n j - 5 else r i) else .error (pF f n j2 2)
  else .error (pF f n j 2)
def pLaw (f : Int → Int) (n j nl : Int) (L : Int → Int) : Except (Int × Int) (Int × (Int → Int)) :=
  if zkd f n j = 1 ∧ 0 ≤ zva f n j ∧ zva f n j ≤ 5 then
    if nl = 12 then .error (4, zsj f n j)
    else match pHd f n j with
      | .error e => .error e
      | .ok (j1, fr) => match pW f n j1 0 4 with
        | .error e => .error e
        | .ok act => pTl f n nl L act fr (j1 + 1)
  else .error (pF f n j 2)
section PARSE2
variable {R m0 : zM} {f : Int → Int} {n N j : Int} {G H L : Int → Int}
def CJ (G G' : Int → Int) (N j' : Int) : Prop := G' 8 = j' ∧ G' 4 = N ∧ (0 ≤ j' ∧ j' < N) ∧ ∀ q, q ≠ 8 → q ≠ 9 → G' q = G q
theorem CJ_ok (hT : Tk m0 f n N) (h4 : G 4 = N) (hj : 0 ≤ j ∧ j < N) (v : Int) (h0 : zkd f n j ≠ 0) (h4' : zkd f n j ≠ 4) : CJ G (zgok G j v) N (j + 1) := by
  refine ⟨by unfold zgok; rw [zrw_at], by unfold zgok; rw [zrw_ne (by decide), zrw_ne (by decide), h4], Tk_next hT hj h0 h4', fun q q8 q9 => by unfold zgok; rw [zrw_ne q8, zrw_ne q9]⟩
theorem CJ_tr {G1 G2 : Int → Int} {j1 j2 : Int} (h1 : CJ G G1 N j1) (h2 : CJ G1 G2 N j2) : CJ G G2 N j2 := ⟨h2.1, h2.2.1, h2.2.2.1, fun q q8 q9 => (h2.2.2.2 q q8 q9).trans (h1.2.2.2 q q8 q9)⟩
theorem zger_ok (G : Int → Int) (e : Int × Int) : zger G e 1 = e.1 ∧ zger G e 2 = e.2 := by
  unfold zger
  exact ⟨by rw [zrw_ne (by decide), zrw_at], by rw [zrw_at]⟩
theorem tz_rNums (hXK : XK R) (hLK : LK R 68) (hT : Tk m0 f n N) (h4 : G 4 = N) (h8 : G 8 = j) (hj : 0 ≤ j ∧ j < N) {k act : Int} (hk : 0 ≤ k ∧ k < H 0 ∧ H 0 ≤ 12) (hz : ∀ i, 3 ≤ i → i < 7 → L (7 * k + i) = 0) (ha : 0 ≤ act ∧ act ≤ 4) : match pNums f n act j with | .ok (j', r) => ∃ G' L' : Int → Int, ev 57 0 [(2, 63), (0, act), (2, 68), (0, k)] [] R (PM m0 G H L) = some ((0, 1), R, PM m0 G' H L') ∧ CJ G G' N j' ∧ ∀ i, L' i = if 7 * k + 3 ≤ i ∧ i < 7 * k + 7 then r (i - 7 * k) else L i | .error e => ∃ G' L' : Int → Int, ev 57 0 [(2, 63), (0, act), (2, 68), (0, k)] [] R (PM m0 G H L) = some ((0, 0), R, PM m0 G' H L') ∧ G' 1 = e.1 ∧ G' 2 = e.2 := by
  have k68 : KD 68 = 4 := by decide +kernel
  have AT : ∀ G L i, 0 ≤ i → i < 7 → ev 62 0 [(2, 68), (0, k), (0, i)] [] R (PM m0 G H L) = some ((0, L (7 * k + i)), R, PM m0 G H L) := by
    intro G L i i0 i1
    have := tz_at (R := R) (m := PM m0 G H L) (o := 68) hLK (by rw [PM_68]; exact hk.2.2) hk.1 (by rw [PM_68]; exact hk.2.1) i0 i1
    rw [show (68 : Int) + 1 = 69 by decide, PM_69] at this
    exact this
  unfold pNums
  by_cases a0 : act = 0
  · subst a0
    rw [if_pos rfl]
    have r1 := tz_rN (H := H) (L := L) (pl := 3) hXK hLK hT h4 h8 hj hk (by omega) 0 7
    cases h1 : pN f n j 0 7 with
    | error e =>
      rw [h1] at r1
      dsimp only at r1 ⊢
      refine ⟨zger G e, L, ?_, zger_ok G e⟩
      simp only [s57_0, s57_1, s57_32, s57_33, s57_34, s57_35, s57_36, s57_37, s57_39, s57_42, s57_45, s57_46, s57_47, s57_48, s57_49, s57_50, s57_52, s57_55, s57_58, s57_59, s57_60, s57_61, s57_62, s57_63, s57_64, s57_65, s57_68, s57_70, s57_73, s57_76, s57_77, s57_78, s57_79, s57_81, s57_82, s57_83, s57_84, s57_87, s57_89, s57_92, s57_95, s57_96, s57_99, s57_100, s57_101, s57_102, s57_104, s57_106, s57_109, s57_112, s57_113, s57_114, s57_115, s57_116, s57_117, s57_118, s57_121, s57_123, s57_124, s57_127, s57_128, s57_129, s57_130, s57_131, s57_132, s57_134, s57_137, s57_140, s57_141, s57_142, s57_143, s57_144, s57_146, s57_148, s57_151, s57_154, s57_155, s57_158, s57_159, s57_160, s57_161, s57_162, s57_163, s57_164, s57_165, s57_167, s57_170, s57_171, s57_172, s57_173, s57_174, s57_175, s57_176, s57_178, s57_181, s57_182, s57_183, s57_184, s57_185, s57_186, s57_187, s57_190, s57_193, zps_0, zps_1, zps_2, zps_3, zps_9, Option.bind_some, Option.bind_none, Int.reduceEq, Int.reduceNe, Int.reduceLT, Int.reduceLE, Int.reduceNeg, Int.reduceAdd, Int.reduceSub, Int.reduceMul, reduceIte, if_true, if_false, true_and, and_true, false_and, and_false, or_true, true_or, or_false, false_or, not_true_eq_false, not_false_eq_true, ite_not, z_b0, z_b1, z_b01, rXK0 hXK, rXK1 hXK, rXK2 hXK, rXK3 hXK, kXK0, kXK1, kXK2, kXK3, kXK4, kXK5, kXK6, kXK7, kXK8, r1, true_or, or_true, if_true]
    | ok a =>
      rw [h1] at r1
      dsimp only at r1 ⊢
      have p1 := pN_ok h1
      have c1 := CJ_ok hT h4 hj a (by omega) (by omega)
      have r2 := tz_rN (H := H) (L := zrw L (7 * k + 3) a) (pl := 4) hXK hLK hT c1.2.1 c1.1 c1.2.2.1 hk (by omega) 0 7
      cases h2 : pN f n (j + 1) 0 7 with
      | error e =>
        rw [h2] at r2
        dsimp only at r2 ⊢
        refine ⟨_, zrw L (7 * k + 3) a, ?_, zger_ok (zgok G j a) e⟩
        simp only [s57_0, s57_1, s57_32, s57_33, s57_34, s57_35, s57_36, s57_37, s57_39, s57_42, s57_45, s57_46, s57_47, s57_48, s57_49, s57_50, s57_52, s57_55, s57_58, s57_59, s57_60, s57_61, s57_62, s57_63, s57_64, s57_65, s57_68, s57_70, s57_73, s57_76, s57_77, s57_78, s57_79, s57_81, s57_82, s57_83, s57_84, s57_87, s57_89, s57_92, s57_95, s57_96, s57_99, s57_100, s57_101, s57_102, s57_104, s57_106, s57_109, s57_112, s57_113, s57_114, s57_115, s57_116, s57_117, s57_118, s57_121, s57_123, s57_124, s57_127, s57_128, s57_129, s57_130, s57_131, s57_132, s57_134, s57_137, s57_140, s57_141, s57_142, s57_143, s57_144, s57_146, s57_148, s57_151, s57_154, s57_155, s57_158, s57_159, s57_160, s57_161, s57_162, s57_163, s57_164, s57_165, s57_167, s57_170, s57_171, s57_172, s57_173, s57_174, s57_175, s57_176, s57_178, s57_181, s57_182, s57_183, s57_184, s57_185, s57_186, s57_187, s57_190, s57_193, zps_0, zps_1, zps_2, zps_3, zps_9, Option.bind_some, Option.bind_none, Int.reduceEq, Int.reduceNe, Int.reduceLT, Int.reduceLE, Int.reduceNeg, Int.reduceAdd, Int.reduceSub, Int.reduceMul, reduceIte, if_true, if_false, true_and, and_true, false_and, and_false, or_true, true_or, or_false, false_or, not_true_eq_false, not_false_eq_true, ite_not, z_b0, z_b1, z_b01, rXK0 hXK, rXK1 hXK, rXK2 hXK, rXK3 hXK, kXK0, kXK1, kXK2, kXK3, kXK4, kXK5, kXK6, kXK7, kXK8, r1, r2, true_or, or_true, if_true]
      | ok b =>
        rw [h2] at r2
        dsimp only at r2 ⊢
        have p2 := pN_ok h2
        have c2 := CJ_ok hT c1.2.1 c1.2.2.1 b (by omega) (by omega)
        rw [show j + 1 + 1 = j + 2 by omega] at c2
        have r3 := tz_rN (H := H) (L := zrw (zrw L (7 * k + 3) a) (7 * k + 4) b) (pl := 5) hXK hLK hT c2.2.1 c2.1 c2.2.2.1 hk (by omega) a 7
        have at3 := AT (zgok (zgok G j a) (j + 1) b) (zrw (zrw L (7 * k + 3) a) (7 * k + 4) b) 3 (by omega) (by omega)
        rw [show zrw (zrw L (7 * k + 3) a) (7 * k + 4) b (7 * k + 3) = a by rw [zrw_ne (by omega), zrw_at]] at at3
        cases h3 : pN f n (j + 2) a 7 with
        | error e =>
          rw [h3] at r3
          dsimp only at r3 ⊢
          refine ⟨_, zrw (zrw L (7 * k + 3) a) (7 * k + 4) b, ?_, zger_ok (zgok (zgok G j a) (j + 1) b) e⟩
          simp only [s57_0, s57_1, s57_32, s57_33, s57_34, s57_35, s57_36, s57_37, s57_39, s57_42, s57_45, s57_46, s57_47, s57_48, s57_49, s57_50, s57_52, s57_55, s57_58, s57_59, s57_60, s57_61, s57_62, s57_63, s57_64, s57_65, s57_68, s57_70, s57_73, s57_76, s57_77, s57_78, s57_79, s57_81, s57_82, s57_83, s57_84, s57_87, s57_89, s57_92, s57_95, s57_96, s57_99, s57_100, s57_101, s57_102, s57_104, s57_106, s57_109, s57_112, s57_113, s57_114, s57_115, s57_116, s57_117, s57_118, s57_121, s57_123, s57_124, s57_127, s57_128, s57_129, s57_130, s57_131, s57_132, s57_134, s57_137, s57_140, s57_141, s57_142, s57_143, s57_144, s57_146, s57_148, s57_151, s57_154, s57_155, s57_158, s57_159, s57_160, s57_161, s57_162, s57_163, s57_164, s57_165, s57_167, s57_170, s57_171, s57_172, s57_173, s57_174, s57_175, s57_176, s57_178, s57_181, s57_182, s57_183, s57_184, s57_185, s57_186, s57_187, s57_190, s57_193, zps_0, zps_1, zps_2, zps_3, zps_9, Option.bind_some, Option.bind_none, Int.reduceEq, Int.reduceNe, Int.reduceLT, Int.reduceLE, Int.reduceNeg, Int.reduceAdd, Int.reduceSub, Int.reduceMul, reduceIte, if_true, if_false, true_and, and_true, false_and, and_false, or_true, true_or, or_false, false_or, not_true_eq_false, not_false_eq_true, ite_not, z_b0, z_b1, z_b01, rXK0 hXK, rXK1 hXK, rXK2 hXK, rXK3 hXK, kXK0, kXK1, kXK2, kXK3, kXK4, kXK5, kXK6, kXK7, kXK8, k68, r1, r2, at3, r3, true_or, or_true, if_true]
        | ok c =>
          rw [h3] at r3
          dsimp only at r3 ⊢
          have p3 := pN_ok h3
          have c3 := CJ_ok hT c2.2.1 c2.2.2.1 c (by omega) (by omega)
          rw [show j + 2 + 1 = j + 3 by omega] at c3
          have r4 := tz_rN (H := H) (L := zrw (zrw (zrw L (7 * k + 3) a) (7 * k + 4) b) (7 * k + 5) c) (pl := 6) hXK hLK hT c3.2.1 c3.1 c3.2.2.1 hk (by omega) b 7
          have at4 := AT (zgok (zgok (zgok G j a) (j + 1) b) (j + 2) c) (zrw (zrw (zrw L (7 * k + 3) a) (7 * k + 4) b) (7 * k + 5) c) 4 (by omega) (by omega)
          rw [show zrw (zrw (zrw L (7 * k + 3) a) (7 * k + 4) b) (7 * k + 5) c (7 * k + 4) = b by rw [zrw_ne (by omega), zrw_at]] at at4
          cases h4x : pN f n (j + 3) b 7 with
          | error e =>
            rw [h4x] at r4
            dsimp only at r4 ⊢
            refine ⟨_, zrw (zrw (zrw L (7 * k + 3) a) (7 * k + 4) b) (7 * k + 5) c, ?_, zger_ok (zgok (zgok (zgok G j a) (j + 1) b) (j + 2) c) e⟩
            simp only [s57_0, s57_1, s57_32, s57_33, s57_34, s57_35, s57_36, s57_37, s57_39, s57_42, s57_45, s57_46, s57_47, s57_48, s57_49, s57_50, s57_52, s57_55, s57_58, s57_59, s57_60, s57_61, s57_62, s57_63, s57_64, s57_65, s57_68, s57_70, s57_73, s57_76, s57_77, s57_78, s57_79, s57_81, s57_82, s57_83, s57_84, s57_87, s57_89, s57_92, s57_95, s57_96, s57_99, s57_100, s57_101, s57_102, s57_104, s57_106, s57_109, s57_112, s57_113, s57_114, s57_115, s57_116, s57_117, s57_118, s57_121, s57_123, s57_124, s57_127, s57_128, s57_129, s57_130, s57_131, s57_132, s57_134, s57_137, s57_140, s57_141, s57_142, s57_143, s57_144, s57_146, s57_148, s57_151, s57_154, s57_155, s57_158, s57_159, s57_160, s57_161, s57_162, s57_163, s57_164, s57_165, s57_167, s57_170, s57_171, s57_172, s57_173, s57_174, s57_175, s57_176, s57_178, s57_181, s57_182, s57_183, s57_184, s57_185, s57_186, s57_187, s57_190, s57_193, zps_0, zps_1, zps_2, zps_3, zps_9, Option.bind_some, Option.bind_none, Int.reduceEq, Int.reduceNe, Int.reduceLT, Int.reduceLE, Int.reduceNeg, Int.reduceAdd, Int.reduceSub, Int.reduceMul, reduceIte, if_true, if_false, true_and, and_true, false_and, and_false, or_true, true_or, or_false, false_or, not_true_eq_false, not_false_eq_true, ite_not, z_b0, z_b1, z_b01, rXK0 hXK, rXK1 hXK, rXK2 hXK, rXK3 hXK, kXK0, kXK1, kXK2, kXK3, kXK4, kXK5, kXK6, kXK7, kXK8, k68, r1, r2, at3, r3, at4, r4, true_or, or_true, if_true]
          | ok d =>
            rw [h4x] at r4
            dsimp only at r4 ⊢
            have p4 := pN_ok h4x
            have c4 := CJ_ok hT c3.2.1 c3.2.2.1 d (by omega) (by omega)
            rw [show j + 3 + 1 = j + 4 by omega] at c4
            refine ⟨_, ?_, ?_, CJ_tr c1 (CJ_tr c2 (CJ_tr c3 c4)), ?_⟩
            · exact zrw (zrw (zrw (zrw L (7 * k + 3) a) (7 * k + 4) b) (7 * k + 5) c) (7 * k + 6) d
            · simp only [s57_0, s57_1, s57_32, s57_33, s57_34, s57_35, s57_36, s57_37, s57_39, s57_42, s57_45, s57_46, s57_47, s57_48, s57_49, s57_50, s57_52, s57_55, s57_58, s57_59, s57_60, s57_61, s57_62, s57_63, s57_64, s57_65, s57_68, s57_70, s57_73, s57_76, s57_77, s57_78, s57_79, s57_81, s57_82, s57_83, s57_84, s57_87, s57_89, s57_92, s57_95, s57_96, s57_99, s57_100, s57_101, s57_102, s57_104, s57_106, s57_109, s57_112, s57_113, s57_114, s57_115, s57_116, s57_117, s57_118, s57_121, s57_123, s57_124, s57_127, s57_128, s57_129, s57_130, s57_131, s57_132, s57_134, s57_137, s57_140, s57_141, s57_142, s57_143, s57_144, s57_146, s57_148, s57_151, s57_154, s57_155, s57_158, s57_159, s57_160, s57_161, s57_162, s57_163, s57_164, s57_165, s57_167, s57_170, s57_171, s57_172, s57_173, s57_174, s57_175, s57_176, s57_178, s57_181, s57_182, s57_183, s57_184, s57_185, s57_186, s57_187, s57_190, s57_193, zps_0, zps_1, zps_2, zps_3, zps_9, Option.bind_some, Option.bind_none, Int.reduceEq, Int.reduceNe, Int.reduceLT, Int.reduceLE, Int.reduceNeg, Int.reduceAdd, Int.reduceSub, Int.reduceMul, reduceIte, if_true, if_false, true_and, and_true, false_and, and_false, or_true, true_or, or_false, false_or, not_true_eq_false, not_false_eq_true, ite_not, z_b0, z_b1, z_b01, rXK0 hXK, rXK1 hXK, rXK2 hXK, rXK3 hXK, kXK0, kXK1, kXK2, kXK3, kXK4, kXK5, kXK6, kXK7, kXK8, k68, r1, r2, at3, r3, at4, r4, true_or, or_true, if_true]
            · intro i
              simp only [zrw_if]
              (repeat' split) <;> first | rfl | (exfalso; omega)
  · rw [if_neg a0]
    by_cases a1 : act = 1
    · subst a1
      rw [if_pos rfl]
      have r1 := tz_tW (H := H) (L := L) hXK hT h4 h8 hj 6 10
      cases h1 : pW f n j 6 10 with
      | error e =>
        rw [h1] at r1
        dsimp only at r1 ⊢
        refine ⟨zger G e, L, ?_, zger_ok G e⟩
        simp only [s57_0, s57_1, s57_32, s57_33, s57_34, s57_35, s57_36, s57_37, s57_39, s57_42, s57_45, s57_46, s57_47, s57_48, s57_49, s57_50, s57_52, s57_55, s57_58, s57_59, s57_60, s57_61, s57_62, s57_63, s57_64, s57_65, s57_68, s57_70, s57_73, s57_76, s57_77, s57_78, s57_79, s57_81, s57_82, s57_83, s57_84, s57_87, s57_89, s57_92, s57_95, s57_96, s57_99, s57_100, s57_101, s57_102, s57_104, s57_106, s57_109, s57_112, s57_113, s57_114, s57_115, s57_116, s57_117, s57_118, s57_121, s57_123, s57_124, s57_127, s57_128, s57_129, s57_130, s57_131, s57_132, s57_134, s57_137, s57_140, s57_141, s57_142, s57_143, s57_144, s57_146, s57_148, s57_151, s57_154, s57_155, s57_158, s57_159, s57_160, s57_161, s57_162, s57_163, s57_164, s57_165, s57_167, s57_170, s57_171, s57_172, s57_173, s57_174, s57_175, s57_176, s57_178, s57_181, s57_182, s57_183, s57_184, s57_185, s57_186, s57_187, s57_190, s57_193, zps_0, zps_1, zps_2, zps_3, zps_9, Option.bind_some, Option.bind_none, Int.reduceEq, Int.reduceNe, Int.reduceLT, Int.reduceLE, Int.reduceNeg, Int.reduceAdd, Int.reduceSub, Int.reduceMul, reduceIte, if_true, if_false, true_and, and_true, false_and, and_false, or_true, true_or, or_false, false_or, not_true_eq_false, not_false_eq_true, ite_not, z_b0, z_b1, z_b01, rXK0 hXK, rXK1 hXK, rXK2 hXK, rXK3 hXK, kXK0, kXK1, kXK2, kXK3, kXK4, kXK5, kXK6, kXK7, kXK8, r1, true_or, or_true, if_true]
      | ok a =>
        rw [h1] at r1
        dsimp only at r1 ⊢
        have p1 := pW_ok h1
        have c1 := CJ_ok hT h4 hj a (by omega) (by omega)
        have g9 : zgok G j a 9 = a := by unfold zgok; rw [zrw_ne (by decide), zrw_at]
        have z6 : zw (a - 6) = a - 6 := zw_i (by omega) (by omega)
        have P := tz_lput (R := R) (m := PM m0 (zgok G j a) H L) (o := 68) hLK (by rw [PM_68]; exact hk.2.2) hk.1 (by rw [PM_68]; exact hk.2.1) (i := 3) (by omega) (by omega) (a - 6)
        simp only [Int.reduceAdd, PM_69, PM_p69] at P
        have r2 := tz_rN (H := H) (L := zrw L (7 * k + 3) (a - 6)) (pl := 4) hXK hLK hT c1.2.1 c1.1 c1.2.2.1 hk (by omega) 1 14
        cases h2 : pN f n (j + 1) 1 14 with
        | error e =>
          rw [h2] at r2
          dsimp only at r2 ⊢
          refine ⟨_, zrw L (7 * k + 3) (a - 6), ?_, zger_ok (zgok G j a) e⟩
          simp only [s57_0, s57_1, s57_32, s57_33, s57_34, s57_35, s57_36, s57_37, s57_39, s57_42, s57_45, s57_46, s57_47, s57_48, s57_49, s57_50, s57_52, s57_55, s57_58, s57_59, s57_60, s57_61, s57_62, s57_63, s57_64, s57_65, s57_68, s57_70, s57_73, s57_76, s57_77, s57_78, s57_79, s57_81, s57_82, s57_83, s57_84, s57_87, s57_89, s57_92, s57_95, s57_96, s57_99, s57_100, s57_101, s57_102, s57_104, s57_106, s57_109, s57_112, s57_113, s57_114, s57_115, s57_116, s57_117, s57_118, s57_121, s57_123, s57_124, s57_127, s57_128, s57_129, s57_130, s57_131, s57_132, s57_134, s57_137, s57_140, s57_141, s57_142, s57_143, s57_144, s57_146, s57_148, s57_151, s57_154, s57_155, s57_158, s57_159, s57_160, s57_161, s57_162, s57_163, s57_164, s57_165, s57_167, s57_170, s57_171, s57_172, s57_173, s57_174, s57_175, s57_176, s57_178, s57_181, s57_182, s57_183, s57_184, s57_185, s57_186, s57_187, s57_190, s57_193, zps_0, zps_1, zps_2, zps_3, zps_9, Option.bind_some, Option.bind_none, Int.reduceEq, Int.reduceNe, Int.reduceLT, Int.reduceLE, Int.reduceNeg, Int.reduceAdd, Int.reduceSub, Int.reduceMul, reduceIte, if_true, if_false, true_and, and_true, false_and, and_false, or_true, true_or, or_false, false_or, not_true_eq_false, not_false_eq_true, ite_not, z_b0, z_b1, z_b01, rXK0 hXK, rXK1 hXK, rXK2 hXK, rXK3 hXK, kXK0, kXK1, kXK2, kXK3, kXK4, kXK5, kXK6, kXK7, kXK8, k68, r1, PM_63, g9, z6, P, r2, true_or, or_true, if_true]
        | ok b =>
          rw [h2] at r2
          dsimp only at r2 ⊢
          have p2 := pN_ok h2
          have c2 := CJ_ok hT c1.2.1 c1.2.2.1 b (by omega) (by omega)
          rw [show j + 1 + 1 = j + 2 by omega] at c2
          have r3 := tz_rN (H := H) (L := zrw (zrw L (7 * k + 3) (a - 6)) (7 * k + 4) b) (pl := 5) hXK hLK hT c2.2.1 c2.1 c2.2.2.1 hk (by omega) (-99) 99
          cases h3 : pN f n (j + 2) (-99) 99 with
          | error e =>
            rw [h3] at r3
            dsimp only at r3 ⊢
            refine ⟨_, zrw (zrw L (7 * k + 3) (a - 6)) (7 * k + 4) b, ?_, zger_ok (zgok (zgok G j a) (j + 1) b) e⟩
            simp only [s57_0, s57_1, s57_32, s57_33, s57_34, s57_35, s57_36, s57_37, s57_39, s57_42, s57_45, s57_46, s57_47, s57_48, s57_49, s57_50, s57_52, s57_55, s57_58, s57_59, s57_60, s57_61, s57_62, s57_63, s57_64, s57_65, s57_68, s57_70, s57_73, s57_76, s57_77, s57_78, s57_79, s57_81, s57_82, s57_83, s57_84, s57_87, s57_89, s57_92, s57_95, s57_96, s57_99, s57_100, s57_101, s57_102, s57_104, s57_106, s57_109, s57_112, s57_113, s57_114, s57_115, s57_116, s57_117, s57_118, s57_121, s57_123, s57_124, s57_127, s57_128, s57_129, s57_130, s57_131, s57_132, s57_134, s57_137, s57_140, s57_141, s57_142, s57_143, s57_144, s57_146, s57_148, s57_151, s57_154, s57_155, s57_158, s57_159, s57_160, s57_161, s57_162, s57_163, s57_164, s57_165, s57_167, s57_170, s57_171, s57_172, s57_173, s57_174, s57_175, s57_176, s57_178, s57_181, s57_182, s57_183, s57_184, s57_185, s57_186, s57_187, s57_190, s57_193, zps_0, zps_1, zps_2, zps_3, zps_9, Option.bind_some, Option.bind_none, Int.reduceEq, Int.reduceNe, Int.reduceLT, Int.reduceLE, Int.reduceNeg, Int.reduceAdd, Int.reduceSub, Int.reduceMul, reduceIte, if_true, if_false, true_and, and_true, false_and, and_false, or_true, true_or, or_false, false_or, not_true_eq_false, not_false_eq_true, ite_not, z_b0, z_b1, z_b01, rXK0 hXK, rXK1 hXK, rXK2 hXK, rXK3 hXK, kXK0, kXK1, kXK2, kXK3, kXK4, kXK5, kXK6, kXK7, kXK8, k68, r1, PM_63, g9, z6, P, r2, r3, true_or, or_true, if_true]
          | ok c =>
            rw [h3] at r3
            dsimp only at r3 ⊢
            have p3 := pN_ok h3
            have c3 := CJ_ok hT c2.2.1 c2.2.2.1 c (by omega) (by omega)
            rw [show j + 2 + 1 = j + 3 by omega] at c3
            refine ⟨_, ?_, ?_, CJ_tr c1 (CJ_tr c2 c3), ?_⟩
            · exact zrw (zrw (zrw L (7 * k + 3) (a - 6)) (7 * k + 4) b) (7 * k + 5) c
            · simp only [s57_0, s57_1, s57_32, s57_33, s57_34, s57_35, s57_36, s57_37, s57_39, s57_42, s57_45, s57_46, s57_47, s57_48, s57_49, s57_50, s57_52, s57_55, s57_58, s57_59, s57_60, s57_61, s57_62, s57_63, s57_64, s57_65, s57_68, s57_70, s57_73, s57_76, s57_77, s57_78, s57_79, s57_81, s57_82, s57_83, s57_84, s57_87, s57_89, s57_92, s57_95, s57_96, s57_99, s57_100, s57_101, s57_102, s57_104, s57_106, s57_109, s57_112, s57_113, s57_114, s57_115, s57_116, s57_117, s57_118, s57_121, s57_123, s57_124, s57_127, s57_128, s57_129, s57_130, s57_131, s57_132, s57_134, s57_137, s57_140, s57_141, s57_142, s57_143, s57_144, s57_146, s57_148, s57_151, s57_154, s57_155, s57_158, s57_159, s57_160, s57_161, s57_162, s57_163, s57_164, s57_165, s57_167, s57_170, s57_171, s57_172, s57_173, s57_174, s57_175, s57_176, s57_178, s57_181, s57_182, s57_183, s57_184, s57_185, s57_186, s57_187, s57_190, s57_193, zps_0, zps_1, zps_2, zps_3, zps_9, Option.bind_some, Option.bind_none, Int.reduceEq, Int.reduceNe, Int.reduceLT, Int.reduceLE, Int.reduceNeg, Int.reduceAdd, Int.reduceSub, Int.reduceMul, reduceIte, if_true, if_false, true_and, and_true, false_and, and_false, or_true, true_or, or_false, false_or, not_true_eq_false, not_false_eq_true, ite_not, z_b0, z_b1, z_b01, rXK0 hXK, rXK1 hXK, rXK2 hXK, rXK3 hXK, kXK0, kXK1, kXK2, kXK3, kXK4, kXK5, kXK6, kXK7, kXK8, k68, r1, PM_63, g9, z6, P, r2, r3, true_or, or_true, if_true]
            · intro i
              have := hz 6 (by omega) (by omega)
              simp only [zrw_if]
              by_cases q : i = 7 * k + 6
              · subst q
                rw [this]
                (repeat' split) <;> first | rfl | (exfalso; omega)
              · (repeat' split) <;> first | rfl | (exfalso; omega)
    · rw [if_neg a1]
      have r1 := fun lo hi => tz_rN (H := H) (L := L) (pl := 3) hXK hLK hT h4 h8 hj hk (by omega) lo hi
      have z3 := hz 4 (by omega) (by omega)
      have z4 := hz 5 (by omega) (by omega)
      have z5 := hz 6 (by omega) (by omega)
      have fin : ∀ a, pN f n j 0 (if act = 2 then 100 else if act = 3 then 64 else 999) = .ok a → CJ G (zgok G j a) N (j + 1) ∧ ∀ i, zrw L (7 * k + 3) a i = if 7 * k + 3 ≤ i ∧ i < 7 * k + 7 then (if i - 7 * k = 3 then a else 0) else L i := by
        intro a h1
        have p1 := pN_ok h1
        refine ⟨CJ_ok hT h4 hj a (by omega) (by omega), fun i => ?_⟩
        simp only [zrw_if]
        by_cases q : i = 7 * k + 6
        · subst q; rw [z5]; (repeat' split) <;> first | rfl | (exfalso; omega)
        · by_cases q : i = 7 * k + 5
          · subst q; rw [z4]; (repeat' split) <;> first | rfl | (exfalso; omega)
          · by_cases q : i = 7 * k + 4
            · subst q; rw [z3]; (repeat' split) <;> first | rfl | (exfalso; omega)
            · (repeat' split) <;> first | rfl | (exfalso; omega)
      have : act = 2 ∨ act = 3 ∨ act = 4 := by omega
      rcases this with rfl | rfl | rfl
      · rw [if_pos rfl] at fin ⊢
        have r1 := r1 0 100
        cases h1 : pN f n j 0 100 with
        | error e =>
          rw [h1] at r1
          dsimp only at r1 ⊢
          refine ⟨zger G e, L, ?_, zger_ok G e⟩
          simp only [s57_0, s57_1, s57_32, s57_33, s57_34, s57_35, s57_36, s57_37, s57_39, s57_42, s57_45, s57_46, s57_47, s57_48, s57_49, s57_50, s57_52, s57_55, s57_58, s57_59, s57_60, s57_61, s57_62, s57_63, s57_64, s57_65, s57_68, s57_70, s57_73, s57_76, s57_77, s57_78, s57_79, s57_81, s57_82, s57_83, s57_84, s57_87, s57_89, s57_92, s57_95, s57_96, s57_99, s57_100, s57_101, s57_102, s57_104, s57_106, s57_109, s57_112, s57_113, s57_114, s57_115, s57_116, s57_117, s57_118, s57_121, s57_123, s57_124, s57_127, s57_128, s57_129, s57_130, s57_131, s57_132, s57_134, s57_137, s57_140, s57_141, s57_142, s57_143, s57_144, s57_146, s57_148, s57_151, s57_154, s57_155, s57_158, s57_159, s57_160, s57_161, s57_162, s57_163, s57_164, s57_165, s57_167, s57_170, s57_171, s57_172, s57_173, s57_174, s57_175, s57_176, s57_178, s57_181, s57_182, s57_183, s57_184, s57_185, s57_186, s57_187, s57_190, s57_193, zps_0, zps_1, zps_2, zps_3, zps_9, Option.bind_some, Option.bind_none, Int.reduceEq, Int.reduceNe, Int.reduceLT, Int.reduceLE, Int.reduceNeg, Int.reduceAdd, Int.reduceSub, Int.reduceMul, reduceIte, if_true, if_false, true_and, and_true, false_and, and_false, or_true, true_or, or_false, false_or, not_true_eq_false, not_false_eq_true, ite_not, z_b0, z_b1, z_b01, rXK0 hXK, rXK1 hXK, rXK2 hXK, rXK3 hXK, kXK0, kXK1, kXK2, kXK3, kXK4, kXK5, kXK6, kXK7, kXK8, r1, true_or, or_true, if_true]
        | ok a =>
          rw [h1] at r1
          dsimp only at r1 ⊢
          obtain ⟨f1, f2⟩ := fin a h1
          refine ⟨_, zrw L (7 * k + 3) a, ?_, f1, f2⟩
          simp only [s57_0, s57_1, s57_32, s57_33, s57_34, s57_35, s57_36, s57_37, s57_39, s57_42, s57_45, s57_46, s57_47, s57_48, s57_49, s57_50, s57_52, s57_55, s57_58, s57_59, s57_60, s57_61, s57_62, s57_63, s57_64, s57_65, s57_68, s57_70, s57_73, s57_76, s57_77, s57_78, s57_79, s57_81, s57_82, s57_83, s57_84, s57_87, s57_89, s57_92, s57_95, s57_96, s57_99, s57_100, s57_101, s57_102, s57_104, s57_106, s57_109, s57_112, s57_113, s57_114, s57_115, s57_116, s57_117, s57_118, s57_121, s57_123, s57_124, s57_127, s57_128, s57_129, s57_130, s57_131, s57_132, s57_134, s57_137, s57_140, s57_141, s57_142, s57_143, s57_144, s57_146, s57_148, s57_151, s57_154, s57_155, s57_158, s57_159, s57_160, s57_161, s57_162, s57_163, s57_164, s57_165, s57_167, s57_170, s57_171, s57_172, s57_173, s57_174, s57_175, s57_176, s57_178, s57_181, s57_182, s57_183, s57_184, s57_185, s57_186, s57_187, s57_190, s57_193, zps_0, zps_1, zps_2, zps_3, zps_9, Option.bind_some, Option.bind_none, Int.reduceEq, Int.reduceNe, Int.reduceLT, Int.reduceLE, Int.reduceNeg, Int.reduceAdd, Int.reduceSub, Int.reduceMul, reduceIte, if_true, if_false, true_and, and_true, false_and, and_false, or_true, true_or, or_false, false_or, not_true_eq_false, not_false_eq_true, ite_not, z_b0, z_b1, z_b01, rXK0 hXK, rXK1 hXK, rXK2 hXK, rXK3 hXK, kXK0, kXK1, kXK2, kXK3, kXK4, kXK5, kXK6, kXK7, kXK8, r1, true_or, or_true, if_true]
      · rw [if_neg (by decide), if_pos rfl] at fin ⊢
        have r1 := r1 0 64
        cases h1 : pN f n j 0 64 with
        | error e =>
          rw [h1] at r1
          dsimp only at r1 ⊢
          refine ⟨zger G e, L, ?_, zger_ok G e⟩
          simp only [s57_0, s57_1, s57_32, s57_33, s57_34, s57_35, s57_36, s57_37, s57_39, s57_42, s57_45, s57_46, s57_47, s57_48, s57_49, s57_50, s57_52, s57_55, s57_58, s57_59, s57_60, s57_61, s57_62, s57_63, s57_64, s57_65, s57_68, s57_70, s57_73, s57_76, s57_77, s57_78, s57_79, s57_81, s57_82, s57_83, s57_84, s57_87, s57_89, s57_92, s57_95, s57_96, s57_99, s57_100, s57_101, s57_102, s57_104, s57_106, s57_109, s57_112, s57_113, s57_114, s57_115, s57_116, s57_117, s57_118, s57_121, s57_123, s57_124, s57_127, s57_128, s57_129, s57_130, s57_131, s57_132, s57_134, s57_137, s57_140, s57_141, s57_142, s57_143, s57_144, s57_146, s57_148, s57_151, s57_154, s57_155, s57_158, s57_159, s57_160, s57_161, s57_162, s57_163, s57_164, s57_165, s57_167, s57_170, s57_171, s57_172, s57_173, s57_174, s57_175, s57_176, s57_178, s57_181, s57_182, s57_183, s57_184, s57_185, s57_186, s57_187, s57_190, s57_193, zps_0, zps_1, zps_2, zps_3, zps_9, Option.bind_some, Option.bind_none, Int.reduceEq, Int.reduceNe, Int.reduceLT, Int.reduceLE, Int.reduceNeg, Int.reduceAdd, Int.reduceSub, Int.reduceMul, reduceIte, if_true, if_false, true_and, and_true, false_and, and_false, or_true, true_or, or_false, false_or, not_true_eq_false, not_false_eq_true, ite_not, z_b0, z_b1, z_b01, rXK0 hXK, rXK1 hXK, rXK2 hXK, rXK3 hXK, kXK0, kXK1, kXK2, kXK3, kXK4, kXK5, kXK6, kXK7, kXK8, r1, true_or, or_true, if_true]
        | ok a =>
          rw [h1] at r1
          dsimp only at r1 ⊢
          obtain ⟨f1, f2⟩ := fin a h1
          refine ⟨_, zrw L (7 * k + 3) a, ?_, f1, f2⟩
          simp only [s57_0, s57_1, s57_32, s57_33, s57_34, s57_35, s57_36, s57_37, s57_39, s57_42, s57_45, s57_46, s57_47, s57_48, s57_49, s57_50, s57_52, s57_55, s57_58, s57_59, s57_60, s57_61, s57_62, s57_63, s57_64, s57_65, s57_68, s57_70, s57_73, s57_76, s57_77, s57_78, s57_79, s57_81, s57_82, s57_83, s57_84, s57_87, s57_89, s57_92, s57_95, s57_96, s57_99, s57_100, s57_101, s57_102, s57_104, s57_106, s57_109, s57_112, s57_113, s57_114, s57_115, s57_116, s57_117, s57_118, s57_121, s57_123, s57_124, s57_127, s57_128, s57_129, s57_130, s57_131, s57_132, s57_134, s57_137, s57_140, s57_141, s57_142, s57_143, s57_144, s57_146, s57_148, s57_151, s57_154, s57_155, s57_158, s57_159, s57_160, s57_161, s57_162, s57_163, s57_164, s57_165, s57_167, s57_170, s57_171, s57_172, s57_173, s57_174, s57_175, s57_176, s57_178, s57_181, s57_182, s57_183, s57_184, s57_185, s57_186, s57_187, s57_190, s57_193, zps_0, zps_1, zps_2, zps_3, zps_9, Option.bind_some, Option.bind_none, Int.reduceEq, Int.reduceNe, Int.reduceLT, Int.reduceLE, Int.reduceNeg, Int.reduceAdd, Int.reduceSub, Int.reduceMul, reduceIte, if_true, if_false, true_and, and_true, false_and, and_false, or_true, true_or, or_false, false_or, not_true_eq_false, not_false_eq_true, ite_not, z_b0, z_b1, z_b01, rXK0 hXK, rXK1 hXK, rXK2 hXK, rXK3 hXK, kXK0, kXK1, kXK2, kXK3, kXK4, kXK5, kXK6, kXK7, kXK8, r1, true_or, or_true, if_true]
      · rw [if_neg (by decide), if_neg (by decide)] at fin ⊢
        have r1 := r1 0 999
        cases h1 : pN f n j 0 999 with
        | error e =>
          rw [h1] at r1
          dsimp only at r1 ⊢
          refine ⟨zger G e, L, ?_, zger_ok G e⟩
          simp only [s57_0, s57_1, s57_32, s57_33, s57_34, s57_35, s57_36, s57_37, s57_39, s57_42, s57_45, s57_46, s57_47, s57_48, s57_49, s57_50, s57_52, s57_55, s57_58, s57_59, s57_60, s57_61, s57_62, s57_63, s57_64, s57_65, s57_68, s57_70, s57_73, s57_76, s57_77, s57_78, s57_79, s57_81, s57_82, s57_83, s57_84, s57_87, s57_89, s57_92, s57_95, s57_96, s57_99, s57_100, s57_101, s57_102, s57_104, s57_106, s57_109, s57_112, s57_113, s57_114, s57_115, s57_116, s57_117, s57_118, s57_121, s57_123, s57_124, s57_127, s57_128, s57_129, s57_130, s57_131, s57_132, s57_134, s57_137, s57_140, s57_141, s57_142, s57_143, s57_144, s57_146, s57_148, s57_151, s57_154, s57_155, s57_158, s57_159, s57_160, s57_161, s57_162, s57_163, s57_164, s57_165, s57_167, s57_170, s57_171, s57_172, s57_173, s57_174, s57_175, s57_176, s57_178, s57_181, s57_182, s57_183, s57_184, s57_185, s57_186, s57_187, s57_190, s57_193, zps_0, zps_1, zps_2, zps_3, zps_9, Option.bind_some, Option.bind_none, Int.reduceEq, Int.reduceNe, Int.reduceLT, Int.reduceLE, Int.reduceNeg, Int.reduceAdd, Int.reduceSub, Int.reduceMul, reduceIte, if_true, if_false, true_and, and_true, false_and, and_false, or_true, true_or, or_false, false_or, not_true_eq_false, not_false_eq_true, ite_not, z_b0, z_b1, z_b01, rXK0 hXK, rXK1 hXK, rXK2 hXK, rXK3 hXK, kXK0, kXK1, kXK2, kXK3, kXK4, kXK5, kXK6, kXK7, kXK8, r1, true_or, or_true, if_true]
        | ok a =>
          rw [h1] at r1
          dsimp only at r1 ⊢
          obtain ⟨f1, f2⟩ := fin a h1
          refine ⟨_, zrw L (7 * k + 3) a, ?_, f1, f2⟩
          simp only [s57_0, s57_1, s57_32, s57_33, s57_34, s57_35, s57_36, s57_37, s57_39, s57_42, s57_45, s57_46, s57_47, s57_48, s57_49, s57_50, s57_52, s57_55, s57_58, s57_59, s57_60, s57_61, s57_62, s57_63, s57_64, s57_65, s57_68, s57_70, s57_73, s57_76, s57_77, s57_78, s57_79, s57_81, s57_82, s57_83, s57_84, s57_87, s57_89, s57_92, s57_95, s57_96, s57_99, s57_100, s57_101, s57_102, s57_104, s57_106, s57_109, s57_112, s57_113, s57_114, s57_115, s57_116, s57_117, s57_118, s57_121, s57_123, s57_124, s57_127, s57_128, s57_129, s57_130, s57_131, s57_132, s57_134, s57_137, s57_140, s57_141, s57_142, s57_143, s57_144, s57_146, s57_148, s57_151, s57_154, s57_155, s57_158, s57_159, s57_160, s57_161, s57_162, s57_163, s57_164, s57_165, s57_167, s57_170, s57_171, s57_172, s57_173, s57_174, s57_175, s57_176, s57_178, s57_181, s57_182, s57_183, s57_184, s57_185, s57_186, s57_187, s57_190, s57_193, zps_0, zps_1, zps_2, zps_3, zps_9, Option.bind_some, Option.bind_none, Int.reduceEq, Int.reduceNe, Int.reduceLT, Int.reduceLE, Int.reduceNeg, Int.reduceAdd, Int.reduceSub, Int.reduceMul, reduceIte, if_true, if_false, true_and, and_true, false_and, and_false, or_true, true_or, or_false, false_or, not_true_eq_false, not_false_eq_true, ite_not, z_b0, z_b1, z_b01, rXK0 hXK, rXK1 hXK, rXK2 hXK, rXK3 hXK, kXK0, kXK1, kXK2, kXK3, kXK4, kXK5, kXK6, kXK7, kXK8, r1, true_or, or_true, if_true]
end PARSE2
