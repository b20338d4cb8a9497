/-! .. the law's last part -/
section LAST2
variable {R m : zM} {x w h N a b d B bs bm bc lt T K9 len P D lp lw c : Int} {n np : Nat} {KK : Nat → Int → Int} {v15 v16 v17 v18 v19 v20 v21 v22 v23 v24 : zV}
theorem l_text (hLS : LSr R w h KK n) (hc : R 0 0 = c) (h104 : 104 ≤ c ∧ c < 9000) : ∃ (R' m' : zM) (K : Int → Int) (P : Int), ev 0 1231 [(4, x), (2, 1), (2, 100), (0, (n : Int)), (0, N), (0, w), (0, (np : Int)), (2, a), (2, b), (2, d), (0, B), (0, bs), (0, bm), (0, bc), (2, lt), (0, m 9 0), (0, m 58 0), v17, v18, v19, v20, v21, v22, v23, v24] [] R m = ev 0 1331 [(4, x), (2, 1), (2, 100), (0, (n : Int)), (0, N), (0, w), (0, (np : Int)), (2, a), (2, b), (2, d), (0, B), (0, bs), (0, bm), (0, bc), (2, lt), (0, m 9 0), (0, m 58 0), (2, c + 1), (2, c + 2), (0, ((tx K).length : Int)), (0, P - 1), v21, v22, v23, v24] [] R' m' ∧ LOk 4 4 K ∧ ((ptx (pM K)).length : Int) = P ∧ (1 ≤ P ∧ P ≤ 42) ∧ RE R R' ∧ R' 0 0 = c + 2 ∧ R' 0 1 = R 0 1 + 72 ∧ IR R' (c + 1) 64 ∧ (∀ i : Int, 0 ≤ i → i < P → m' (c + 1) i = cl (ptx (pM K)) i) ∧ ∀ b, b ≤ c → m' b = m b := by
  obtain ⟨R1, hR1⟩ : ∃ R1, znX R 20 64 = R1 := ⟨_, rfl⟩
  obtain ⟨R2, hR2⟩ : ∃ R2, znX R1 20 8 = R2 := ⟨_, rfl⟩
  have n1 : R1 0 0 = c + 1 := by rw [← hR1, znX_0, hc]
  have n2 : R2 0 0 = c + 2 := by rw [← hR2, znX_0, n1]; omega
  have s2 : R2 0 1 = R 0 1 + 72 := by rw [← hR2, znX_1, ← hR1, znX_1]; omega
  have h991 : 99 ≤ R1 0 0 := by omega
  have h990 : 99 ≤ R 0 0 := by omega
  have E1 : RE R R1 := by rw [← hR1]; exact zX_E h990 20 64
  have E2 : RE R1 R2 := by rw [← hR2]; exact zX_E h991 20 8
  have l1 : c + 1 ≤ R1 0 0 := by omega
  have I1 : IR R1 (c + 1) 64 := ⟨by rw [← hR1, ← hc]; exact zX_k h990 20 64, by rw [← hR1, ← hc]; exact zX_l h990 20 64⟩
  have I1' : IR R2 (c + 1) 64 := IR_E E2 l1 I1
  have ec : c + 1 + 1 = c + 2 := by omega
  have I2 : IR R2 (c + 2) 8 := ⟨by rw [← hR2, ← ec, ← n1]; exact zX_k h991 20 8, by rw [← hR2, ← ec, ← n1]; exact zX_l h991 20 8⟩
  have hz1 : znl R = c + 1 := by unfold znl; rw [hc]
  have hz2 : znl R1 = c + 2 := by unfold znl; rw [n1, ec]
  have kd1 : KD (c + 1) = 0 := KD_big (by omega)
  have kd2 : KD (c + 2) = 0 := KD_big (by omega)
  have r0 : 0 ≤ R 0 0 := by omega
  have r1 : 0 ≤ R1 0 0 := by omega
  obtain ⟨m1, hm1⟩ : ∃ m1, zrow m (c + 1) 0 = m1 := ⟨_, rfl⟩
  obtain ⟨m2, hm2⟩ : ∃ m2, zrow m1 (c + 2) 0 = m2 := ⟨_, rfl⟩
  have E : RE R R2 := RE_tr E1 E2
  have hne : c + 1 ≠ c + 2 := by omega
  have hR0 : 0 ≤ R2 0 2 ∧ R2 0 2 ≤ 260 := by rw [E.2.1 2 (by decide)]; exact hLS.2.1
  obtain ⟨K, A, hK⟩ := l_lawText (R := R2) (m := m2) (t := c + 1) (k := c + 2) (x := x) (w := 4) (h := 4) (fr0 := 61) hR0 hne I1'.1 I1'.2 I2.1 I2.2 (by decide) (by decide) (by decide)
  obtain ⟨mA, hmA⟩ : ∃ mA, zpr (zpr m2 (c + 1) (zap (m2 (c + 1)) 0 (tx K))) (c + 2) K = mA := ⟨_, rfl⟩
  rw [hmA] at A
  have hcl : ∀ i : Int, 0 ≤ i → i < (tx K).length → mA (c + 1) i = cl (tx K) i := fun i i0 i1 => by
    rw [← hmA, zpr_ne hne, zpr_at]
    have := zap_in (f := m2 (c + 1)) (n := 0) (l := tx K) i.toNat (by omega)
    rw [Int.toNat_of_nonneg i0, Int.zero_add] at this
    exact this
  obtain ⟨P, D, e1, e2, e3, e4, e5, e6, e7, e8⟩ := tx_ends ⟨Int.le_refl _, Int.le_refl _⟩ hK
  have tl := (tx_le hK).2
  obtain ⟨L, hL⟩ : ∃ L : Int, ((tx K).length : Int) = L := ⟨_, rfl⟩
  have tl' : L ≤ 44 := by omega
  rw [hL] at e4 A hcl
  have BK := l_back (R := R2) (m := mA) (x := x) (w := w) (N := N) (a := a) (b := b) (d := d) (B := B) (bs := bs) (bm := bm) (bc := bc) (lt := lt) (la1 := m 9 0) (ac := m 58 0) (T := c + 1) (K9 := c + 2) (P := P) (D := D) (n := n) (np := np) (v21 := v21) (v22 := v22) (v23 := v23) (v24 := v24) I1' e2 e3 (by omega) (by rw [hcl _ (by omega) (by omega)]; exact e5) (fun i i0 i1 => by rw [hcl i (by omega) (by omega)]; exact e6 i i0 i1) (by rw [hcl _ (by omega) (by omega)]; exact e7)
  rw [← e4] at BK
  have zl : zw (L - 2) = P + D := by rw [zw_i (by omega) (by omega)]; omega
  refine ⟨R2, mA, K, P, ?_, hK, e1, by omega, E, n2, s2, I1', fun i i0 i1 => by rw [hcl i i0 (by omega)]; exact e8 i i0 i1, fun b hb => by rw [← hmA, zpr_ne (by omega), zpr_ne (by omega), ← hm2, zrow_ne (by omega), ← hm1, zrow_ne (by omega)]⟩
  rw [hL, ← BK]
  simp only [s0_1231, s0_1233, s0_1235, s0_1237, s0_1239, s0_1241, s0_1243, s0_1245, s0_1246, s0_1248, s0_1249, s0_1250, s0_1252, s0_1255, s0_1257, s0_1259, s0_1260, s0_1261, zps_0, zps_1, zps_2, zps_3, zps_9, Option.bind_some, Option.bind_none, Int.reduceEq, Int.reduceNe, Int.reduceLT, Int.reduceLE, Int.reduceNeg, Int.reduceAdd, Int.reduceSub, Int.reduceMul, reduceIte, if_true, if_false, true_and, and_true, false_and, and_false, or_true, true_or, or_false, false_or, not_true_eq_false, not_false_eq_true, ite_not, z_b0, z_b1, z_b01, hz1, kd1, r0, hR1, hm1, hz2, kd2, r1, hR2, hm2, A, zl, and_self]
theorem l_tell3 {K : Int → Int} (hR : RK R) (hc : R 0 0 = c) (h104 : 104 ≤ c ∧ c < 9000) (hK : LOk 4 4 K) (hP : ((ptx (pM K)).length : Int) = P) (hP2 : 1 ≤ P ∧ P ≤ 42) (hT : IR R T 64) (hTc : 104 < T ∧ T ≤ c) (hcl : ∀ i : Int, 0 ≤ i → i < P → m T i = cl (ptx (pM K)) i) (h63 : m 63 0 = 0) (h58 : m 58 0 < 60) : ∃ (R' m' : zM), ev 0 1331 [(4, x), (2, 1), (2, 100), (0, (n : Int)), (0, N), (0, w), (0, (np : Int)), (2, a), (2, b), (2, d), (0, B), (0, bs), (0, bm), (0, bc), (2, lt), (0, m 9 0), (0, m 58 0), (2, T), (2, K9), (0, len), (0, P - 1), v21, v22, v23, v24] [] R m = some ((0, 1), R', m') ∧ RE R R' ∧ R' 0 0 = c + 2 ∧ R' 0 1 = R 0 1 + 3 := by
  obtain ⟨m1, hm1⟩ : ∃ m1, zpr m T (zrw (m T) P 59) = m1 := ⟨_, rfl⟩
  obtain ⟨R1, hR1⟩ : ∃ R1, znX R 20 2 = R1 := ⟨_, rfl⟩
  obtain ⟨R2, hR2⟩ : ∃ R2, znX R1 21 1 = R2 := ⟨_, rfl⟩
  have n1 : R1 0 0 = c + 1 := by rw [← hR1, znX_0, hc]
  have n2 : R2 0 0 = c + 2 := by rw [← hR2, znX_0, n1]; omega
  have s2 : R2 0 1 = R 0 1 + 3 := by rw [← hR2, znX_1, ← hR1, znX_1]; omega
  have h991 : 99 ≤ R1 0 0 := by omega
  have h990 : 99 ≤ R 0 0 := by omega
  have E1 : RE R R1 := by rw [← hR1]; exact zX_E h990 20 2
  have E2 : RE R1 R2 := by rw [← hR2]; exact zX_E h991 21 1
  have E : RE R R2 := RE_tr E1 E2
  have l1 : c + 1 ≤ R1 0 0 := by omega
  have I1 : IR R1 (c + 1) 2 := ⟨by rw [← hR1, ← hc]; exact zX_k h990 20 2, by rw [← hR1, ← hc]; exact zX_l h990 20 2⟩
  have I1' : IR R2 (c + 1) 2 := IR_E E2 l1 I1
  have ec : c + 1 + 1 = c + 2 := by omega
  have I2 : JR R2 (c + 2) 1 := ⟨by rw [← hR2, ← ec, ← n1]; exact zX_k h991 21 1, by rw [← hR2, ← ec, ← n1]; exact zX_l h991 21 1⟩
  have hFL : FL R2 (c + 1) (c + 2) := ⟨I1', I2, by omega, by omega, by omega⟩
  have hT2 := IR_E E (by omega) hT
  have hRK2 := RE_K E h990 hR
  have hz1 : znl R = c + 1 := by unfold znl; rw [hc]
  have hz2 : znl R1 = c + 2 := by unfold znl; rw [n1, ec]
  have kd1 : KD (c + 1) = 0 := KD_big (by omega)
  have kd2 : KD (c + 2) = 0 := KD_big (by omega)
  have r0 : 0 ≤ R 0 0 := by omega
  have r1 : 0 ≤ R1 0 0 := by omega
  obtain ⟨m2, hm2⟩ : ∃ m2, zrow m1 (c + 1) 0 = m2 := ⟨_, rfl⟩
  obtain ⟨m3, hm3⟩ : ∃ m3, zrow m2 (c + 2) 0 = m3 := ⟨_, rfl⟩
  have o3 : ∀ b, b ≤ c → b ≠ T → m3 b = m b := fun b hb hT => by rw [← hm3, zrow_ne (by omega), ← hm2, zrow_ne (by omega), ← hm1, zpr_ne hT]
  have o3T : m3 T = zrw (m T) P 59 := by rw [← hm3, zrow_ne (by omega), ← hm2, zrow_ne (by omega), ← hm1, zpr_at]
  have z3 : m3 (c + 1) 0 = 0 ∧ m3 (c + 1) 1 = 0 ∧ m3 (c + 2) 0 = 0 := by
    rw [← hm3, zrow_ne (by omega), zrow_at, ← hm2, zrow_at]
    exact ⟨rfl, rfl, rfl⟩
  have hd : T ≠ c + 1 ∧ T ≠ c + 2 ∧ 99 < T := by omega
  have hM := Asc_ptM ⟨Int.le_refl _, Int.le_refl _⟩ hK
  have hA : ∀ q : Int, 0 ≤ q → q ≤ 127 → Asc (ptx (pM K) ++ [q]) := fun q q0 q1 => Asc_app hM (fun b hb => by simp only [List.mem_cons, List.not_mem_nil, or_false] at hb; omega)
  have hlen : ∀ q : Int, ((ptx (pM K) ++ [q]).length : Int) = P + 1 := fun q => by rw [List.length_append]; simp only [List.length_cons, List.length_nil]; omega
  have hrow : ∀ (f : Int → Int) (q : Int), (∀ i, 0 ≤ i → i < P → f i = cl (ptx (pM K)) i) → f P = q → ∀ i, 0 ≤ i → i < P + 1 → f i = cl (ptx (pM K) ++ [q]) i := fun f q hf hq i i0 i1 => by
    by_cases e : i = P
    · have := cl_hi (l := ptx (pM K)) (l' := [q]) (i := 0) (Int.le_refl _)
      rw [Int.add_zero, hP] at this
      rw [e, this, hq]
      rfl
    · rw [cl_lo i0 (by omega)]
      exact hf i i0 (by omega)
  obtain ⟨a1, b1, F1, T1, c1, d1, e1, f1⟩ := l_spoil (R := R2) (m := m3) (lp := c + 1) (lw := c + 2) (T := T) (n := P + 1) (e := (if (59 : Int) = 59 then 2 else 1, P)) hRK2 hFL hT2 hd z3 (by rw [o3 63 (by omega) (by omega)]; exact h63) (by rw [o3 58 (by omega) (by omega)]; exact h58) (hA 59 (by decide) (by decide)) (hlen 59) (by omega) (hrow _ 59 (fun i i0 i1 => by rw [o3T, zrw_ne (by omega)]; exact hcl i i0 i1) (by rw [o3T, zrw_at])) (fun f L hS => by rw [← hP]; exact pAll_miss (w := 4) (h := 4) (by decide) (by decide) hK 59 (Or.inl rfl) hS rfl)
  obtain ⟨g1, hg1⟩ : ∃ g1, zpr b1 T (zrw (b1 T) P 42) = g1 := ⟨_, rfl⟩
  have og : ∀ b, b ≠ T → g1 b = b1 b := fun b hb => by rw [← hg1, zpr_ne hb]
  have ogT : g1 T = zrw (b1 T) P 42 := by rw [← hg1, zpr_at]
  have b1T : b1 T = m3 T := f1 T hd.1 hd.2.1 (by omega)
  have b58 : b1 58 0 = m 58 0 := by rw [f1 58 (by omega) (by omega) (by decide), o3 58 (by omega) (by omega)]
  have b9 : b1 9 0 = m 9 0 := by rw [f1 9 (by omega) (by omega) (by decide), o3 9 (by omega) (by omega)]
  obtain ⟨a2, b2, F2, T2, c2, d2, e2, f2⟩ := l_spoil (R := R2) (m := g1) (lp := c + 1) (lw := c + 2) (T := T) (n := P + 1) (e := (if (42 : Int) = 59 then 2 else 1, P)) hRK2 hFL hT2 hd (by rw [og _ (by omega), og _ (by omega)]; exact e1) (by rw [og 63 (by omega)]; exact c1) (by rw [og 58 (by omega), b58]; exact h58) (hA 42 (by decide) (by decide)) (hlen 42) (by omega) (hrow _ 42 (fun i i0 i1 => by rw [ogT, zrw_ne (by omega), b1T, o3T, zrw_ne (by omega)]; exact hcl i i0 i1) (by rw [ogT, zrw_at])) (fun f L hS => by rw [← hP]; exact pAll_miss (w := 4) (h := 4) (by decide) (by decide) hK 42 (Or.inr rfl) hS rfl)
  obtain ⟨a3, b3, F3, T3, c3, d3, e3, f3⟩ := l_spoil (R := R2) (m := b2) (lp := c + 1) (lw := c + 2) (T := T) (n := P) (e := (2, P)) hRK2 hFL hT2 hd e2 c2 (by rw [f2 58 (by omega) (by omega) (by decide), og 58 (by omega), b58]; exact h58) hM hP (by omega) (fun i i0 i1 => by rw [f2 T hd.1 hd.2.1 (by omega), ogT, zrw_ne (by omega), b1T, o3T, zrw_ne (by omega)]; exact hcl i i0 i1) (fun f L hS => by rw [← hP]; exact pAll_cut (w := 4) (h := 4) (by decide) (by decide) hK hS rfl)
  have b39 : b3 9 0 = m 9 0 := by rw [f3 9 (by omega) (by omega) (by decide), f2 9 (by omega) (by omega) (by decide), og 9 (by omega), b9]
  rw [if_pos rfl] at d1
  rw [if_neg (by decide)] at d2
  have Q1 := k_fault (R := R2) (m := b1) hRK2
  have Q2 := k_fault (R := R2) (m := b2) hRK2
  have Q3 := k_fault (R := R2) (m := b3) hRK2
  have Q4 := k_count2 (R := R2) (m := b1) hRK2
  have Q5 := k_count6 (R := R2) (m := b1) hRK2
  have Q6 := k_count11 (R := R2) (m := b3) hRK2
  have Q7 := k_count2 (R := R2) (m := b3) hRK2
  rw [d1] at Q1; rw [d2] at Q2; rw [d3] at Q3
  rw [b9] at Q4; rw [b58] at Q5; rw [c3] at Q6; rw [b39] at Q7
  have y1 : zw (P - 1 + 1) = P := by rw [zw_i (by omega) (by omega)]; omega
  have y2 : zw (P - 1 + 2) = P + 1 := by rw [zw_i (by omega) (by omega)]; omega
  have y3 : zw (-11 - (P - 1)) = zw (-10 - P) := by congr 1; omega
  have iP : 0 ≤ P ∧ P < 64 := by omega
  have kd : KD 1 = 12 := kGK0
  obtain ⟨k1, l1'⟩ := hT
  obtain ⟨k2, l2'⟩ := hT2
  refine ⟨R2, b3, ?_, E, n2, s2⟩
  simp only [s0_0, s0_3, s0_4, s0_7, s0_8, s0_10, s0_12, s0_13, s0_14, s0_15, s0_16, s0_18, s0_20, s0_22, s0_24, s0_25, s0_26, s0_29, s0_30, s0_31, s0_34, s0_35, s0_36, s0_37, s0_38, s0_41, s0_43, s0_44, s0_45, s0_46, s0_49, s0_50, s0_53, s0_54, s0_56, s0_57, s0_61, s0_62, s0_65, s0_66, s0_67, s0_69, s0_71, s0_72, s0_75, s0_77, s0_80, s0_81, s0_82, s0_84, s0_86, s0_87, s0_90, s0_91, s0_94, s0_95, s0_98, s0_99, s0_102, s0_105, s0_106, s0_108, s0_110, s0_112, s0_114, s0_116, s0_118, s0_120, s0_122, s0_124, s0_126, s0_127, s0_131, s0_132, s0_135, s0_136, s0_138, s0_140, s0_141, s0_144, s0_146, s0_148, s0_150, s0_153, s0_155, s0_156, s0_158, s0_159, s0_162, s0_165, s0_166, s0_168, s0_169, s0_172, s0_175, s0_176, s0_179, s0_180, s0_182, s0_184, s0_186, s0_188, s0_189, s0_191, s0_193, s0_195, s0_196, s0_197, s0_198, s0_201, s0_202, s0_204, s0_206, s0_207, s0_209, s0_211, s0_212, s0_214, s0_217, s0_218, s0_219, s0_220, s0_222, s0_224, s0_226, s0_227, s0_229, s0_231, s0_232, s0_235, s0_237, s0_240, s0_242, s0_245, s0_246, s0_249, s0_250, s0_251, s0_253, s0_255, s0_258, s0_259, s0_262, s0_263, s0_264, s0_266, s0_269, s0_272, s0_273, s0_275, s0_278, s0_280, s0_283, s0_285, s0_286, s0_288, s0_289, s0_291, s0_292, s0_294, s0_295, s0_299, s0_300, s0_302, s0_303, s0_306, s0_308, s0_310, s0_312, s0_314, s0_316, s0_318, s0_319, s0_323, s0_325, s0_328, s0_330, s0_332, s0_333, s0_335, s0_336, s0_339, s0_340, s0_342, s0_344, s0_345, s0_347, s0_348, s0_351, s0_352, s0_355, s0_358, s0_359, s0_361, s0_362, s0_364, s0_365, s0_367, s0_368, s0_372, s0_374, s0_377, s0_379, s0_381, s0_382, s0_383, s0_384, s0_387, s0_390, s0_392, s0_395, s0_397, s0_399, s0_401, s0_402, s0_403, s0_404, s0_405, s0_408, s0_409, s0_412, s0_413, s0_415, s0_417, s0_418, s0_420, s0_422, s0_423, s0_424, s0_425, s0_427, s0_429, s0_431, s0_433, s0_434, s0_435, s0_437, s0_439, s0_441, s0_443, s0_444, s0_446, s0_448, s0_449, s0_450, s0_452, s0_454, s0_456, s0_457, s0_459, s0_461, s0_462, s0_465, s0_466, s0_469, s0_470, s0_471, s0_474, s0_479, s0_482, s0_484, s0_486, s0_489, s0_492, s0_493, s0_495, s0_496, s0_500, s0_502, s0_505, s0_507, s0_509, s0_510, s0_513, s0_516, s0_519, s0_520, s0_524, s0_525, s0_528, s0_529, s0_531, s0_533, s0_534, s0_535, s0_536, s0_539, s0_540, s0_542, s0_544, s0_545, s0_546, s0_547, s0_548, s0_550, s0_552, s0_553, s0_556, s0_557, s0_559, s0_561, s0_562, s0_563, s0_564, s0_565, s0_568, s0_571, s0_572, s0_576, s0_578, s0_581, s0_582, s0_584, s0_586, s0_587, s0_588, s0_589, s0_590, s0_591, s0_594, s0_596, s0_598, s0_599, s0_600, s0_602, s0_604, s0_605, s0_606, s0_607, s0_608, s0_611, s0_612, s0_615, s0_616, s0_619, s0_621, s0_623, s0_624, s0_625, s0_627, s0_629, s0_630, s0_631, s0_632, s0_633, s0_634, s0_635, s0_638, s0_639, s0_642, s0_643, s0_645, s0_647, s0_649, s0_652, s0_654, s0_656, s0_659, s0_661, s0_663, s0_665, s0_668, s0_669, s0_671, s0_673, s0_674, s0_675, s0_676, s0_677, s0_680, s0_681, s0_683, s0_685, s0_686, s0_687, s0_688, s0_689, s0_692, s0_693, s0_694, s0_696, s0_699, s0_702, s0_705, s0_708, s0_711, s0_714, s0_716, s0_719, s0_720, s0_722, s0_723, s0_726, s0_728, s0_731, s0_732, s0_733, s0_735, s0_738, s0_740, s0_742, s0_745, s0_747, s0_749, s0_752, s0_754, s0_756, s0_759, s0_761, s0_763, s0_765, s0_767, s0_769, s0_771, s0_774, s0_777, s0_778, s0_780, s0_781, s0_784, s0_786, s0_789, s0_790, s0_792, s0_793, s0_796, s0_798, s0_801, s0_802, s0_804, s0_805, s0_808, s0_810, s0_813, s0_814, s0_815, s0_817, s0_820, s0_821, s0_823, s0_826, s0_828, s0_831, s0_833, s0_834, s0_836, s0_839, s0_840, s0_843, s0_844, s0_846, s0_849, s0_851, s0_853, s0_854, s0_857, s0_859, s0_862, s0_864, s0_867, s0_869, s0_871, s0_872, s0_875, s0_876, s0_878, s0_880, s0_881, s0_882, s0_885, s0_886, s0_889, s0_892, s0_893, s0_895, s0_897, s0_898, s0_899, s0_902, s0_904, s0_906, s0_907, s0_910, s0_911, s0_913, s0_917, s0_918, s0_921, s0_922, s0_925, s0_928, s0_929, s0_930, s0_933, s0_936, s0_938, s0_940, s0_942, s0_943, s0_947, s0_949, s0_952, s0_953, s0_955, s0_957, s0_958, s0_961, s0_963, s0_965, s0_966, s0_969, s0_971, s0_973, s0_974, s0_975, s0_977, s0_980, s0_982, s0_984, s0_986, s0_987, s0_988, s0_991, s0_993, s0_994, s0_996, s0_998, s0_1000, s0_1003, s0_1005, s0_1008, s0_1009, s0_1010, s0_1012, s0_1014, s0_1016, s0_1017, s0_1019, s0_1020, s0_1021, s0_1023, s0_1024, s0_1025, s0_1027, s0_1028, s0_1031, s0_1032, s0_1033, s0_1035, s0_1037, s0_1040, s0_1042, s0_1045, s0_1046, s0_1049, s0_1052, s0_1053, s0_1055, s0_1057, s0_1058, s0_1061, s0_1062, s0_1065, s0_1066, s0_1068, s0_1070, s0_1073, s0_1075, s0_1078, s0_1079, s0_1080, s0_1082, s0_1084, s0_1087, s0_1088, s0_1090, s0_1092, s0_1095, s0_1098, s0_1099, s0_1100, s0_1103, s0_1106, s0_1107, s0_1111, s0_1112, s0_1115, s0_1116, s0_1120, s0_1122, s0_1125, s0_1126, s0_1128, s0_1130, s0_1132, s0_1135, s0_1137, s0_1139, s0_1141, s0_1142, s0_1144, s0_1145, s0_1146, s0_1149, s0_1151, s0_1153, s0_1155, s0_1156, s0_1158, s0_1159, s0_1160, s0_1161, s0_1162, s0_1165, s0_1166, s0_1168, s0_1170, s0_1173, s0_1176, s0_1177, s0_1179, s0_1180, s0_1181, s0_1183, s0_1185, s0_1188, s0_1190, s0_1193, s0_1194, s0_1197, s0_1199, s0_1202, s0_1203, s0_1204, s0_1207, s0_1210, s0_1213, s0_1216, s0_1217, s0_1218, s0_1221, s0_1223, s0_1224, s0_1226, s0_1229, s0_1231, s0_1233, s0_1235, s0_1237, s0_1239, s0_1241, s0_1243, s0_1245, s0_1246, s0_1248, s0_1249, s0_1250, s0_1252, s0_1255, s0_1257, s0_1259, s0_1260, s0_1261, s0_1265, s0_1267, s0_1268, s0_1270, s0_1273, s0_1275, s0_1277, s0_1278, s0_1280, s0_1283, s0_1285, s0_1287, s0_1288, s0_1290, s0_1293, s0_1295, s0_1297, s0_1298, s0_1300, s0_1303, s0_1305, s0_1307, s0_1308, s0_1310, s0_1313, s0_1315, s0_1317, s0_1318, s0_1319, s0_1322, s0_1325, s0_1328, s0_1331, s0_1333, s0_1335, s0_1336, s0_1337, s0_1339, s0_1340, s0_1341, s0_1343, s0_1345, s0_1346, s0_1348, s0_1350, s0_1351, s0_1353, s0_1355, s0_1356, s0_1357, s0_1359, s0_1361, s0_1364, s0_1365, s0_1367, s0_1369, s0_1372, s0_1374, s0_1376, s0_1377, s0_1380, s0_1381, s0_1384, s0_1385, s0_1388, s0_1389, s0_1390, s0_1393, s0_1395, s0_1398, s0_1399, s0_1401, s0_1404, s0_1406, s0_1409, s0_1410, s0_1411, s0_1413, s0_1415, s0_1416, s0_1417, s0_1419, s0_1420, s0_1421, s0_1423, s0_1425, s0_1426, s0_1427, s0_1429, s0_1431, s0_1434, s0_1435, s0_1437, s0_1439, s0_1442, s0_1444, s0_1446, s0_1447, s0_1450, s0_1451, s0_1454, s0_1455, s0_1458, s0_1459, s0_1460, s0_1461, s0_1463, s0_1465, s0_1466, s0_1467, s0_1469, s0_1471, s0_1474, s0_1475, s0_1477, s0_1479, s0_1482, s0_1484, s0_1486, s0_1487, s0_1490, s0_1491, s0_1494, s0_1495, s0_1498, s0_1499, s0_1500, s0_1501, s0_1503, s0_1506, s0_1509, s0_1510, s0_1511, s0_1514, s0_1516, s0_1519, s0_1520, s0_1523, s0_1524, zps_0, zps_1, zps_2, zps_3, zps_9, Option.bind_some, Option.bind_none, Int.reduceEq, Int.reduceNe, Int.reduceLT, Int.reduceLE, Int.reduceNeg, Int.reduceAdd, Int.reduceSub, Int.reduceMul, reduceIte, if_true, if_false, true_and, and_true, false_and, and_false, or_true, true_or, or_false, false_or, not_true_eq_false, not_false_eq_true, ite_not, z_b0, z_b1, z_b01, xk1, kd, y1, y2, y3, iP, k1, l1', k2, l2', zup_zpr, hm1, hz1, kd1, r0, hR1, hm2, hz2, kd2, r1, hR2, hm3, F1, T1, Q1, Q4, Q5, hg1, F2, T2, Q2, F3, T3, Q3, Q6, Q7, and_self, true_or, or_true, if_true]
end LAST2
