/-! the class traces: going on -/
def cl3 (m : zM) (D : Int → Int) (x n q b : Int) : Prop := ∃ a k, 0 ≤ a ∧ a < n ∧ (k = -1 ∨ k = 1) ∧ ro m D x a k = true ∧ a + k = b ∧ cSp m (a + k) = q
section TRACE4
variable {R m w : zM} {D : Int → Int} {H : Int → Bool} {p f x : Int}
theorem znx_lo (hT : CTr m w D) (hH : HI w H p) {q : Int} (h0 : 0 ≤ q) (h1 : q < 64) : znx w D H q q = true ↔ cl1 m w D H p 4 q := by
  rw [znx_iff, cl1_iff hT hH]
  constructor
  · rintro ⟨-, s, hs, h2, h3⟩
    have g := (gC_iff _ _).1 h3
    exact ⟨s, q, ⟨hs.1, g.1.2 h1⟩, ⟨h0, by omega⟩, h2, h3, wPl_lo h1⟩
  · rintro ⟨s, t, hs, ht, h2, h3, h4⟩
    have g := (gC_iff _ _).1 h3
    have t64 := g.1.1 hs.2
    rw [wPl_lo t64] at h4
    rw [h4] at h3
    exact ⟨wPl_lo h1, s, ⟨hs.1, by omega⟩, h2, h3⟩
theorem znx_hi (hT : CTr m w D) (hS : wStop w) (hH : HI w H p) (hA : AB H p f x) {q b : Int} (b0 : 0 ≤ b) (b1 : b < 24) : znx w D H q (64 + b) = true ↔ cl3 m D x 24 q b := by
  have key := cl2_iff hT hS hH hA (64 + b) q
  rw [znx_iff]
  constructor
  · rintro ⟨h1, s, hs, h2, h3⟩
    have g := (gC_iff _ _).1 h3
    obtain ⟨a, k, a0, a1, hk, r1, r2, r3⟩ := key.2 ⟨s, ⟨by omega, hs.2⟩, by omega, h2, h3, h1⟩
    exact ⟨a, k, a0, a1, hk, r1, by omega, r3⟩
  · rintro ⟨a, k, a0, a1, hk, r1, r2, r3⟩
    obtain ⟨s, hs, ht, h2, h3, h4⟩ := key.1 ⟨a, k, a0, a1, hk, r1, by omega, r3⟩
    exact ⟨h4, s, ⟨by omega, hs.2⟩, h2, h3⟩
theorem tz_goOn1 (hWK : WK R) (hT : CTr m w D) (hH : HI w H p) (hA : AB H p (m 70 13) (m 70 14)) (to : Int) : ∃ f : Int, ev 171 0 [(2, 70), (0, p), (0, to), (9, 0), (9, 0), (9, 0)] [] R m = ev 171 53 [(2, 70), (0, p), (0, to), (0, f), (0, 0), (0, 0)] [] R m ∧ ((f = 1 ∧ cl1 m w D H p 4 to) ∨ (f = 0 ∧ ¬ cl1 m w D H p 4 to)) := by
  have hp := hH.1
  have SO := fun d (h : 0 ≤ d ∧ d < 4) => tz_isStepOn hWK hT hp h
  have SE := fun d (h : 0 ≤ d ∧ d < 4) => tz_stepEnd (m := m) hWK hp h
  have L0 : ev 171 0 [(2, 70), (0, p), (0, to), (9, 0), (9, 0), (9, 0)] [] R m = ev 171 8 [(2, 70), (0, p), (0, to), (0, 0), (0, 0), (0, 0)] [] R m := by
    simp only [s171_0, s171_1, s171_2, s171_3, s171_5, s171_6, s171_9, s171_12, s171_15, s171_17, s171_18, s171_21, s171_22, s171_23, s171_25, s171_28, s171_31, s171_32, s171_33, s171_35, s171_38, s171_39, s171_42, s171_43, s171_44, s171_47, s171_50, s171_51, s171_54, s171_57, s171_60, s171_62, s171_64, s171_67, s171_68, s171_70, s171_71, s171_74, s171_77, s171_78, s171_80, s171_81, s171_82, s171_85, s171_86, s171_89, s171_91, s171_92, s171_94, s171_95, s171_96, s171_97, s171_98, s171_100, s171_101, s171_103, s171_104, s171_107, s171_110, s171_111, s171_113, s171_114, s171_115, s171_118, s171_119, s171_122, s171_124, s171_125, s171_127, s171_128, s171_129, s171_130, s171_131, s171_133, s171_136, s171_139, s171_140, s171_141, s171_144, s171_145, s171_147, s171_150, zps_0, zps_1, zps_2, zps_3, zps_9, Option.bind_some, Option.bind_none, Int.reduceEq, Int.reduceNe, Int.reduceLT, Int.reduceLE, Int.reduceNeg, Int.reduceAdd, Int.reduceSub, Int.reduceMul, reduceIte, if_true, if_false, true_and, and_true, false_and, and_false, or_true, true_or, or_false, false_or, not_true_eq_false, not_false_eq_true, ite_not, z_b0, z_b1, z_b01, rWK0 hWK, rWK1 hWK, rWK2 hWK, rWK3 hWK, rWK4 hWK, rWK5 hWK, rWK6 hWK, rWK7 hWK, rWK8 hWK, kWK0, kWK1, kWK2, kWK3, kWK4, kWK5, kWK6, kWK7, kWK8, kWK9, kWK10, kWK11, kWK12, kWK13, kWK14, kWK15, kWK16]
  rw [L0]
  by_cases c : H p = true
  · have c13 : ¬ m 70 13 = 0 := by rw [hA.1, if_pos c]; decide
    refine zloop (fun r => ∃ f : Int, r = ev 171 53 [(2, 70), (0, p), (0, to), (0, f), (0, 0), (0, 0)] [] R m ∧ ((f = 1 ∧ cl1 m w D H p 4 to) ∨ (f = 0 ∧ ¬ cl1 m w D H p 4 to))) (fun d (f : Int) => ev 171 8 [(2, 70), (0, p), (0, to), (0, f), (0, 0), (0, d)] [] R m) 4 (fun d f => 0 ≤ d ∧ ((f = 1 ∧ cl1 m w D H p d to) ∨ (f = 0 ∧ ¬ cl1 m w D H p d to))) ?_ ?_ 0 0 (by omega) ⟨by omega, Or.inr ⟨rfl, fun ⟨_, d, a, b, _⟩ => by omega⟩⟩
    · rintro d f hd ⟨d0, hI⟩ ih
      have c1 : ¬ 4 ≤ d := by omega
      have z : zw (d + 1) = d + 1 := zw_i (by omega) (by omega)
      have S1 := SO d ⟨d0, hd⟩
      have S2 := SE d ⟨d0, hd⟩
      have up : cl1 m w D H p (d + 1) to ↔ (cl1 m w D H p d to ∨ (so m w D p d = true ∧ m 73 (4 * p + d) = to)) := by
        unfold cl1
        constructor
        · rintro ⟨h1, e, e0, e1, h2, h3⟩
          by_cases q2 : e = d
          · right; rw [q2] at h2 h3; exact ⟨h2, h3⟩
          · left; exact ⟨h1, e, e0, by omega, h2, h3⟩
        · rintro (⟨h1, e, e0, e1, h2, h3⟩ | h)
          · exact ⟨h1, e, e0, by omega, h2, h3⟩
          · exact ⟨c, d, d0, by omega, h.1, h.2⟩
      rw [s171_8]
      by_cases o : so m w D p d = true
      · rw [if_pos o] at S1
        by_cases e : m 73 (4 * p + d) = to
        · simp only [s171_0, s171_1, s171_2, s171_3, s171_5, s171_6, s171_9, s171_12, s171_15, s171_17, s171_18, s171_21, s171_22, s171_23, s171_25, s171_28, s171_31, s171_32, s171_33, s171_35, s171_38, s171_39, s171_42, s171_43, s171_44, s171_47, s171_50, s171_51, s171_54, s171_57, s171_60, s171_62, s171_64, s171_67, s171_68, s171_70, s171_71, s171_74, s171_77, s171_78, s171_80, s171_81, s171_82, s171_85, s171_86, s171_89, s171_91, s171_92, s171_94, s171_95, s171_96, s171_97, s171_98, s171_100, s171_101, s171_103, s171_104, s171_107, s171_110, s171_111, s171_113, s171_114, s171_115, s171_118, s171_119, s171_122, s171_124, s171_125, s171_127, s171_128, s171_129, s171_130, s171_131, s171_133, s171_136, s171_139, s171_140, s171_141, s171_144, s171_145, s171_147, s171_150, zps_0, zps_1, zps_2, zps_3, zps_9, Option.bind_some, Option.bind_none, Int.reduceEq, Int.reduceNe, Int.reduceLT, Int.reduceLE, Int.reduceNeg, Int.reduceAdd, Int.reduceSub, Int.reduceMul, reduceIte, if_true, if_false, true_and, and_true, false_and, and_false, or_true, true_or, or_false, false_or, not_true_eq_false, not_false_eq_true, ite_not, z_b0, z_b1, z_b01, rWK0 hWK, rWK1 hWK, rWK2 hWK, rWK3 hWK, rWK4 hWK, rWK5 hWK, rWK6 hWK, rWK7 hWK, rWK8 hWK, kWK0, kWK1, kWK2, kWK3, kWK4, kWK5, kWK6, kWK7, kWK8, kWK9, kWK10, kWK11, kWK12, kWK13, kWK14, kWK15, kWK16, c13, hd, c1, S1, S2, e, z, if_true, if_false]
          exact ih _ ⟨by omega, Or.inl ⟨rfl, up.2 (Or.inr ⟨o, e⟩)⟩⟩
        · simp only [s171_0, s171_1, s171_2, s171_3, s171_5, s171_6, s171_9, s171_12, s171_15, s171_17, s171_18, s171_21, s171_22, s171_23, s171_25, s171_28, s171_31, s171_32, s171_33, s171_35, s171_38, s171_39, s171_42, s171_43, s171_44, s171_47, s171_50, s171_51, s171_54, s171_57, s171_60, s171_62, s171_64, s171_67, s171_68, s171_70, s171_71, s171_74, s171_77, s171_78, s171_80, s171_81, s171_82, s171_85, s171_86, s171_89, s171_91, s171_92, s171_94, s171_95, s171_96, s171_97, s171_98, s171_100, s171_101, s171_103, s171_104, s171_107, s171_110, s171_111, s171_113, s171_114, s171_115, s171_118, s171_119, s171_122, s171_124, s171_125, s171_127, s171_128, s171_129, s171_130, s171_131, s171_133, s171_136, s171_139, s171_140, s171_141, s171_144, s171_145, s171_147, s171_150, zps_0, zps_1, zps_2, zps_3, zps_9, Option.bind_some, Option.bind_none, Int.reduceEq, Int.reduceNe, Int.reduceLT, Int.reduceLE, Int.reduceNeg, Int.reduceAdd, Int.reduceSub, Int.reduceMul, reduceIte, if_true, if_false, true_and, and_true, false_and, and_false, or_true, true_or, or_false, false_or, not_true_eq_false, not_false_eq_true, ite_not, z_b0, z_b1, z_b01, rWK0 hWK, rWK1 hWK, rWK2 hWK, rWK3 hWK, rWK4 hWK, rWK5 hWK, rWK6 hWK, rWK7 hWK, rWK8 hWK, kWK0, kWK1, kWK2, kWK3, kWK4, kWK5, kWK6, kWK7, kWK8, kWK9, kWK10, kWK11, kWK12, kWK13, kWK14, kWK15, kWK16, c13, hd, c1, S1, S2, e, z, if_true, if_false]
          refine ih _ ⟨by omega, hI.elim (fun h => Or.inl ⟨h.1, up.2 (Or.inl h.2)⟩) (fun h => Or.inr ⟨h.1, fun g => (up.1 g).elim h.2 (fun g => e g.2)⟩)⟩
      · rw [if_neg o] at S1
        simp only [s171_0, s171_1, s171_2, s171_3, s171_5, s171_6, s171_9, s171_12, s171_15, s171_17, s171_18, s171_21, s171_22, s171_23, s171_25, s171_28, s171_31, s171_32, s171_33, s171_35, s171_38, s171_39, s171_42, s171_43, s171_44, s171_47, s171_50, s171_51, s171_54, s171_57, s171_60, s171_62, s171_64, s171_67, s171_68, s171_70, s171_71, s171_74, s171_77, s171_78, s171_80, s171_81, s171_82, s171_85, s171_86, s171_89, s171_91, s171_92, s171_94, s171_95, s171_96, s171_97, s171_98, s171_100, s171_101, s171_103, s171_104, s171_107, s171_110, s171_111, s171_113, s171_114, s171_115, s171_118, s171_119, s171_122, s171_124, s171_125, s171_127, s171_128, s171_129, s171_130, s171_131, s171_133, s171_136, s171_139, s171_140, s171_141, s171_144, s171_145, s171_147, s171_150, zps_0, zps_1, zps_2, zps_3, zps_9, Option.bind_some, Option.bind_none, Int.reduceEq, Int.reduceNe, Int.reduceLT, Int.reduceLE, Int.reduceNeg, Int.reduceAdd, Int.reduceSub, Int.reduceMul, reduceIte, if_true, if_false, true_and, and_true, false_and, and_false, or_true, true_or, or_false, false_or, not_true_eq_false, not_false_eq_true, ite_not, z_b0, z_b1, z_b01, rWK0 hWK, rWK1 hWK, rWK2 hWK, rWK3 hWK, rWK4 hWK, rWK5 hWK, rWK6 hWK, rWK7 hWK, rWK8 hWK, kWK0, kWK1, kWK2, kWK3, kWK4, kWK5, kWK6, kWK7, kWK8, kWK9, kWK10, kWK11, kWK12, kWK13, kWK14, kWK15, kWK16, c13, hd, c1, S1, z, if_true, if_false]
        refine ih _ ⟨by omega, hI.elim (fun h => Or.inl ⟨h.1, up.2 (Or.inl h.2)⟩) (fun h => Or.inr ⟨h.1, fun g => (up.1 g).elim h.2 (fun g => o g.1)⟩)⟩
    · rintro f ⟨-, hI⟩
      refine ⟨f, ?_, hI⟩
      rw [s171_8]
      simp only [s171_0, s171_1, s171_2, s171_3, s171_5, s171_6, s171_9, s171_12, s171_15, s171_17, s171_18, s171_21, s171_22, s171_23, s171_25, s171_28, s171_31, s171_32, s171_33, s171_35, s171_38, s171_39, s171_42, s171_43, s171_44, s171_47, s171_50, s171_51, s171_54, s171_57, s171_60, s171_62, s171_64, s171_67, s171_68, s171_70, s171_71, s171_74, s171_77, s171_78, s171_80, s171_81, s171_82, s171_85, s171_86, s171_89, s171_91, s171_92, s171_94, s171_95, s171_96, s171_97, s171_98, s171_100, s171_101, s171_103, s171_104, s171_107, s171_110, s171_111, s171_113, s171_114, s171_115, s171_118, s171_119, s171_122, s171_124, s171_125, s171_127, s171_128, s171_129, s171_130, s171_131, s171_133, s171_136, s171_139, s171_140, s171_141, s171_144, s171_145, s171_147, s171_150, zps_0, zps_1, zps_2, zps_3, zps_9, Option.bind_some, Option.bind_none, Int.reduceEq, Int.reduceNe, Int.reduceLT, Int.reduceLE, Int.reduceNeg, Int.reduceAdd, Int.reduceSub, Int.reduceMul, reduceIte, if_true, if_false, true_and, and_true, false_and, and_false, or_true, true_or, or_false, false_or, not_true_eq_false, not_false_eq_true, ite_not, z_b0, z_b1, z_b01, rWK0 hWK, rWK1 hWK, rWK2 hWK, rWK3 hWK, rWK4 hWK, rWK5 hWK, rWK6 hWK, rWK7 hWK, rWK8 hWK, kWK0, kWK1, kWK2, kWK3, kWK4, kWK5, kWK6, kWK7, kWK8, kWK9, kWK10, kWK11, kWK12, kWK13, kWK14, kWK15, kWK16, c13, if_true, if_false]
  · have c13 : m 70 13 = 0 := by rw [hA.1, if_neg c]
    refine ⟨0, ?_, Or.inr ⟨rfl, fun q => c q.1⟩⟩
    rw [s171_8]
    simp only [s171_0, s171_1, s171_2, s171_3, s171_5, s171_6, s171_9, s171_12, s171_15, s171_17, s171_18, s171_21, s171_22, s171_23, s171_25, s171_28, s171_31, s171_32, s171_33, s171_35, s171_38, s171_39, s171_42, s171_43, s171_44, s171_47, s171_50, s171_51, s171_54, s171_57, s171_60, s171_62, s171_64, s171_67, s171_68, s171_70, s171_71, s171_74, s171_77, s171_78, s171_80, s171_81, s171_82, s171_85, s171_86, s171_89, s171_91, s171_92, s171_94, s171_95, s171_96, s171_97, s171_98, s171_100, s171_101, s171_103, s171_104, s171_107, s171_110, s171_111, s171_113, s171_114, s171_115, s171_118, s171_119, s171_122, s171_124, s171_125, s171_127, s171_128, s171_129, s171_130, s171_131, s171_133, s171_136, s171_139, s171_140, s171_141, s171_144, s171_145, s171_147, s171_150, zps_0, zps_1, zps_2, zps_3, zps_9, Option.bind_some, Option.bind_none, Int.reduceEq, Int.reduceNe, Int.reduceLT, Int.reduceLE, Int.reduceNeg, Int.reduceAdd, Int.reduceSub, Int.reduceMul, reduceIte, if_true, if_false, true_and, and_true, false_and, and_false, or_true, true_or, or_false, false_or, not_true_eq_false, not_false_eq_true, ite_not, z_b0, z_b1, z_b01, rWK0 hWK, rWK1 hWK, rWK2 hWK, rWK3 hWK, rWK4 hWK, rWK5 hWK, rWK6 hWK, rWK7 hWK, rWK8 hWK, kWK0, kWK1, kWK2, kWK3, kWK4, kWK5, kWK6, kWK7, kWK8, kWK9, kWK10, kWK11, kWK12, kWK13, kWK14, kWK15, kWK16, c13, if_true, if_false]
theorem yset (hT : CTr m w D) (hS : wStop w) (hH : HI w H p) (hA : AB H p f x) {to a k y : Int} (hk : k = -1 ∨ k = 1) (ha : 0 ≤ a ∧ a < 24) {P P' : Int → Prop} (o : ro m D x a k = true) (e : cSp m (a + k) = to) (hP : ∀ b, 0 ≤ b → b < 32 → (ybt y b = true ↔ P b)) (hP' : ∀ b, P' b ↔ (P b ∨ (ro m D x a k = true ∧ a + k = b ∧ cSp m (a + k) = to))) : ∀ b, 0 ≤ b → b < 32 → (ybt (z32 (· ||| ·) y (z32 (fun x y => x <<< (y &&& 31)) 1 (a + k))) b = true ↔ P' b) := by
  intro b b0 b1
  have r := ro_r hT hS hH hA hk ha o
  rw [ybt_set (by omega) ⟨b0, b1⟩, hP', Bool.or_eq_true, hP b b0 b1, decide_eq_true_eq]
  constructor
  · rintro (h | h)
    · exact Or.inl h
    · exact Or.inr ⟨o, h.symm, e⟩
  · rintro (h | h)
    · exact Or.inl h
    · exact Or.inr h.2.1.symm
theorem tz_goOn2 (hWK : WK R) (hT : CTr m w D) (hS : wStop w) (hH : HI w H p) (hA : AB H p (m 70 13) (m 70 14)) (to f : Int) : ∃ y l5 : Int, ev 171 53 [(2, 70), (0, p), (0, to), (0, f), (0, 0), (0, 0)] [] R m = ev 171 139 [(2, 70), (0, p), (0, to), (0, f), (0, y), (0, l5)] [] R m ∧ zi32 y ∧ ∀ b, 0 ≤ b → b < 32 → (ybt y b = true ↔ cl3 m D (m 70 14) 24 to b) := by
  have hp := hH.1
  have RO := fun a k (h : 0 ≤ a ∧ a < 24) (hk : k = -1 ∨ k = 1) => tz_isRideOn hWK hT h hk
  have SP := fun a => tz_stopPlot (m := m) hWK a
  have i0 : zi32 0 := by unfold zi32; omega
  by_cases cx : m 70 14 = 0
  · refine ⟨0, 0, ?_, i0, fun b b0 b1 => ?_⟩
    · rw [s171_53]
      simp only [s171_0, s171_1, s171_2, s171_3, s171_5, s171_6, s171_9, s171_12, s171_15, s171_17, s171_18, s171_21, s171_22, s171_23, s171_25, s171_28, s171_31, s171_32, s171_33, s171_35, s171_38, s171_39, s171_42, s171_43, s171_44, s171_47, s171_50, s171_51, s171_54, s171_57, s171_60, s171_62, s171_64, s171_67, s171_68, s171_70, s171_71, s171_74, s171_77, s171_78, s171_80, s171_81, s171_82, s171_85, s171_86, s171_89, s171_91, s171_92, s171_94, s171_95, s171_96, s171_97, s171_98, s171_100, s171_101, s171_103, s171_104, s171_107, s171_110, s171_111, s171_113, s171_114, s171_115, s171_118, s171_119, s171_122, s171_124, s171_125, s171_127, s171_128, s171_129, s171_130, s171_131, s171_133, s171_136, s171_140, s171_141, s171_144, s171_145, s171_147, s171_150, zps_0, zps_1, zps_2, zps_3, zps_9, Option.bind_some, Option.bind_none, Int.reduceEq, Int.reduceNe, Int.reduceLT, Int.reduceLE, Int.reduceNeg, Int.reduceAdd, Int.reduceSub, Int.reduceMul, reduceIte, if_true, if_false, true_and, and_true, false_and, and_false, or_true, true_or, or_false, false_or, not_true_eq_false, not_false_eq_true, ite_not, z_b0, z_b1, z_b01, rWK0 hWK, rWK1 hWK, rWK2 hWK, rWK3 hWK, rWK4 hWK, rWK5 hWK, rWK6 hWK, rWK7 hWK, rWK8 hWK, kWK0, kWK1, kWK2, kWK3, kWK4, kWK5, kWK6, kWK7, kWK8, kWK9, kWK10, kWK11, kWK12, kWK13, kWK14, kWK15, kWK16, cx, if_true, if_false]
    · rw [ybt_0, cx]
      exact ⟨fun h => (by cases h), fun ⟨a, k, _, _, _, h, _⟩ => by rw [ro_0] at h; cases h⟩
  · refine zloop (fun r => ∃ y l5 : Int, r = ev 171 139 [(2, 70), (0, p), (0, to), (0, f), (0, y), (0, l5)] [] R m ∧ zi32 y ∧ ∀ b, 0 ≤ b → b < 32 → (ybt y b = true ↔ cl3 m D (m 70 14) 24 to b)) (fun a (y : Int) => ev 171 53 [(2, 70), (0, p), (0, to), (0, f), (0, y), (0, a)] [] R m) 24 (fun a y => 0 ≤ a ∧ zi32 y ∧ ∀ b, 0 ≤ b → b < 32 → (ybt y b = true ↔ cl3 m D (m 70 14) a to b)) ?_ ?_ 0 0 (by omega) ⟨by omega, i0, fun b b0 b1 => ?_⟩
    · rintro a y ha ⟨a0, hy, hI⟩ ih
      have c1 : ¬ 24 ≤ a := by omega
      have z : zw (a + 1) = a + 1 := zw_i (by omega) (by omega)
      have zm : zw (a - 1) = a - 1 := zw_i (by omega) (by omega)
      have R1 := RO a (-1) ⟨a0, ha⟩ (Or.inl rfl)
      have R2 := RO a 1 ⟨a0, ha⟩ (Or.inr rfl)
      have am : a + -1 = a - 1 := by omega
      have up : ∀ b, cl3 m D (m 70 14) (a + 1) to b ↔ ((cl3 m D (m 70 14) a to b ∨ (ro m D (m 70 14) a (-1) = true ∧ a + -1 = b ∧ cSp m (a + -1) = to)) ∨ (ro m D (m 70 14) a 1 = true ∧ a + 1 = b ∧ cSp m (a + 1) = to)) := by
        intro b
        unfold cl3
        constructor
        · rintro ⟨c, k, c0, c1, hk, g1, g2, g3⟩
          by_cases e : c = a
          · rw [e] at g1 g2 g3
            rcases hk with k1 | k1
            · rw [k1] at g1 g2 g3; left; right; exact ⟨g1, g2, g3⟩
            · rw [k1] at g1 g2 g3; right; exact ⟨g1, g2, g3⟩
          · left; left; exact ⟨c, k, c0, by omega, hk, g1, g2, g3⟩
        · rintro ((⟨c, k, c0, c1, hk, g⟩ | g) | g)
          · exact ⟨c, k, c0, by omega, hk, g⟩
          · exact ⟨a, -1, a0, by omega, Or.inl rfl, g⟩
          · exact ⟨a, 1, a0, by omega, Or.inr rfl, g⟩
      have HALF : ∃ y2 : Int, ev 171 53 [(2, 70), (0, p), (0, to), (0, f), (0, y), (0, a)] [] R m = ev 171 100 [(2, 70), (0, p), (0, to), (0, f), (0, y2), (0, a)] [] R m ∧ zi32 y2 ∧ ∀ b, 0 ≤ b → b < 32 → (ybt y2 b = true ↔ (cl3 m D (m 70 14) a to b ∨ (ro m D (m 70 14) a (-1) = true ∧ a + -1 = b ∧ cSp m (a + -1) = to))) := by
        by_cases o : ro m D (m 70 14) a (-1) = true
        · rw [if_pos o] at R1
          by_cases e : cSp m (a - 1) = to
          · refine ⟨_, ?_, z32_i _ _ _, yset hT hS hH hA (Or.inl rfl) ⟨a0, ha⟩ o (by rw [am]; exact e) hI (fun b => Iff.rfl)⟩
            rw [am, s171_53]
            simp only [s171_0, s171_1, s171_2, s171_3, s171_5, s171_6, s171_9, s171_12, s171_15, s171_17, s171_18, s171_21, s171_22, s171_23, s171_25, s171_28, s171_31, s171_32, s171_33, s171_35, s171_38, s171_39, s171_42, s171_43, s171_44, s171_47, s171_50, s171_51, s171_54, s171_57, s171_60, s171_62, s171_64, s171_67, s171_68, s171_70, s171_71, s171_74, s171_77, s171_78, s171_80, s171_81, s171_82, s171_85, s171_86, s171_89, s171_91, s171_92, s171_94, s171_95, s171_96, s171_97, s171_98, s171_101, s171_103, s171_104, s171_107, s171_110, s171_111, s171_113, s171_114, s171_115, s171_118, s171_119, s171_122, s171_124, s171_125, s171_127, s171_128, s171_129, s171_130, s171_131, s171_133, s171_136, s171_139, s171_140, s171_141, s171_144, s171_145, s171_147, s171_150, zps_0, zps_1, zps_2, zps_3, zps_9, Option.bind_some, Option.bind_none, Int.reduceEq, Int.reduceNe, Int.reduceLT, Int.reduceLE, Int.reduceNeg, Int.reduceAdd, Int.reduceSub, Int.reduceMul, reduceIte, if_true, if_false, true_and, and_true, false_and, and_false, or_true, true_or, or_false, false_or, not_true_eq_false, not_false_eq_true, ite_not, z_b0, z_b1, z_b01, rWK0 hWK, rWK1 hWK, rWK2 hWK, rWK3 hWK, rWK4 hWK, rWK5 hWK, rWK6 hWK, rWK7 hWK, rWK8 hWK, kWK0, kWK1, kWK2, kWK3, kWK4, kWK5, kWK6, kWK7, kWK8, kWK9, kWK10, kWK11, kWK12, kWK13, kWK14, kWK15, kWK16, cx, ha, c1, R1, SP, zm, e, if_true, if_false]
          · refine ⟨y, ?_, hy, fun b b0 b1 => (hI b b0 b1).trans ⟨Or.inl, fun h => h.elim id (fun h => absurd (by rw [← am]; exact h.2.2) e)⟩⟩
            rw [s171_53]
            simp only [s171_0, s171_1, s171_2, s171_3, s171_5, s171_6, s171_9, s171_12, s171_15, s171_17, s171_18, s171_21, s171_22, s171_23, s171_25, s171_28, s171_31, s171_32, s171_33, s171_35, s171_38, s171_39, s171_42, s171_43, s171_44, s171_47, s171_50, s171_51, s171_54, s171_57, s171_60, s171_62, s171_64, s171_67, s171_68, s171_70, s171_71, s171_74, s171_77, s171_78, s171_80, s171_81, s171_82, s171_85, s171_86, s171_89, s171_91, s171_92, s171_94, s171_95, s171_96, s171_97, s171_98, s171_101, s171_103, s171_104, s171_107, s171_110, s171_111, s171_113, s171_114, s171_115, s171_118, s171_119, s171_122, s171_124, s171_125, s171_127, s171_128, s171_129, s171_130, s171_131, s171_133, s171_136, s171_139, s171_140, s171_141, s171_144, s171_145, s171_147, s171_150, zps_0, zps_1, zps_2, zps_3, zps_9, Option.bind_some, Option.bind_none, Int.reduceEq, Int.reduceNe, Int.reduceLT, Int.reduceLE, Int.reduceNeg, Int.reduceAdd, Int.reduceSub, Int.reduceMul, reduceIte, if_true, if_false, true_and, and_true, false_and, and_false, or_true, true_or, or_false, false_or, not_true_eq_false, not_false_eq_true, ite_not, z_b0, z_b1, z_b01, rWK0 hWK, rWK1 hWK, rWK2 hWK, rWK3 hWK, rWK4 hWK, rWK5 hWK, rWK6 hWK, rWK7 hWK, rWK8 hWK, kWK0, kWK1, kWK2, kWK3, kWK4, kWK5, kWK6, kWK7, kWK8, kWK9, kWK10, kWK11, kWK12, kWK13, kWK14, kWK15, kWK16, cx, ha, c1, R1, SP, zm, e, if_true, if_false]
        · rw [if_neg o] at R1
          refine ⟨y, ?_, hy, fun b b0 b1 => (hI b b0 b1).trans ⟨Or.inl, fun h => h.elim id (fun h => absurd h.1 o)⟩⟩
          rw [s171_53]
          simp only [s171_0, s171_1, s171_2, s171_3, s171_5, s171_6, s171_9, s171_12, s171_15, s171_17, s171_18, s171_21, s171_22, s171_23, s171_25, s171_28, s171_31, s171_32, s171_33, s171_35, s171_38, s171_39, s171_42, s171_43, s171_44, s171_47, s171_50, s171_51, s171_54, s171_57, s171_60, s171_62, s171_64, s171_67, s171_68, s171_70, s171_71, s171_74, s171_77, s171_78, s171_80, s171_81, s171_82, s171_85, s171_86, s171_89, s171_91, s171_92, s171_94, s171_95, s171_96, s171_97, s171_98, s171_101, s171_103, s171_104, s171_107, s171_110, s171_111, s171_113, s171_114, s171_115, s171_118, s171_119, s171_122, s171_124, s171_125, s171_127, s171_128, s171_129, s171_130, s171_131, s171_133, s171_136, s171_139, s171_140, s171_141, s171_144, s171_145, s171_147, s171_150, zps_0, zps_1, zps_2, zps_3, zps_9, Option.bind_some, Option.bind_none, Int.reduceEq, Int.reduceNe, Int.reduceLT, Int.reduceLE, Int.reduceNeg, Int.reduceAdd, Int.reduceSub, Int.reduceMul, reduceIte, if_true, if_false, true_and, and_true, false_and, and_false, or_true, true_or, or_false, false_or, not_true_eq_false, not_false_eq_true, ite_not, z_b0, z_b1, z_b01, rWK0 hWK, rWK1 hWK, rWK2 hWK, rWK3 hWK, rWK4 hWK, rWK5 hWK, rWK6 hWK, rWK7 hWK, rWK8 hWK, kWK0, kWK1, kWK2, kWK3, kWK4, kWK5, kWK6, kWK7, kWK8, kWK9, kWK10, kWK11, kWK12, kWK13, kWK14, kWK15, kWK16, cx, ha, c1, R1, if_true, if_false]
      obtain ⟨y2, e2, hy2, hI2⟩ := HALF
      rw [e2]
      by_cases o : ro m D (m 70 14) a 1 = true
      · rw [if_pos o] at R2
        by_cases e : cSp m (a + 1) = to
        · simp only [s171_0, s171_1, s171_2, s171_3, s171_5, s171_6, s171_9, s171_12, s171_15, s171_17, s171_18, s171_21, s171_22, s171_23, s171_25, s171_28, s171_31, s171_32, s171_33, s171_35, s171_38, s171_39, s171_42, s171_43, s171_44, s171_47, s171_50, s171_51, s171_54, s171_57, s171_60, s171_62, s171_64, s171_67, s171_68, s171_70, s171_71, s171_74, s171_77, s171_78, s171_80, s171_81, s171_82, s171_85, s171_86, s171_89, s171_91, s171_92, s171_94, s171_95, s171_96, s171_97, s171_98, s171_100, s171_101, s171_103, s171_104, s171_107, s171_110, s171_111, s171_113, s171_114, s171_115, s171_118, s171_119, s171_122, s171_124, s171_125, s171_127, s171_128, s171_129, s171_130, s171_131, s171_133, s171_136, s171_140, s171_141, s171_144, s171_145, s171_147, s171_150, zps_0, zps_1, zps_2, zps_3, zps_9, Option.bind_some, Option.bind_none, Int.reduceEq, Int.reduceNe, Int.reduceLT, Int.reduceLE, Int.reduceNeg, Int.reduceAdd, Int.reduceSub, Int.reduceMul, reduceIte, if_true, if_false, true_and, and_true, false_and, and_false, or_true, true_or, or_false, false_or, not_true_eq_false, not_false_eq_true, ite_not, z_b0, z_b1, z_b01, rWK0 hWK, rWK1 hWK, rWK2 hWK, rWK3 hWK, rWK4 hWK, rWK5 hWK, rWK6 hWK, rWK7 hWK, rWK8 hWK, kWK0, kWK1, kWK2, kWK3, kWK4, kWK5, kWK6, kWK7, kWK8, kWK9, kWK10, kWK11, kWK12, kWK13, kWK14, kWK15, kWK16, R2, SP, z, e, if_true, if_false]
          exact ih _ ⟨by omega, z32_i _ _ _, yset hT hS hH hA (Or.inr rfl) ⟨a0, ha⟩ o e hI2 up⟩
        · simp only [s171_0, s171_1, s171_2, s171_3, s171_5, s171_6, s171_9, s171_12, s171_15, s171_17, s171_18, s171_21, s171_22, s171_23, s171_25, s171_28, s171_31, s171_32, s171_33, s171_35, s171_38, s171_39, s171_42, s171_43, s171_44, s171_47, s171_50, s171_51, s171_54, s171_57, s171_60, s171_62, s171_64, s171_67, s171_68, s171_70, s171_71, s171_74, s171_77, s171_78, s171_80, s171_81, s171_82, s171_85, s171_86, s171_89, s171_91, s171_92, s171_94, s171_95, s171_96, s171_97, s171_98, s171_100, s171_101, s171_103, s171_104, s171_107, s171_110, s171_111, s171_113, s171_114, s171_115, s171_118, s171_119, s171_122, s171_124, s171_125, s171_127, s171_128, s171_129, s171_130, s171_131, s171_133, s171_136, s171_140, s171_141, s171_144, s171_145, s171_147, s171_150, zps_0, zps_1, zps_2, zps_3, zps_9, Option.bind_some, Option.bind_none, Int.reduceEq, Int.reduceNe, Int.reduceLT, Int.reduceLE, Int.reduceNeg, Int.reduceAdd, Int.reduceSub, Int.reduceMul, reduceIte, if_true, if_false, true_and, and_true, false_and, and_false, or_true, true_or, or_false, false_or, not_true_eq_false, not_false_eq_true, ite_not, z_b0, z_b1, z_b01, rWK0 hWK, rWK1 hWK, rWK2 hWK, rWK3 hWK, rWK4 hWK, rWK5 hWK, rWK6 hWK, rWK7 hWK, rWK8 hWK, kWK0, kWK1, kWK2, kWK3, kWK4, kWK5, kWK6, kWK7, kWK8, kWK9, kWK10, kWK11, kWK12, kWK13, kWK14, kWK15, kWK16, R2, SP, z, e, if_true, if_false]
          exact ih _ ⟨by omega, hy2, fun b b0 b1 => (hI2 b b0 b1).trans ((up b).trans ⟨fun h => h.elim id (fun h => absurd h.2.2 e), Or.inl⟩).symm⟩
      · rw [if_neg o] at R2
        simp only [s171_0, s171_1, s171_2, s171_3, s171_5, s171_6, s171_9, s171_12, s171_15, s171_17, s171_18, s171_21, s171_22, s171_23, s171_25, s171_28, s171_31, s171_32, s171_33, s171_35, s171_38, s171_39, s171_42, s171_43, s171_44, s171_47, s171_50, s171_51, s171_54, s171_57, s171_60, s171_62, s171_64, s171_67, s171_68, s171_70, s171_71, s171_74, s171_77, s171_78, s171_80, s171_81, s171_82, s171_85, s171_86, s171_89, s171_91, s171_92, s171_94, s171_95, s171_96, s171_97, s171_98, s171_100, s171_101, s171_103, s171_104, s171_107, s171_110, s171_111, s171_113, s171_114, s171_115, s171_118, s171_119, s171_122, s171_124, s171_125, s171_127, s171_128, s171_129, s171_130, s171_131, s171_133, s171_136, s171_140, s171_141, s171_144, s171_145, s171_147, s171_150, zps_0, zps_1, zps_2, zps_3, zps_9, Option.bind_some, Option.bind_none, Int.reduceEq, Int.reduceNe, Int.reduceLT, Int.reduceLE, Int.reduceNeg, Int.reduceAdd, Int.reduceSub, Int.reduceMul, reduceIte, if_true, if_false, true_and, and_true, false_and, and_false, or_true, true_or, or_false, false_or, not_true_eq_false, not_false_eq_true, ite_not, z_b0, z_b1, z_b01, rWK0 hWK, rWK1 hWK, rWK2 hWK, rWK3 hWK, rWK4 hWK, rWK5 hWK, rWK6 hWK, rWK7 hWK, rWK8 hWK, kWK0, kWK1, kWK2, kWK3, kWK4, kWK5, kWK6, kWK7, kWK8, kWK9, kWK10, kWK11, kWK12, kWK13, kWK14, kWK15, kWK16, R2, z, if_true, if_false]
        exact ih _ ⟨by omega, hy2, fun b b0 b1 => (hI2 b b0 b1).trans ((up b).trans ⟨fun h => h.elim id (fun h => absurd h.1 o), Or.inl⟩).symm⟩
    · rintro y ⟨-, hy, hI⟩
      refine ⟨y, 24, ?_, hy, hI⟩
      rw [s171_53]
      simp only [s171_0, s171_1, s171_2, s171_3, s171_5, s171_6, s171_9, s171_12, s171_15, s171_17, s171_18, s171_21, s171_22, s171_23, s171_25, s171_28, s171_31, s171_32, s171_33, s171_35, s171_38, s171_39, s171_42, s171_43, s171_44, s171_47, s171_50, s171_51, s171_54, s171_57, s171_60, s171_62, s171_64, s171_67, s171_68, s171_70, s171_71, s171_74, s171_77, s171_78, s171_80, s171_81, s171_82, s171_85, s171_86, s171_89, s171_91, s171_92, s171_94, s171_95, s171_96, s171_97, s171_98, s171_100, s171_101, s171_103, s171_104, s171_107, s171_110, s171_111, s171_113, s171_114, s171_115, s171_118, s171_119, s171_122, s171_124, s171_125, s171_127, s171_128, s171_129, s171_130, s171_131, s171_133, s171_136, s171_140, s171_141, s171_144, s171_145, s171_147, s171_150, zps_0, zps_1, zps_2, zps_3, zps_9, Option.bind_some, Option.bind_none, Int.reduceEq, Int.reduceNe, Int.reduceLT, Int.reduceLE, Int.reduceNeg, Int.reduceAdd, Int.reduceSub, Int.reduceMul, reduceIte, if_true, if_false, true_and, and_true, false_and, and_false, or_true, true_or, or_false, false_or, not_true_eq_false, not_false_eq_true, ite_not, z_b0, z_b1, z_b01, rWK0 hWK, rWK1 hWK, rWK2 hWK, rWK3 hWK, rWK4 hWK, rWK5 hWK, rWK6 hWK, rWK7 hWK, rWK8 hWK, kWK0, kWK1, kWK2, kWK3, kWK4, kWK5, kWK6, kWK7, kWK8, kWK9, kWK10, kWK11, kWK12, kWK13, kWK14, kWK15, kWK16, cx, if_true, if_false]
    · rw [ybt_0]
      exact ⟨fun h => (by cases h), fun ⟨a, k, _, _, _⟩ => by omega⟩
theorem tz_goOn (hWK : WK R) (hT : CTr m w D) (hS : wStop w) (hH : HI w H p) (hA : AB H p (m 70 13) (m 70 14)) (to : Int) : ∃ f x : Int, ev 171 0 [(2, 70), (0, p), (0, to), (9, 0), (9, 0), (9, 0)] [] R m = some ((9, 0), R, zAB m f x) ∧ (0 ≤ to → to < 64 → AB (znx w D H to) to f x) := by
  obtain ⟨f, e1, h1⟩ := tz_goOn1 hWK hT hH hA to
  obtain ⟨y, l5, e2, hy, h2⟩ := tz_goOn2 hWK hT hS hH hA to f
  have f01 : f = 0 ∨ f = 1 := h1.elim (fun h => Or.inr h.1) (fun h => Or.inl h.1)
  refine ⟨f, y, ?_, fun t0 t1 => ⟨?_, hy, fun a a0 a1 => ?_, fun a a0 a1 => ?_⟩⟩
  · rw [e1, e2]
    have k : zup (zup m 70 13 f) 70 14 y = zAB m f y := by
      have := zAB_13 m (m 70 13) (m 70 14) f
      rw [zAB_self] at this
      rw [this, zAB_14]
    rw [← k]
    simp only [s171_0, s171_1, s171_2, s171_3, s171_5, s171_6, s171_9, s171_12, s171_15, s171_17, s171_18, s171_21, s171_22, s171_23, s171_25, s171_28, s171_31, s171_32, s171_33, s171_35, s171_38, s171_39, s171_42, s171_43, s171_44, s171_47, s171_50, s171_51, s171_54, s171_57, s171_60, s171_62, s171_64, s171_67, s171_68, s171_70, s171_71, s171_74, s171_77, s171_78, s171_80, s171_81, s171_82, s171_85, s171_86, s171_89, s171_91, s171_92, s171_94, s171_95, s171_96, s171_97, s171_98, s171_100, s171_101, s171_103, s171_104, s171_107, s171_110, s171_111, s171_113, s171_114, s171_115, s171_118, s171_119, s171_122, s171_124, s171_125, s171_127, s171_128, s171_129, s171_130, s171_131, s171_133, s171_136, s171_139, s171_140, s171_141, s171_144, s171_145, s171_147, s171_150, zps_0, zps_1, zps_2, zps_3, zps_9, Option.bind_some, Option.bind_none, Int.reduceEq, Int.reduceNe, Int.reduceLT, Int.reduceLE, Int.reduceNeg, Int.reduceAdd, Int.reduceSub, Int.reduceMul, reduceIte, if_true, if_false, true_and, and_true, false_and, and_false, or_true, true_or, or_false, false_or, not_true_eq_false, not_false_eq_true, ite_not, z_b0, z_b1, z_b01, rWK0 hWK, rWK1 hWK, rWK2 hWK, rWK3 hWK, rWK4 hWK, rWK5 hWK, rWK6 hWK, rWK7 hWK, rWK8 hWK, kWK0, kWK1, kWK2, kWK3, kWK4, kWK5, kWK6, kWK7, kWK8, kWK9, kWK10, kWK11, kWK12, kWK13, kWK14, kWK15, kWK16, f01]
  · have z := znx_lo (w := w) (D := D) hT hH t0 t1
    rcases h1 with ⟨a, b⟩ | ⟨a, b⟩
    · rw [if_pos (z.2 b), a]
    · rw [if_neg (fun q => b (z.1 q)), a]
  · have z := (h2 a a0 (by omega)).trans (znx_hi (q := to) hT hS hH hA a0 a1).symm
    cases e : znx w D H to (64 + a) with
    | true => exact z.2 e
    | false =>
      cases e2 : ybt y a with
      | false => rfl
      | true => rw [z.1 e2] at e; cases e
  · cases e2 : ybt y a with
    | false => rfl
    | true =>
      obtain ⟨b, k, b0, b1, hk, r1, r2, r3⟩ := (h2 a (by omega) a1).1 e2
      have r := ro_r hT hS hH hA hk ⟨b0, b1⟩ r1
      omega
end TRACE4
