/-! the class lays its steps out; plots beside one another -/
theorem zbes_r {w h p d : Int} (hw : 1 ≤ w ∧ w ≤ 8) (hh : 1 ≤ h ∧ h ≤ 8) (hp : 0 ≤ p ∧ p < w * h) : zbes w h p d = -1 ∨ (0 ≤ zbes w h p d ∧ zbes w h p d < w * h ∧ zfar w (zbes w h p d) p = 1) := by
  have : w = 1 ∨ w = 2 ∨ w = 3 ∨ w = 4 ∨ w = 5 ∨ w = 6 ∨ w = 7 ∨ w = 8 := by omega
  unfold zbes zfar zab
  rcases this with rfl | rfl | rfl | rfl | rfl | rfl | rfl | rfl <;> ((repeat' split) <;> omega)
theorem zbes_a {w h p q : Int} (hw : 1 ≤ w ∧ w ≤ 8) (hh : 1 ≤ h ∧ h ≤ 8) (hp : 0 ≤ p ∧ p < w * h) (hq : 0 ≤ q ∧ q < w * h) (hf : zfar w q p = 1) : ∃ d, 0 ≤ d ∧ d < 4 ∧ zbes w h p d = q := by
  have k : q = p - w ∨ q = p - 1 ∨ q = p + 1 ∨ q = p + w := by
    have : w = 1 ∨ w = 2 ∨ w = 3 ∨ w = 4 ∨ w = 5 ∨ w = 6 ∨ w = 7 ∨ w = 8 := by omega
    unfold zfar zab at hf
    rcases this with rfl | rfl | rfl | rfl | rfl | rfl | rfl | rfl <;> ((repeat' split at hf) <;> omega)
  have : w = 1 ∨ w = 2 ∨ w = 3 ∨ w = 4 ∨ w = 5 ∨ w = 6 ∨ w = 7 ∨ w = 8 := by omega
  have z0 : zbes w h p 0 = if 0 < p / w then p - w else -1 := by unfold zbes; rw [if_pos rfl]
  have z1 : zbes w h p 1 = if 0 < p % w then p - 1 else -1 := by unfold zbes; rw [if_neg (by decide), if_pos rfl]
  have z2 : zbes w h p 2 = if p % w < w - 1 then p + 1 else -1 := by unfold zbes; rw [if_neg (by decide), if_neg (by decide), if_pos rfl]
  have z3 : zbes w h p 3 = if p / w < h - 1 then p + w else -1 := by unfold zbes; rw [if_neg (by decide), if_neg (by decide), if_neg (by decide), if_pos rfl]
  have pick : zbes w h p 0 = q ∨ zbes w h p 1 = q ∨ zbes w h p 2 = q ∨ zbes w h p 3 = q := by
    rw [z0, z1, z2, z3]
    unfold zfar zab at hf
    rcases this with rfl | rfl | rfl | rfl | rfl | rfl | rfl | rfl <;> ((repeat' split at hf) <;> ((repeat' split) <;> omega))
  rcases pick with e | e | e | e
  · exact ⟨0, by omega, by omega, e⟩
  · exact ⟨1, by omega, by omega, e⟩
  · exact ⟨2, by omega, by omega, e⟩
  · exact ⟨3, by omega, by omega, e⟩
def cQ (m : zM) (p d : Int) : Int := if 0 ≤ p ∧ p < m 3 2 then zbes (m 3 0) (m 3 1) p d else -1
def cGr (m : zM) (p : Int) : Int := if 0 ≤ p ∧ p < m 3 2 then m 4 p else 1
def cGo (m : zM) (p d : Int) : Bool := decide (0 ≤ cQ m p d ∧ cGr m p ≠ 1 ∧ cGr m (cQ m p d) ≠ 1)
theorem cGo_i (m : zM) (p d : Int) : cGo m p d = true ↔ (0 ≤ cQ m p d ∧ cGr m p ≠ 1 ∧ cGr m (cQ m p d) ≠ 1) := by unfold cGo; exact decide_eq_true_iff
def cBs (m : zM) (p q : Int) : Int := (if m 4 p = 2 ∧ m 4 q = 2 then 1 else 3) + zab (m 5 p - m 5 q)
/-- the steps are laid out for the board -/
def LDr (m : zM) (E B : Int → Int) (p d : Int) : Prop := E (4 * p + d) = (if cGo m p d = true then cQ m p d else -1) ∧ B (4 * p + d) = (if cGo m p d = true then cBs m p (cQ m p d) else 1000000)
def LDok (m : zM) : Prop := ∀ p d, 0 ≤ p → p < 64 → 0 ≤ d → d < 4 → LDr m (m 73) (m 74) p d
section LAYOUT2
variable {R m : zM}
theorem tz_beside2 (hB : BK R 3) (hV : BV m 3) (p d : Int) : ev 31 0 [(2, 3), (0, p), (0, d)] [] R m = some ((0, cQ m p d), R, m) := by
  unfold cQ
  by_cases c : 0 ≤ p ∧ p < m 3 2
  · rw [if_pos c]
    exact tz_beside hB hV c d
  · rw [if_neg c]
    have H := tz_has (m := m) hB p
    obtain ⟨hBK0, hBK1, hBK2, hBK3, hBK4, hBK5, hBK6, hBK7, hBK8, hBK9, hBK10, hBK11, hBK12, hBK13, hBK14, hBK15⟩ := hB
    simp only [s31_0, s31_1, s31_2, s31_5, s31_8, s31_9, s31_10, s31_11, s31_40, s31_41, s31_42, s31_45, s31_48, s31_49, s31_50, s31_53, s31_54, s31_57, s31_58, s31_59, s31_60, s31_61, s31_64, s31_67, s31_68, s31_69, s31_70, s31_73, s31_74, s31_75, s31_76, s31_77, s31_80, s31_81, s31_84, s31_85, s31_86, s31_89, s31_90, s31_91, s31_92, s31_95, s31_96, s31_97, s31_98, s31_99, s31_102, s31_103, s31_106, s31_107, s31_108, s31_111, s31_112, s31_113, s31_116, s31_117, s31_120, s31_121, s31_122, s31_123, zps_0, zps_1, zps_2, zps_3, zps_9, Option.bind_some, Option.bind_none, Int.reduceEq, Int.reduceNe, Int.reduceLT, Int.reduceLE, Int.reduceNeg, Int.reduceAdd, Int.reduceSub, Int.reduceMul, reduceIte, if_true, if_false, true_and, and_true, false_and, and_false, or_true, true_or, or_false, false_or, not_true_eq_false, not_false_eq_true, ite_not, z_b0, z_b1, z_b01, hBK0, hBK1, hBK2, hBK3, hBK4, hBK5, hBK6, hBK7, hBK8, hBK9, hBK10, hBK11, hBK12, hBK13, hBK14, hBK15, H, c, if_true, if_false]
theorem tz_bareStep (hWK : WK R) (hB : BK R 3) (hV : BV m 3) {p q : Int} (hp : 0 ≤ p ∧ p < m 3 2) (hq : 0 ≤ q ∧ q < m 3 2) : ev 155 0 [(2, 70), (0, p), (0, q), (9, 0)] [] R m = some ((0, cBs m p q), R, m) := by
  have G1 := tz_groundOf (m := m) hB hV p
  have G2 := tz_groundOf (m := m) hB hV q
  have H1 := tz_heightOf (m := m) hB hV hp
  have H2 := tz_heightOf (m := m) hB hV hq
  rw [if_pos hp] at G1
  rw [if_pos hq] at G2
  simp only [Int.reduceAdd] at G1 G2 H1 H2
  have h1 := (hV.2.2.2.2.2.2.2 p hp.1 hp.2).2.1
  have h2 := (hV.2.2.2.2.2.2.2 q hq.1 hq.2).2.1
  simp only [Int.reduceAdd] at h1 h2
  have z1 : zw (m 5 p - m 5 q) = m 5 p - m 5 q := zw_i (by omega) (by omega)
  have a1 := zab_w (x := m 5 p - m 5 q) (by omega)
  have z2 : zw (1 + zab (m 5 p - m 5 q)) = 1 + zab (m 5 p - m 5 q) := by unfold zab; split <;> exact zw_i (by omega) (by omega)
  have z3 : zw (3 + zab (m 5 p - m 5 q)) = 3 + zab (m 5 p - m 5 q) := by unfold zab; split <;> exact zw_i (by omega) (by omega)
  have hK3 := hB.1
  unfold cBs
  by_cases r1 : m 4 p = 2
  · by_cases r2 : m 4 q = 2
    · simp only [s155_0, s155_1, s155_4, s155_5, s155_8, s155_9, s155_12, s155_13, s155_16, s155_17, s155_20, s155_21, s155_24, s155_25, s155_28, s155_29, s155_30, s155_31, s155_34, s155_35, s155_38, s155_39, s155_40, s155_43, s155_44, s155_47, s155_48, s155_51, s155_52, s155_55, s155_56, s155_59, s155_60, zps_0, zps_1, zps_2, zps_3, zps_9, Option.bind_some, Option.bind_none, Int.reduceEq, Int.reduceNe, Int.reduceLT, Int.reduceLE, Int.reduceNeg, Int.reduceAdd, Int.reduceSub, Int.reduceMul, reduceIte, if_true, if_false, true_and, and_true, false_and, and_false, or_true, true_or, or_false, false_or, not_true_eq_false, not_false_eq_true, ite_not, z_b0, z_b1, z_b01, rWK0 hWK, rWK1 hWK, rWK2 hWK, rWK3 hWK, rWK4 hWK, rWK5 hWK, rWK6 hWK, rWK7 hWK, rWK8 hWK, kWK0, kWK1, kWK2, kWK3, kWK4, kWK5, kWK6, kWK7, kWK8, kWK9, kWK10, kWK11, kWK12, kWK13, kWK14, kWK15, kWK16, hK3, G1, G2, H1, H2, r1, r2, z1, a1.1, z2, and_self, if_true, if_false]
    · simp only [s155_0, s155_1, s155_4, s155_5, s155_8, s155_9, s155_12, s155_13, s155_16, s155_17, s155_20, s155_21, s155_24, s155_25, s155_28, s155_29, s155_30, s155_31, s155_34, s155_35, s155_38, s155_39, s155_40, s155_43, s155_44, s155_47, s155_48, s155_51, s155_52, s155_55, s155_56, s155_59, s155_60, zps_0, zps_1, zps_2, zps_3, zps_9, Option.bind_some, Option.bind_none, Int.reduceEq, Int.reduceNe, Int.reduceLT, Int.reduceLE, Int.reduceNeg, Int.reduceAdd, Int.reduceSub, Int.reduceMul, reduceIte, if_true, if_false, true_and, and_true, false_and, and_false, or_true, true_or, or_false, false_or, not_true_eq_false, not_false_eq_true, ite_not, z_b0, z_b1, z_b01, rWK0 hWK, rWK1 hWK, rWK2 hWK, rWK3 hWK, rWK4 hWK, rWK5 hWK, rWK6 hWK, rWK7 hWK, rWK8 hWK, kWK0, kWK1, kWK2, kWK3, kWK4, kWK5, kWK6, kWK7, kWK8, kWK9, kWK10, kWK11, kWK12, kWK13, kWK14, kWK15, kWK16, hK3, G1, G2, H1, H2, r1, r2, z1, a1.1, z3, and_false, if_true, if_false]
  · simp only [s155_0, s155_1, s155_4, s155_5, s155_8, s155_9, s155_12, s155_13, s155_16, s155_17, s155_20, s155_21, s155_24, s155_25, s155_28, s155_29, s155_30, s155_31, s155_34, s155_35, s155_38, s155_39, s155_40, s155_43, s155_44, s155_47, s155_48, s155_51, s155_52, s155_55, s155_56, s155_59, s155_60, zps_0, zps_1, zps_2, zps_3, zps_9, Option.bind_some, Option.bind_none, Int.reduceEq, Int.reduceNe, Int.reduceLT, Int.reduceLE, Int.reduceNeg, Int.reduceAdd, Int.reduceSub, Int.reduceMul, reduceIte, if_true, if_false, true_and, and_true, false_and, and_false, or_true, true_or, or_false, false_or, not_true_eq_false, not_false_eq_true, ite_not, z_b0, z_b1, z_b01, rWK0 hWK, rWK1 hWK, rWK2 hWK, rWK3 hWK, rWK4 hWK, rWK5 hWK, rWK6 hWK, rWK7 hWK, rWK8 hWK, kWK0, kWK1, kWK2, kWK3, kWK4, kWK5, kWK6, kWK7, kWK8, kWK9, kWK10, kWK11, kWK12, kWK13, kWK14, kWK15, kWK16, hK3, G1, G2, H1, H2, r1, z1, a1.1, z3, false_and, if_true, if_false]
theorem cQ_r (hV : BV m 3) {p d : Int} (h : 0 ≤ cQ m p d) : (0 ≤ p ∧ p < m 3 2) ∧ cQ m p d < m 3 2 ∧ zfar (m 3 0) (cQ m p d) p = 1 := by
  unfold cQ at *
  by_cases c : 0 ≤ p ∧ p < m 3 2
  · rw [if_pos c] at h ⊢
    have e := hV.2.2.2.2.1
    have := zbes_r (d := d) ⟨hV.1, hV.2.1⟩ ⟨hV.2.2.1, hV.2.2.2.1⟩ (by rw [← e]; exact c)
    rw [← e] at this
    rcases this with q | q
    · omega
    · exact ⟨c, q.2⟩
  · rw [if_neg c] at h; omega
/-- the class lays its steps out, if need be -/
def zLM (m : zM) (E B : Int → Int) : zM := zpr (zpr (zpr m 70 (zrw (m 70) 7 (m 3 3))) 73 E) 74 B
theorem tz_layOut (hWK : WK R) (hB : BK R 3) (hV : BV m 3) (hL : m 70 7 = m 3 3 → LDok m) : ∃ m' : zM, ev 154 0 [(2, 70), (9, 0), (9, 0), (9, 0), (9, 0)] [] R m = some ((9, 0), R, m') ∧ LDok m' ∧ m' 70 7 = m 3 3 ∧ (∀ b, b ≠ 70 → b ≠ 73 → b ≠ 74 → m' b = m b) ∧ ∀ k, k ≠ 7 → m' 70 k = m 70 k := by
  have hK3 := hB.1
  by_cases c : m 70 7 = m 3 3
  · refine ⟨m, ?_, hL c, c, fun _ _ _ _ => rfl, fun _ _ => rfl⟩
    simp only [s154_0, s154_1, s154_4, s154_5, s154_8, s154_11, s154_14, s154_15, s154_16, s154_17, s154_20, s154_23, s154_26, s154_27, s154_29, s154_31, s154_34, s154_35, s154_37, s154_38, s154_41, s154_42, s154_45, s154_46, s154_47, s154_50, s154_51, s154_52, s154_55, s154_56, s154_59, s154_60, s154_63, s154_64, s154_67, s154_68, s154_71, s154_72, s154_75, s154_76, s154_79, s154_80, s154_83, s154_84, s154_86, s154_87, s154_90, s154_91, s154_92, s154_93, s154_94, s154_95, s154_97, s154_100, s154_101, s154_104, s154_105, s154_106, s154_107, s154_110, s154_111, s154_112, s154_113, s154_114, s154_115, s154_117, s154_120, s154_121, s154_122, s154_123, s154_126, s154_129, s154_131, s154_132, s154_135, s154_138, s154_141, s154_144, zps_0, zps_1, zps_2, zps_3, zps_9, Option.bind_some, Option.bind_none, Int.reduceEq, Int.reduceNe, Int.reduceLT, Int.reduceLE, Int.reduceNeg, Int.reduceAdd, Int.reduceSub, Int.reduceMul, reduceIte, if_true, if_false, true_and, and_true, false_and, and_false, or_true, true_or, or_false, false_or, not_true_eq_false, not_false_eq_true, ite_not, z_b0, z_b1, z_b01, rWK0 hWK, rWK1 hWK, rWK2 hWK, rWK3 hWK, rWK4 hWK, rWK5 hWK, rWK6 hWK, rWK7 hWK, rWK8 hWK, kWK0, kWK1, kWK2, kWK3, kWK4, kWK5, kWK6, kWK7, kWK8, kWK9, kWK10, kWK11, kWK12, kWK13, kWK14, kWK15, kWK16, hK3, c, if_true]
  · have n3 : ∀ E B, zLM m E B 3 = m 3 := fun E B => by unfold zLM; simp (disch := decide) only [zpr_ne]
    have n4 : ∀ E B, zLM m E B 4 = m 4 := fun E B => by unfold zLM; simp (disch := decide) only [zpr_ne]
    have n5 : ∀ E B, zLM m E B 5 = m 5 := fun E B => by unfold zLM; simp (disch := decide) only [zpr_ne]
    have n6 : ∀ E B, zLM m E B 6 = m 6 := fun E B => by unfold zLM; simp (disch := decide) only [zpr_ne]
    have n73 : ∀ E B, zLM m E B 73 = E := fun E B => by unfold zLM; simp (disch := decide) only [zpr_ne, zpr_at]
    have n74 : ∀ E B, zLM m E B 74 = B := fun E B => by unfold zLM; rw [zpr_at]
    have p73 : ∀ E B X, zpr (zLM m E B) 73 X = zLM m X B := by
      intro E B X
      unfold zLM
      funext q
      by_cases q1 : q = 73
      · subst q1; rw [zpr_at, zpr_ne (by decide), zpr_at]
      · rw [zpr_ne q1]
        by_cases q2 : q = 74
        · subst q2; rw [zpr_at, zpr_at]
        · rw [zpr_ne q2, zpr_ne q2, zpr_ne q1, zpr_ne q1]
    have p74 : ∀ E B X, zpr (zLM m E B) 74 X = zLM m E X := fun E B X => by unfold zLM; rw [zpr_zpr]
    have hV' : ∀ E B, BV (zLM m E B) 3 := fun E B => by
      unfold BV at *
      simp only [Int.reduceAdd] at *
      rw [n3, n4, n5, n6]
      exact hV
    have cq : ∀ E B p d, cQ (zLM m E B) p d = cQ m p d := fun E B p d => by unfold cQ; rw [n3]
    have cb : ∀ E B p q, cBs (zLM m E B) p q = cBs m p q := fun E B p q => by unfold cBs; rw [n4, n5]
    have cg : ∀ E B p, cGr (zLM m E B) p = cGr m p := fun E B p => by unfold cGr; rw [n3, n4]
    have BE : ∀ E B p d, ev 31 0 [(2, 3), (0, p), (0, d)] [] R (zLM m E B) = some ((0, cQ m p d), R, zLM m E B) := fun E B p d => by rw [tz_beside2 hB (hV' E B), cq]
    have GR : ∀ E B p, ev 24 0 [(2, 3), (0, p)] [] R (zLM m E B) = some ((0, cGr m p), R, zLM m E B) := fun E B p => by
      rw [tz_groundOf hB (hV' E B)]
      simp only [Int.reduceAdd, n3, n4]
      rfl
    have st : ∀ (E B : Int → Int) (p d : Int) (l3 l4 : zV), 0 ≤ p → p < 64 → 0 ≤ d → d < 4 → ∃ l3' l4' : zV, ev 154 36 [(2, 70), (0, p), (0, d), l3, l4] [] R (zLM m E B) = ev 154 36 [(2, 70), (0, p), (0, d + 1), l3', l4'] [] R (zLM m (zrw E (4 * p + d) (if cGo m p d = true then cQ m p d else -1)) (zrw B (4 * p + d) (if cGo m p d = true then cBs m p (cQ m p d) else 1000000))) := by
      intro E B p d l3 l4 p0 p1 d0 d1
      have z1 : zw (p * 4) = p * 4 := zw_i (by omega) (by omega)
      have z2 : zw (p * 4 + d) = 4 * p + d := by rw [zw_i (by omega) (by omega)]; omega
      have z3 : zw (d + 1) = d + 1 := zw_i (by omega) (by omega)
      have c1 : ¬ 4 ≤ d := by omega
      have c2 : 0 ≤ 4 * p + d ∧ 4 * p + d < 256 := by omega
      rw [s154_36]
      by_cases g : cGo m p d = true
      · rw [if_pos g, if_pos g]
        obtain ⟨g1, g2, g3⟩ := (cGo_i m p d).1 g
        have g1' : ¬ cQ m p d < 0 := by omega
        obtain ⟨r1, r2, -⟩ := cQ_r hV g1
        have BS : ∀ E B, ev 155 0 [(2, 70), (0, p), (0, cQ m p d), (9, 0)] [] R (zLM m E B) = some ((0, cBs m p (cQ m p d)), R, zLM m E B) := fun E B => by
          rw [tz_bareStep hWK hB (hV' E B) (by rw [n3]; exact r1) (by rw [n3]; exact ⟨g1, r2⟩), cb]
        refine ⟨(0, cQ m p d), (0, 1), ?_⟩
        simp only [s154_0, s154_1, s154_4, s154_5, s154_8, s154_11, s154_14, s154_15, s154_16, s154_17, s154_20, s154_23, s154_26, s154_27, s154_29, s154_31, s154_34, s154_35, s154_37, s154_38, s154_41, s154_42, s154_45, s154_46, s154_47, s154_50, s154_51, s154_52, s154_55, s154_56, s154_59, s154_60, s154_63, s154_64, s154_67, s154_68, s154_71, s154_72, s154_75, s154_76, s154_79, s154_80, s154_83, s154_84, s154_86, s154_87, s154_90, s154_91, s154_92, s154_93, s154_94, s154_95, s154_97, s154_100, s154_101, s154_104, s154_105, s154_106, s154_107, s154_110, s154_111, s154_112, s154_113, s154_114, s154_115, s154_117, s154_120, s154_121, s154_122, s154_123, s154_126, s154_129, s154_131, s154_132, s154_135, s154_138, s154_141, s154_144, zps_0, zps_1, zps_2, zps_3, zps_9, Option.bind_some, Option.bind_none, Int.reduceEq, Int.reduceNe, Int.reduceLT, Int.reduceLE, Int.reduceNeg, Int.reduceAdd, Int.reduceSub, Int.reduceMul, reduceIte, if_true, if_false, true_and, and_true, false_and, and_false, or_true, true_or, or_false, false_or, not_true_eq_false, not_false_eq_true, ite_not, z_b0, z_b1, z_b01, rWK0 hWK, rWK1 hWK, rWK2 hWK, rWK3 hWK, rWK4 hWK, rWK5 hWK, rWK6 hWK, rWK7 hWK, rWK8 hWK, kWK0, kWK1, kWK2, kWK3, kWK4, kWK5, kWK6, kWK7, kWK8, kWK9, kWK10, kWK11, kWK12, kWK13, kWK14, kWK15, kWK16, hK3, d1, c1, BE, GR, g1, g1', g2, g3, z1, z2, z3, c2, n73, n74, and_self, if_true, if_false, zup_zpr, p73, p74, BS]
      · rw [if_neg g, if_neg g]
        refine ⟨(0, cQ m p d), (0, 0), ?_⟩
        by_cases g1 : 0 ≤ cQ m p d
        · have g1' : ¬ cQ m p d < 0 := by omega
          by_cases g2 : cGr m p = 1
          · simp only [s154_0, s154_1, s154_4, s154_5, s154_8, s154_11, s154_14, s154_15, s154_16, s154_17, s154_20, s154_23, s154_26, s154_27, s154_29, s154_31, s154_34, s154_35, s154_37, s154_38, s154_41, s154_42, s154_45, s154_46, s154_47, s154_50, s154_51, s154_52, s154_55, s154_56, s154_59, s154_60, s154_63, s154_64, s154_67, s154_68, s154_71, s154_72, s154_75, s154_76, s154_79, s154_80, s154_83, s154_84, s154_86, s154_87, s154_90, s154_91, s154_92, s154_93, s154_94, s154_95, s154_97, s154_100, s154_101, s154_104, s154_105, s154_106, s154_107, s154_110, s154_111, s154_112, s154_113, s154_114, s154_115, s154_117, s154_120, s154_121, s154_122, s154_123, s154_126, s154_129, s154_131, s154_132, s154_135, s154_138, s154_141, s154_144, zps_0, zps_1, zps_2, zps_3, zps_9, Option.bind_some, Option.bind_none, Int.reduceEq, Int.reduceNe, Int.reduceLT, Int.reduceLE, Int.reduceNeg, Int.reduceAdd, Int.reduceSub, Int.reduceMul, reduceIte, if_true, if_false, true_and, and_true, false_and, and_false, or_true, true_or, or_false, false_or, not_true_eq_false, not_false_eq_true, ite_not, z_b0, z_b1, z_b01, rWK0 hWK, rWK1 hWK, rWK2 hWK, rWK3 hWK, rWK4 hWK, rWK5 hWK, rWK6 hWK, rWK7 hWK, rWK8 hWK, kWK0, kWK1, kWK2, kWK3, kWK4, kWK5, kWK6, kWK7, kWK8, kWK9, kWK10, kWK11, kWK12, kWK13, kWK14, kWK15, kWK16, hK3, d1, c1, BE, GR, g1, g1', g2, z1, z2, z3, c2, n73, n74, and_self, if_true, if_false, zup_zpr, p73, p74]
          · have g3 : cGr m (cQ m p d) = 1 := by
              by_cases g3 : cGr m (cQ m p d) = 1
              · exact g3
              · exact absurd ((cGo_i m p d).2 ⟨g1, g2, g3⟩) g
            simp only [s154_0, s154_1, s154_4, s154_5, s154_8, s154_11, s154_14, s154_15, s154_16, s154_17, s154_20, s154_23, s154_26, s154_27, s154_29, s154_31, s154_34, s154_35, s154_37, s154_38, s154_41, s154_42, s154_45, s154_46, s154_47, s154_50, s154_51, s154_52, s154_55, s154_56, s154_59, s154_60, s154_63, s154_64, s154_67, s154_68, s154_71, s154_72, s154_75, s154_76, s154_79, s154_80, s154_83, s154_84, s154_86, s154_87, s154_90, s154_91, s154_92, s154_93, s154_94, s154_95, s154_97, s154_100, s154_101, s154_104, s154_105, s154_106, s154_107, s154_110, s154_111, s154_112, s154_113, s154_114, s154_115, s154_117, s154_120, s154_121, s154_122, s154_123, s154_126, s154_129, s154_131, s154_132, s154_135, s154_138, s154_141, s154_144, zps_0, zps_1, zps_2, zps_3, zps_9, Option.bind_some, Option.bind_none, Int.reduceEq, Int.reduceNe, Int.reduceLT, Int.reduceLE, Int.reduceNeg, Int.reduceAdd, Int.reduceSub, Int.reduceMul, reduceIte, if_true, if_false, true_and, and_true, false_and, and_false, or_true, true_or, or_false, false_or, not_true_eq_false, not_false_eq_true, ite_not, z_b0, z_b1, z_b01, rWK0 hWK, rWK1 hWK, rWK2 hWK, rWK3 hWK, rWK4 hWK, rWK5 hWK, rWK6 hWK, rWK7 hWK, rWK8 hWK, kWK0, kWK1, kWK2, kWK3, kWK4, kWK5, kWK6, kWK7, kWK8, kWK9, kWK10, kWK11, kWK12, kWK13, kWK14, kWK15, kWK16, hK3, d1, c1, BE, GR, g1, g1', g2, g3, z1, z2, z3, c2, n73, n74, and_self, if_true, if_false, zup_zpr, p73, p74]
        · have g1' : cQ m p d < 0 := by omega
          simp only [s154_0, s154_1, s154_4, s154_5, s154_8, s154_11, s154_14, s154_15, s154_16, s154_17, s154_20, s154_23, s154_26, s154_27, s154_29, s154_31, s154_34, s154_35, s154_37, s154_38, s154_41, s154_42, s154_45, s154_46, s154_47, s154_50, s154_51, s154_52, s154_55, s154_56, s154_59, s154_60, s154_63, s154_64, s154_67, s154_68, s154_71, s154_72, s154_75, s154_76, s154_79, s154_80, s154_83, s154_84, s154_86, s154_87, s154_90, s154_91, s154_92, s154_93, s154_94, s154_95, s154_97, s154_100, s154_101, s154_104, s154_105, s154_106, s154_107, s154_110, s154_111, s154_112, s154_113, s154_114, s154_115, s154_117, s154_120, s154_121, s154_122, s154_123, s154_126, s154_129, s154_131, s154_132, s154_135, s154_138, s154_141, s154_144, zps_0, zps_1, zps_2, zps_3, zps_9, Option.bind_some, Option.bind_none, Int.reduceEq, Int.reduceNe, Int.reduceLT, Int.reduceLE, Int.reduceNeg, Int.reduceAdd, Int.reduceSub, Int.reduceMul, reduceIte, if_true, if_false, true_and, and_true, false_and, and_false, or_true, true_or, or_false, false_or, not_true_eq_false, not_false_eq_true, ite_not, z_b0, z_b1, z_b01, rWK0 hWK, rWK1 hWK, rWK2 hWK, rWK3 hWK, rWK4 hWK, rWK5 hWK, rWK6 hWK, rWK7 hWK, rWK8 hWK, kWK0, kWK1, kWK2, kWK3, kWK4, kWK5, kWK6, kWK7, kWK8, kWK9, kWK10, kWK11, kWK12, kWK13, kWK14, kWK15, kWK16, hK3, d1, c1, BE, GR, g1, g1', z1, z2, z3, c2, n73, n74, and_self, if_true, if_false, zup_zpr, p73, p74]
    have L0 : ev 154 0 [(2, 70), (9, 0), (9, 0), (9, 0), (9, 0)] [] R m = ev 154 28 [(2, 70), (0, 0), (9, 0), (9, 0), (9, 0)] [] R (zLM m (m 73) (m 74)) := by
      have : zLM m (m 73) (m 74) = zpr m 70 (zrw (m 70) 7 (m 3 3)) := by
        unfold zLM
        rw [show m 73 = zpr m 70 (zrw (m 70) 7 (m 3 3)) 73 from (zpr_ne (by decide)).symm, zpr_self, show m 74 = zpr m 70 (zrw (m 70) 7 (m 3 3)) 74 from (zpr_ne (by decide)).symm, zpr_self]
      rw [this]
      simp only [s154_0, s154_1, s154_4, s154_5, s154_8, s154_11, s154_14, s154_15, s154_16, s154_17, s154_20, s154_23, s154_26, s154_27, s154_29, s154_31, s154_34, s154_35, s154_37, s154_38, s154_41, s154_42, s154_45, s154_46, s154_47, s154_50, s154_51, s154_52, s154_55, s154_56, s154_59, s154_60, s154_63, s154_64, s154_67, s154_68, s154_71, s154_72, s154_75, s154_76, s154_79, s154_80, s154_83, s154_84, s154_86, s154_87, s154_90, s154_91, s154_92, s154_93, s154_94, s154_95, s154_97, s154_100, s154_101, s154_104, s154_105, s154_106, s154_107, s154_110, s154_111, s154_112, s154_113, s154_114, s154_115, s154_117, s154_120, s154_121, s154_122, s154_123, s154_126, s154_129, s154_131, s154_132, s154_135, s154_138, s154_141, s154_144, zps_0, zps_1, zps_2, zps_3, zps_9, Option.bind_some, Option.bind_none, Int.reduceEq, Int.reduceNe, Int.reduceLT, Int.reduceLE, Int.reduceNeg, Int.reduceAdd, Int.reduceSub, Int.reduceMul, reduceIte, if_true, if_false, true_and, and_true, false_and, and_false, or_true, true_or, or_false, false_or, not_true_eq_false, not_false_eq_true, ite_not, z_b0, z_b1, z_b01, rWK0 hWK, rWK1 hWK, rWK2 hWK, rWK3 hWK, rWK4 hWK, rWK5 hWK, rWK6 hWK, rWK7 hWK, rWK8 hWK, kWK0, kWK1, kWK2, kWK3, kWK4, kWK5, kWK6, kWK7, kWK8, kWK9, kWK10, kWK11, kWK12, kWK13, kWK14, kWK15, kWK16, hK3, c, if_false, zup_zpr]
    rw [L0]
    refine zloop (fun r => ∃ m' : zM, r = some ((9, 0), R, m') ∧ LDok m' ∧ m' 70 7 = m 3 3 ∧ (∀ b, b ≠ 70 → b ≠ 73 → b ≠ 74 → m' b = m b) ∧ ∀ k, k ≠ 7 → m' 70 k = m 70 k) (fun p (x : (Int → Int) × (Int → Int) × zV × zV × zV) => ev 154 28 [(2, 70), (0, p), x.2.2.1, x.2.2.2.1, x.2.2.2.2] [] R (zLM m x.1 x.2.1)) 64 (fun p x => 0 ≤ p ∧ ∀ q d, 0 ≤ q → q < p → 0 ≤ d → d < 4 → LDr m x.1 x.2.1 q d) ?_ ?_ 0 (m 73, m 74, (9, 0), (9, 0), (9, 0)) (by omega) ⟨by omega, fun q d a b => by omega⟩
    · rintro p ⟨E, B, l2, l3, l4⟩ hp ⟨p0, hI⟩ ih
      dsimp only at hI ih ⊢
      have c1 : ¬ 64 ≤ p := by omega
      have zp : zw (p + 1) = p + 1 := zw_i (by omega) (by omega)
      have L1 : ev 154 28 [(2, 70), (0, p), l2, l3, l4] [] R (zLM m E B) = ev 154 36 [(2, 70), (0, p), (0, 0), l3, l4] [] R (zLM m E B) := by
        rw [s154_28]
        simp only [s154_0, s154_1, s154_4, s154_5, s154_8, s154_11, s154_14, s154_15, s154_16, s154_17, s154_20, s154_23, s154_26, s154_27, s154_29, s154_31, s154_34, s154_35, s154_37, s154_38, s154_41, s154_42, s154_45, s154_46, s154_47, s154_50, s154_51, s154_52, s154_55, s154_56, s154_59, s154_60, s154_63, s154_64, s154_67, s154_68, s154_71, s154_72, s154_75, s154_76, s154_79, s154_80, s154_83, s154_84, s154_86, s154_87, s154_90, s154_91, s154_92, s154_93, s154_94, s154_95, s154_97, s154_100, s154_101, s154_104, s154_105, s154_106, s154_107, s154_110, s154_111, s154_112, s154_113, s154_114, s154_115, s154_117, s154_120, s154_121, s154_122, s154_123, s154_126, s154_129, s154_131, s154_132, s154_135, s154_138, s154_141, s154_144, zps_0, zps_1, zps_2, zps_3, zps_9, Option.bind_some, Option.bind_none, Int.reduceEq, Int.reduceNe, Int.reduceLT, Int.reduceLE, Int.reduceNeg, Int.reduceAdd, Int.reduceSub, Int.reduceMul, reduceIte, if_true, if_false, true_and, and_true, false_and, and_false, or_true, true_or, or_false, false_or, not_true_eq_false, not_false_eq_true, ite_not, z_b0, z_b1, z_b01, hp, c1, if_true, if_false]
      rw [L1]
      refine zloop (fun r => ∃ m' : zM, r = some ((9, 0), R, m') ∧ LDok m' ∧ m' 70 7 = m 3 3 ∧ (∀ b, b ≠ 70 → b ≠ 73 → b ≠ 74 → m' b = m b) ∧ ∀ k, k ≠ 7 → m' 70 k = m 70 k) (fun d (x : (Int → Int) × (Int → Int) × zV × zV) => ev 154 36 [(2, 70), (0, p), (0, d), x.2.2.1, x.2.2.2] [] R (zLM m x.1 x.2.1)) 4 (fun d x => 0 ≤ d ∧ (∀ q d, 0 ≤ q → q < p → 0 ≤ d → d < 4 → LDr m x.1 x.2.1 q d) ∧ ∀ e, 0 ≤ e → e < d → LDr m x.1 x.2.1 p e) ?_ ?_ 0 (E, B, l3, l4) (by omega) ⟨by omega, hI, fun e a b => by omega⟩
      · rintro d ⟨E, B, l3, l4⟩ hd ⟨d0, h1, h2⟩ ih2
        dsimp only at h1 h2 ih2 ⊢
        obtain ⟨l3', l4', e1⟩ := st E B p d l3 l4 p0 hp d0 hd
        rw [e1]
        generalize hE : zrw E (4 * p + d) _ = E'
        generalize hBB : zrw B (4 * p + d) _ = B'
        refine ih2 (E', B', l3', l4') ⟨by omega, fun q e q0 q1 e0 e1 => ?_, fun e e0 e1 => ?_⟩
        · have h := h1 q e q0 q1 e0 e1
          show LDr m E' B' q e
          unfold LDr at h ⊢
          rw [← hE, ← hBB, zrw_ne (by omega), zrw_ne (by omega)]
          exact h
        · show LDr m E' B' p e
          unfold LDr
          rw [← hE, ← hBB]
          by_cases q : e = d
          · subst q
            rw [zrw_at, zrw_at]
            exact ⟨rfl, rfl⟩
          · rw [zrw_ne (by omega), zrw_ne (by omega)]
            exact h2 e e0 (by omega)
      · rintro ⟨E, B, l3, l4⟩ ⟨-, h1, h2⟩
        dsimp only at h1 h2 ⊢
        have L2 : ev 154 36 [(2, 70), (0, p), (0, 4), l3, l4] [] R (zLM m E B) = ev 154 28 [(2, 70), (0, p + 1), (0, 4), l3, l4] [] R (zLM m E B) := by
          rw [s154_36]
          simp only [s154_0, s154_1, s154_4, s154_5, s154_8, s154_11, s154_14, s154_15, s154_16, s154_17, s154_20, s154_23, s154_26, s154_27, s154_29, s154_31, s154_34, s154_35, s154_37, s154_38, s154_41, s154_42, s154_45, s154_46, s154_47, s154_50, s154_51, s154_52, s154_55, s154_56, s154_59, s154_60, s154_63, s154_64, s154_67, s154_68, s154_71, s154_72, s154_75, s154_76, s154_79, s154_80, s154_83, s154_84, s154_86, s154_87, s154_90, s154_91, s154_92, s154_93, s154_94, s154_95, s154_97, s154_100, s154_101, s154_104, s154_105, s154_106, s154_107, s154_110, s154_111, s154_112, s154_113, s154_114, s154_115, s154_117, s154_120, s154_121, s154_122, s154_123, s154_126, s154_129, s154_131, s154_132, s154_135, s154_138, s154_141, s154_144, zps_0, zps_1, zps_2, zps_3, zps_9, Option.bind_some, Option.bind_none, Int.reduceEq, Int.reduceNe, Int.reduceLT, Int.reduceLE, Int.reduceNeg, Int.reduceAdd, Int.reduceSub, Int.reduceMul, reduceIte, if_true, if_false, true_and, and_true, false_and, and_false, or_true, true_or, or_false, false_or, not_true_eq_false, not_false_eq_true, ite_not, z_b0, z_b1, z_b01, if_true, zp]
        rw [L2]
        refine ih (E, B, (0, 4), l3, l4) ⟨by omega, fun q d q0 q1 d0 d1 => ?_⟩
        by_cases e : q = p
        · rw [e]; exact h2 d d0 d1
        · exact h1 q d q0 (by omega) d0 d1
    · rintro ⟨E, B, l2, l3, l4⟩ ⟨-, hI⟩
      dsimp only at hI ⊢
      refine ⟨zLM m E B, ?_, ?_, ?_, ?_, ?_⟩
      · rw [s154_28]
        simp only [s154_0, s154_1, s154_4, s154_5, s154_8, s154_11, s154_14, s154_15, s154_16, s154_17, s154_20, s154_23, s154_26, s154_27, s154_29, s154_31, s154_34, s154_35, s154_37, s154_38, s154_41, s154_42, s154_45, s154_46, s154_47, s154_50, s154_51, s154_52, s154_55, s154_56, s154_59, s154_60, s154_63, s154_64, s154_67, s154_68, s154_71, s154_72, s154_75, s154_76, s154_79, s154_80, s154_83, s154_84, s154_86, s154_87, s154_90, s154_91, s154_92, s154_93, s154_94, s154_95, s154_97, s154_100, s154_101, s154_104, s154_105, s154_106, s154_107, s154_110, s154_111, s154_112, s154_113, s154_114, s154_115, s154_117, s154_120, s154_121, s154_122, s154_123, s154_126, s154_129, s154_131, s154_132, s154_135, s154_138, s154_141, s154_144, zps_0, zps_1, zps_2, zps_3, zps_9, Option.bind_some, Option.bind_none, Int.reduceEq, Int.reduceNe, Int.reduceLT, Int.reduceLE, Int.reduceNeg, Int.reduceAdd, Int.reduceSub, Int.reduceMul, reduceIte, if_true, if_false, true_and, and_true, false_and, and_false, or_true, true_or, or_false, false_or, not_true_eq_false, not_false_eq_true, ite_not, z_b0, z_b1, z_b01, if_true]
      · intro p d p0 p1 d0 d1
        have := hI p d p0 p1 d0 d1
        unfold LDr cGo at *
        rw [n73, n74]
        simp only [cq, cb, cg]
        exact this
      · unfold zLM; simp (disch := decide) only [zpr_ne, zpr_at, zrw_at]
      · intro b b0 b1 b2; unfold zLM; rw [zpr_ne b2, zpr_ne b1, zpr_ne b0]
      · intro k k7; unfold zLM; simp (disch := decide) only [zpr_ne, zpr_at]; rw [zrw_ne k7]
end LAYOUT2
