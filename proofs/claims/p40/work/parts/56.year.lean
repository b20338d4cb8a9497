/-! a year goes: the class's -/
def zwts (m : zM) (t s : Int) : Bool := zwai m (t + 9) s (m t 3)
def zcas (m : zM) (t s p : Int) : Bool := zmys m t p (m (t + 10) s)
def zvas (m : zM) (t s p : Int) : Int := zwor m t p (m (t + 10) s) + m (t + 12) s * m (t + 3) p
def SQ (m : zM) (t : Int) : Prop := (0 ≤ m (t + 9) 0 ∧ m (t + 9) 0 ≤ 20) ∧ ∀ s, 0 ≤ s → s < m (t + 9) 0 → (1 ≤ m (t + 10) s ∧ m (t + 10) s ≤ 3) ∧ (1 ≤ m (t + 11) s ∧ m (t + 11) s ≤ 999) ∧ (-9 ≤ m (t + 12) s ∧ m (t + 12) s ≤ 9) ∧ (m (t + 14) s = -4 ∨ (0 ≤ m (t + 14) s ∧ m (t + 14) s < m (t + 1) 2))
def gU1 (m : zM) (t : Int) (Q : zP) (p : Int) : Int := if 0 ≤ Q.2.2 p then m (t + 10) (Q.2.2 p) else m (t + 4) p
def gP1 (m : zM) (t : Int) (Q : zP) (s : Int) : Int := if 0 ≤ Q.1 s then Q.1 s else m (t + 14) s
def gW (m : zM) (t : Int) (Q : zP) (s : Int) : Int := zworth (m (t + 1) 2) (m (t + 1) 0) (m (t + 7) 0) (m t 3) (m (t + 2)) (gU1 m t Q) (m (t + 8)) (gP1 m t Q s) (m (t + 10) s)
def gLv (m : zM) (t : Int) (Q : zP) (s : Int) : Bool := decide (gP1 m t Q s ≠ -4 ∧ 0 ≤ zlim m t s ∧ gW m t Q s < zlim m t s)
def gU2 (m : zM) (t : Int) (Q : zP) (p : Int) : Int := if zany (fun s => gLv m t Q s && decide (gP1 m t Q s = p)) (m (t + 9) 0).toNat = true then 0 else gU1 m t Q p
def gTx (m : zM) (t : Int) (Q : zP) : Int := zsum (fun s => if gP1 m t Q s = -4 then 0 else ztax (znum (m (t + 8)) 2 (m (t + 10) s) (m t 3) (m (t + 7) 0).toNat).1 (gW m t Q s)) (m (t + 9) 0).toNat
def gUs (m : zM) (t : Int) (Q : zP) : Int := zuses (m (t + 1) 2) (gU2 m t Q) 1 + zuses (m (t + 1) 2) (gU2 m t Q) 2 + zuses (m (t + 1) 2) (gU2 m t Q) 3
theorem zuses_congr {n : Int} {U U' : Int → Int} (h : ∀ q, 0 ≤ q → q < n → U q = U' q) (u : Int) : zuses n U u = zuses n U' u := by
  unfold zuses
  apply zcnt_congr
  intro q h1 h2
  rw [h q h1 (by omega)]
section YEAR
variable {t : Int} {R m : zM}
theorem tz_see2 (hB : TK R t) (hG : TG m t) (hQ : SQ m t) : ∃ m1 : zM, ev 121 0 [(2, t), (9, 0), (9, 0)] [] R m = some ((9, 0), R, m1) ∧ zfr [t + 22, t + 23, t + 24] m m1 ∧ SIn m1 (t + 9) (m (t + 1) 2) (m (t + 9) 0) (m t 3) (zwts m t) (zcas m t) (m (t + 11)) (zvas m t) := by
  obtain ⟨m1, h1, h2, h3⟩ := tz_showPlots (m := m) hB hG hQ.1
  refine ⟨m1, h1, h2, ?_⟩
  have h64 := hG.1.2.2.2.2.2.1
  have hn1 := hG.1.2.2.2.2.2.2.1
  have row : ∀ a, a < t + 22 ∨ t + 24 < a → m1 a = m a := fun a ha => h2 a (by
    simp only [List.mem_cons, List.not_mem_nil, or_false, not_or]
    omega)
  unfold SIn zwai zval2
  simp only [tn_1_1, tn_1_2, tn_1_3, tn_1_4, tn_1_5, tn_7_1, tn_9_1, tn_9_2, tn_9_3, tn_9_4, tn_9_5, tn_9_6, tn_9_7, tn_9_8, tn_9_9, tn_9_10, tn_9_11, tn_9_12, tn_9_13, tn_9_14, tn_9_15]
  rw [row (t + 9) (by omega), row (t + 10) (by omega), row (t + 11) (by omega), row (t + 12) (by omega), row (t + 13) (by omega), row (t + 14) (by omega), row (t + 15) (by omega)]
  refine ⟨rfl, hQ.1, ⟨by omega, h64⟩, fun s s0 s1 => ?_⟩
  have hq := hQ.2 s s0 s1
  refine ⟨hq.1, hq.2.1, hq.2.2.1, ?_, rfl, fun hw p p0 p1 => ?_⟩
  · unfold zwts zwai
    simp only [tn_1_1, tn_1_2, tn_1_3, tn_1_4, tn_1_5, tn_7_1, tn_9_1, tn_9_2, tn_9_3, tn_9_4, tn_9_5, tn_9_6, tn_9_7, tn_9_8, tn_9_9, tn_9_10, tn_9_11, tn_9_12, tn_9_13, tn_9_14, tn_9_15]
  · have hwu : zwant m t (m (t + 10) s) = true := by
      unfold zwant
      refine (zany_iff _ _).mpr ⟨s, s0, by omega, ?_⟩
      unfold zwts at hw
      rw [hw]
      simp
    have := h3 (m (t + 10) s) hq.1.1 hq.1.2 hwu p p0 p1
    refine ⟨this.2.1.symm, ?_, ?_, ?_⟩
    · rw [this.1, this.2.2]
      rfl
    · rw [this.1]
      have := zworth_bd (n := m (t + 1) 2) (w := m (t + 1) 0) (y := m t 3) (G := m (t + 2)) (U := m (t + 4)) ⟨by omega, h64⟩ hG.2.2.2 p (m (t + 10) s)
      unfold zwor
      omega
    · rw [this.2.2]
      have := (hG.1.2.2.2.2.2.2.2 p p0 p1).2.1
      rw [show t + 1 + 2 = t + 3 by omega] at this
      exact this
theorem tz_gr1 (hB : TK R t) (hV : BV m (t + 1)) (hY : 0 ≤ m t 3 ∧ m t 3 < 24) (a b c : Int) : ∃ f : Int → Int, ev 122 96 [(2, t), (0, a), (0, b), (0, c), (0, 0)] [] R m = some ((0, a), R, zpr (zpr m (t + 25) f) t (zrw (m t) 3 (m t 3 + 1))) ∧ (∀ p, 0 ≤ p → p < m (t + 1) 2 → f (64 * m t 3 + p) = m (t + 4) p) ∧ ∀ i, i < 64 * m t 3 ∨ 64 * m t 3 + 64 ≤ i → f i = m (t + 25) i := by
  have h64 := hV.2.2.2.2.2.1
  have hn1 := hV.2.2.2.2.2.2.1
  have e : ∀ (f : Int → Int) a, a ≠ t + 25 → zpr m (t + 25) f a = m a := fun f a h => zpr_ne h
  have Us := fun (f : Int → Int) p hp => tz_useOf (R := R) (m := zpr m (t + 25) f) (p := p) (TK_B hB) (BV_zpr (by omega) (by omega) (by omega) (by omega) hV) hp
  simp only [tn_1_1, tn_1_2, tn_1_3, tn_1_4, tn_1_5, tn_7_1, tn_9_1, tn_9_2, tn_9_3, tn_9_4, tn_9_5, tn_9_6, tn_9_7, tn_9_8, tn_9_9, tn_9_10, tn_9_11, tn_9_12, tn_9_13, tn_9_14, tn_9_15] at Us
  have U2 : ∀ (f : Int → Int) p, 0 ≤ p → p < m (t + 1) 2 → ev 19 0 [(2, t + 1), (0, p)] [] R (zpr m (t + 25) f) = some ((0, m (t + 4) p), R, zpr m (t + 25) f) := by
    intro f p h1 h2
    rw [Us f p (by rw [e f (t + 1) (by omega)]; exact ⟨h1, h2⟩), e f (t + 4) (by omega)]
  have i1 : ∀ p, 0 ≤ p → p < m (t + 1) 2 → zw (m t 3 * 64) = m t 3 * 64 ∧ zw (m t 3 * 64 + p) = 64 * m t 3 + p ∧ zw (p + 1) = p + 1 ∧ ¬ m (t + 1) 2 ≤ p ∧ ¬ 64 ≤ p ∧ (0 ≤ 64 * m t 3 + p ∧ 64 * m t 3 + p < 1536) := by
    intro p h1 h2
    refine ⟨zw_i (by omega) (by omega), ?_, zw_i (by omega) (by omega), by omega, by omega, by omega⟩
    rw [zw_i (by omega) (by omega)]
    omega
  have i2 : zw (m t 3 + 1) = m t 3 + 1 := zw_i (by omega) (by omega)
  have st : ∀ (f : Int → Int) p, 0 ≤ p → p < m (t + 1) 2 → ev 122 96 [(2, t), (0, a), (0, b), (0, c), (0, p)] [] R (zpr m (t + 25) f) = ev 122 96 [(2, t), (0, a), (0, b), (0, c), (0, p + 1)] [] R (zpr m (t + 25) (zrw f (64 * m t 3 + p) (m (t + 4) p))) := by
    intro f p h1 h2
    obtain ⟨j1, j2, j3, j4, j5, j6⟩ := i1 p h1 h2
    have u2 := U2 f p h1 h2
    have e1 := e f (t + 1) (by omega)
    have et := e f t (by omega)
    clear Us U2 i1 e
    obtain ⟨hTK0, hTK1, hTK2, hTK3, hTK4, hTK5, hTK6, hTK7, hTK8, hTK9, hTK10, hTK11, hTK12, hTK13, hTK14, hTK15, hTK16, hTK17, hTK18, hTK19, hTK20, hTK21, hTK22, hTK23, hTK24, hTK25, hTK26, hTK27, hTK28, hTK29, hTK30, hTK31, hTK32, hTK33, hTK34, hTK35, hTK36, hTK37, hTK38, hTK39, hTK40, hTK41, hTK42, hTK43, hTK44, hTK45, hTK46, hTK47, hTK48, hTK49, hTK50, hTK51, hTK52, hTK53, hTK54, hTK55, hTK56, hTK57, hTK58, hTK59, hTK60, hTK61, hTK62, hTK63, hTK64, hTK65, hTK66, hTK67, hTK68, hTK69, hTK70, hTK71, hTK72, hTK73, hTK74, hTK75, hTK76, hTK77, hTK78⟩ := hB
    rw [s122_96]
    simp only [s122_0, s122_1, s122_4, s122_5, s122_7, s122_10, s122_13, s122_15, s122_16, s122_17, s122_20, s122_21, s122_24, s122_25, s122_28, s122_29, s122_32, s122_35, s122_38, s122_39, s122_42, s122_43, s122_44, s122_47, s122_48, s122_49, s122_52, s122_53, s122_54, s122_55, s122_58, s122_59, s122_60, s122_63, s122_64, s122_65, s122_66, s122_69, s122_70, s122_71, s122_72, s122_75, s122_76, s122_77, s122_78, s122_81, s122_82, s122_83, s122_84, s122_87, s122_90, s122_93, s122_94, s122_98, s122_99, s122_102, s122_105, s122_108, s122_110, s122_112, s122_115, s122_116, s122_119, s122_120, s122_123, s122_125, s122_126, s122_128, s122_129, s122_130, s122_133, s122_135, s122_138, s122_139, s122_142, s122_145, s122_146, s122_147, s122_150, s122_151, s122_152, s122_155, s122_156, zps_0, zps_1, zps_2, zps_3, zps_9, Option.bind_some, Option.bind_none, Int.reduceEq, Int.reduceNe, Int.reduceLT, Int.reduceLE, Int.reduceNeg, Int.reduceAdd, Int.reduceSub, Int.reduceMul, reduceIte, if_true, if_false, true_and, and_true, false_and, and_false, or_true, true_or, or_false, false_or, not_true_eq_false, not_false_eq_true, ite_not, z_b0, z_b1, z_b01, hTK0, hTK1, hTK2, hTK3, hTK4, hTK5, hTK6, hTK7, hTK8, hTK9, hTK10, hTK11, hTK12, hTK13, hTK14, hTK15, hTK16, hTK17, hTK18, hTK19, hTK20, hTK21, hTK22, hTK23, hTK24, hTK25, hTK26, hTK27, hTK28, hTK29, hTK30, hTK31, hTK32, hTK33, hTK34, hTK35, hTK36, hTK37, hTK38, hTK39, hTK40, hTK41, hTK42, hTK43, hTK44, hTK45, hTK46, hTK47, hTK48, hTK49, hTK50, hTK51, hTK52, hTK53, hTK54, hTK55, hTK56, hTK57, hTK58, hTK59, hTK60, hTK61, hTK62, hTK63, hTK64, hTK65, hTK66, hTK67, hTK68, hTK69, hTK70, hTK71, hTK72, hTK73, hTK74, hTK75, hTK76, hTK77, hTK78, e1, et, j1, j2, j3, j4, j5, j6, u2, zup_zpr, zpr_at, zpr_zpr, zrw_at]
  have fin : ∀ (f : Int → Int), ev 122 96 [(2, t), (0, a), (0, b), (0, c), (0, m (t + 1) 2)] [] R (zpr m (t + 25) f) = some ((0, a), R, zpr (zpr m (t + 25) f) t (zrw (m t) 3 (m t 3 + 1))) := by
    intro f
    have e1 := e f (t + 1) (by omega)
    have et := e f t (by omega)
    have c1 : m (t + 1) 2 ≤ m (t + 1) 2 := Int.le_refl _
    clear Us U2 i1 e st
    obtain ⟨hTK0, hTK1, hTK2, hTK3, hTK4, hTK5, hTK6, hTK7, hTK8, hTK9, hTK10, hTK11, hTK12, hTK13, hTK14, hTK15, hTK16, hTK17, hTK18, hTK19, hTK20, hTK21, hTK22, hTK23, hTK24, hTK25, hTK26, hTK27, hTK28, hTK29, hTK30, hTK31, hTK32, hTK33, hTK34, hTK35, hTK36, hTK37, hTK38, hTK39, hTK40, hTK41, hTK42, hTK43, hTK44, hTK45, hTK46, hTK47, hTK48, hTK49, hTK50, hTK51, hTK52, hTK53, hTK54, hTK55, hTK56, hTK57, hTK58, hTK59, hTK60, hTK61, hTK62, hTK63, hTK64, hTK65, hTK66, hTK67, hTK68, hTK69, hTK70, hTK71, hTK72, hTK73, hTK74, hTK75, hTK76, hTK77, hTK78⟩ := hB
    rw [s122_96]
    simp only [s122_0, s122_1, s122_4, s122_5, s122_7, s122_10, s122_13, s122_15, s122_16, s122_17, s122_20, s122_21, s122_24, s122_25, s122_28, s122_29, s122_32, s122_35, s122_38, s122_39, s122_42, s122_43, s122_44, s122_47, s122_48, s122_49, s122_52, s122_53, s122_54, s122_55, s122_58, s122_59, s122_60, s122_63, s122_64, s122_65, s122_66, s122_69, s122_70, s122_71, s122_72, s122_75, s122_76, s122_77, s122_78, s122_81, s122_82, s122_83, s122_84, s122_87, s122_90, s122_93, s122_94, s122_98, s122_99, s122_102, s122_105, s122_108, s122_110, s122_112, s122_115, s122_116, s122_119, s122_120, s122_123, s122_125, s122_126, s122_128, s122_129, s122_130, s122_133, s122_135, s122_138, s122_139, s122_142, s122_145, s122_146, s122_147, s122_150, s122_151, s122_152, s122_155, s122_156, zps_0, zps_1, zps_2, zps_3, zps_9, Option.bind_some, Option.bind_none, Int.reduceEq, Int.reduceNe, Int.reduceLT, Int.reduceLE, Int.reduceNeg, Int.reduceAdd, Int.reduceSub, Int.reduceMul, reduceIte, if_true, if_false, true_and, and_true, false_and, and_false, or_true, true_or, or_false, false_or, not_true_eq_false, not_false_eq_true, ite_not, z_b0, z_b1, z_b01, hTK0, hTK1, hTK2, hTK3, hTK4, hTK5, hTK6, hTK7, hTK8, hTK9, hTK10, hTK11, hTK12, hTK13, hTK14, hTK15, hTK16, hTK17, hTK18, hTK19, hTK20, hTK21, hTK22, hTK23, hTK24, hTK25, hTK26, hTK27, hTK28, hTK29, hTK30, hTK31, hTK32, hTK33, hTK34, hTK35, hTK36, hTK37, hTK38, hTK39, hTK40, hTK41, hTK42, hTK43, hTK44, hTK45, hTK46, hTK47, hTK48, hTK49, hTK50, hTK51, hTK52, hTK53, hTK54, hTK55, hTK56, hTK57, hTK58, hTK59, hTK60, hTK61, hTK62, hTK63, hTK64, hTK65, hTK66, hTK67, hTK68, hTK69, hTK70, hTK71, hTK72, hTK73, hTK74, hTK75, hTK76, hTK77, hTK78, e1, et, c1, i2, zup_zpr, zpr_at, zpr_zpr, zrw_at]
  refine zloop (fun r => ∃ f : Int → Int, r = some ((0, a), R, zpr (zpr m (t + 25) f) t (zrw (m t) 3 (m t 3 + 1))) ∧ (∀ p, 0 ≤ p → p < m (t + 1) 2 → f (64 * m t 3 + p) = m (t + 4) p) ∧ ∀ i, i < 64 * m t 3 ∨ 64 * m t 3 + 64 ≤ i → f i = m (t + 25) i) (fun p (f : Int → Int) => ev 122 96 [(2, t), (0, a), (0, b), (0, c), (0, p)] [] R (zpr m (t + 25) f)) (m (t + 1) 2) (fun k f => 0 ≤ k ∧ (∀ p, 0 ≤ p → p < k → f (64 * m t 3 + p) = m (t + 4) p) ∧ ∀ i, i < 64 * m t 3 ∨ 64 * m t 3 + 64 ≤ i → f i = m (t + 25) i) ?_ ?_ 0 (m (t + 25)) (by omega) ⟨by omega, fun p h1 h2 => by omega, fun i _ => rfl⟩ |> fun h => by rw [zpr_self] at h; exact h
  · intro p f hp ⟨hp0, hI, hJ⟩ ih
    rw [st f p hp0 hp]
    refine ih _ ⟨by omega, fun q h1 h2 => ?_, fun i hi => ?_⟩
    · rw [zrw_if]
      by_cases e2 : q = p
      · subst e2; rw [if_pos rfl]
      · rw [if_neg (by omega)]; exact hI q h1 (by omega)
    · rw [zrw_ne (by omega)]
      exact hJ i hi
  · intro f ⟨hp0, hI, hJ⟩
    rw [fin f]
    exact ⟨f, rfl, hI, hJ⟩
/-- what a year does to a town -/
def YR (m m' : zM) (t : Int) (Q : zP) : Prop :=
  zfr [t, t + 4, t + 5, t + 14, t + 15, t + 16, t + 17, t + 18, t + 19, t + 20, t + 21, t + 22, t + 23, t + 24, t + 25, t + 26, t + 27] m m' ∧ TG m' t ∧
  m' t 3 = m t 3 + 1 ∧ m' t 4 = m t 4 + gTx m t Q ∧
  (∀ p, 0 ≤ p → p < m (t + 1) 2 → m' (t + 4) p = gU2 m t Q p) ∧
  (∀ s, 0 ≤ s → s < m (t + 9) 0 → m' (t + 14) s = (if gLv m t Q s = true then -4 else gP1 m t Q s) ∧ m' (t + 15) s = (if gLv m t Q s = true then 1 else m (t + 15) s) ∧ m' (t + 16) s = (if 0 ≤ Q.1 s then zbid (m (t + 11)) (zvas m t) s (Q.1 s) else m (t + 16) s) ∧ m' (t + 17) s = (if 0 ≤ Q.1 s then m t 3 else m (t + 17) s)) ∧
  (∀ p, 0 ≤ p → p < m (t + 1) 2 → m' (t + 25) (64 * m t 3 + p) = gU2 m t Q p) ∧ (∀ i, i < 64 * m t 3 ∨ 64 * m t 3 + 64 ≤ i → m' (t + 25) i = m (t + 25) i) ∧
  (m' (t + 26) (4 * m t 3) = zcnt (fun s => decide (0 ≤ Q.1 s)) (m (t + 9) 0).toNat ∧ m' (t + 26) (4 * m t 3 + 1) = zcnt (gLv m t Q) (m (t + 9) 0).toNat ∧ m' (t + 26) (4 * m t 3 + 2) = gTx m t Q ∧ m' (t + 26) (4 * m t 3 + 3) = gUs m t Q) ∧ (∀ i, i < 4 * m t 3 ∨ 4 * m t 3 + 4 ≤ i → m' (t + 26) i = m (t + 26) i)
theorem gTx_bd (hG : TG m t) (hQ : SQ m t) (Q : zP) : 0 ≤ gTx m t Q ∧ gTx m t Q ≤ 1600000 := by
  have h64 := hG.1.2.2.2.2.2.1
  have hn1 := hG.1.2.2.2.2.2.2.1
  have h20 := hQ.1
  have := zsum_bd (f := fun s => if gP1 m t Q s = -4 then 0 else ztax (znum (m (t + 8)) 2 (m (t + 10) s) (m t 3) (m (t + 7) 0).toNat).1 (gW m t Q s)) (n := (m (t + 9) 0).toNat) (lo := 0) (hi := 80000) (fun s _ _ => by
    split
    · omega
    · have b1 := znum_bd (a := 2) (u := m (t + 10) s) (y := m t 3) hG.2.2.2 (by omega)
      exact ztax_bd (zworth_bd ⟨by omega, h64⟩ hG.2.2.2 _ _) ⟨b1.1, b1.2.2 rfl⟩)
  unfold gTx
  omega
theorem tz_gchain (hB : TK R t) {m1 m2 m3 m4 m5 M6 : zM} {b tx l us y n : Int} (hy : m t 3 = y) (hy0 : 0 ≤ y ∧ y < 24) (a1 : ev 121 0 [(2, t), (9, 0), (9, 0)] [] R m = some ((9, 0), R, m1)) (y1 : m1 t 3 = y) (n1 : m1 (t + 1) 2 = n) (a2 : ev 97 0 [(2, t + 9), (0, y), (0, n), (9, 0), (9, 0), (9, 0)] [] R m1 = some ((9, 0), R, m2)) (a3 : ev 123 0 [(2, t), (9, 0), (9, 0), (9, 0)] [] R m2 = some ((0, b), R, m3)) (a4 : ev 124 0 [(2, t), (9, 0), (9, 0), (9, 0), (9, 0), (9, 0)] [] R m3 = some ((0, tx), R, m4)) (a5 : ev 125 0 [(2, t), (9, 0), (9, 0), (9, 0), (9, 0)] [] R m4 = some ((0, l), R, m5)) (c5 : zw (m5 t 4 + tx) = m5 t 4 + tx) (h6 : zpr m5 t (zrw (m5 t) 4 (m5 t 4 + tx)) = M6) (y6 : M6 t 3 = y) (cu : ∀ F, ev 30 0 [(2, t + 1)] [] R (zpr M6 (t + 26) F) = some ((0, us), R, zpr M6 (t + 26) F)) : ev 122 0 [(2, t), (9, 0), (9, 0), (9, 0), (9, 0)] [] R m = ev 122 96 [(2, t), (0, b), (0, tx), (0, l), (0, 0)] [] R (zpr M6 (t + 26) (zrw (zrw (zrw (zrw (M6 (t + 26)) (4 * y) b) (4 * y + 1) l) (4 * y + 2) tx) (4 * y + 3) us)) := by
  have P : ∀ (F : Int → Int) (w v : Int), 0 ≤ w ∧ w ≤ 3 → ev 126 0 [(2, t), (0, w), (0, v)] [] R (zpr M6 (t + 26) F) = some ((9, 0), R, zpr M6 (t + 26) (zrw F (4 * y + w) v)) := by
    intro F w v hw
    have e : zpr M6 (t + 26) F t 3 = y := by rw [zpr_ne (by omega), y6]
    rw [tz_putFigure hB (by rw [e]; exact hy0) hw v, e, zpr_at, zpr_zpr]
  have P0 : ev 126 0 [(2, t), (0, 0), (0, b)] [] R M6 = some ((9, 0), R, zpr M6 (t + 26) (zrw (M6 (t + 26)) (4 * y) b)) := by
    have := P (M6 (t + 26)) 0 b (by omega)
    rw [zpr_self, Int.add_zero] at this
    exact this
  have P1 := fun F => P F 1 l (by omega)
  have P2 := fun F => P F 2 tx (by omega)
  have P3 := fun F => P F 3 us (by omega)
  clear P
  obtain ⟨hTK0, hTK1, hTK2, hTK3, hTK4, hTK5, hTK6, hTK7, hTK8, hTK9, hTK10, hTK11, hTK12, hTK13, hTK14, hTK15, hTK16, hTK17, hTK18, hTK19, hTK20, hTK21, hTK22, hTK23, hTK24, hTK25, hTK26, hTK27, hTK28, hTK29, hTK30, hTK31, hTK32, hTK33, hTK34, hTK35, hTK36, hTK37, hTK38, hTK39, hTK40, hTK41, hTK42, hTK43, hTK44, hTK45, hTK46, hTK47, hTK48, hTK49, hTK50, hTK51, hTK52, hTK53, hTK54, hTK55, hTK56, hTK57, hTK58, hTK59, hTK60, hTK61, hTK62, hTK63, hTK64, hTK65, hTK66, hTK67, hTK68, hTK69, hTK70, hTK71, hTK72, hTK73, hTK74, hTK75, hTK76, hTK77, hTK78⟩ := hB
  simp only [s122_0, s122_1, s122_4, s122_5, s122_7, s122_10, s122_13, s122_15, s122_16, s122_17, s122_20, s122_21, s122_24, s122_25, s122_28, s122_29, s122_32, s122_35, s122_38, s122_39, s122_42, s122_43, s122_44, s122_47, s122_48, s122_49, s122_52, s122_53, s122_54, s122_55, s122_58, s122_59, s122_60, s122_63, s122_64, s122_65, s122_66, s122_69, s122_70, s122_71, s122_72, s122_75, s122_76, s122_77, s122_78, s122_81, s122_82, s122_83, s122_84, s122_87, s122_90, s122_93, s122_94, s122_98, s122_99, s122_102, s122_105, s122_108, s122_110, s122_112, s122_115, s122_116, s122_119, s122_120, s122_123, s122_125, s122_126, s122_128, s122_129, s122_130, s122_133, s122_135, s122_138, s122_139, s122_142, s122_145, s122_146, s122_147, s122_150, s122_151, s122_152, s122_155, s122_156, zps_0, zps_1, zps_2, zps_3, zps_9, Option.bind_some, Option.bind_none, Int.reduceEq, Int.reduceNe, Int.reduceLT, Int.reduceLE, Int.reduceNeg, Int.reduceAdd, Int.reduceSub, Int.reduceMul, reduceIte, if_true, if_false, true_and, and_true, false_and, and_false, or_true, true_or, or_false, false_or, not_true_eq_false, not_false_eq_true, ite_not, z_b0, z_b1, z_b01, hTK0, hTK1, hTK2, hTK3, hTK4, hTK5, hTK6, hTK7, hTK8, hTK9, hTK10, hTK11, hTK12, hTK13, hTK14, hTK15, hTK16, hTK17, hTK18, hTK19, hTK20, hTK21, hTK22, hTK23, hTK24, hTK25, hTK26, hTK27, hTK28, hTK29, hTK30, hTK31, hTK32, hTK33, hTK34, hTK35, hTK36, hTK37, hTK38, hTK39, hTK40, hTK41, hTK42, hTK43, hTK44, hTK45, hTK46, hTK47, hTK48, hTK49, hTK50, hTK51, hTK52, hTK53, hTK54, hTK55, hTK56, hTK57, hTK58, hTK59, hTK60, hTK61, hTK62, hTK63, hTK64, hTK65, hTK66, hTK67, hTK68, hTK69, hTK70, hTK71, hTK72, hTK73, hTK74, hTK75, hTK76, hTK77, hTK78, hy, tz_within, hy0, show y ≤ 23 by omega, a1, y1, n1, a2, a3, a4, a5, zup_zpr, c5, h6, P0, P1, P2, P3, cu]
theorem tz_grow (hB : TK R t) (hG : TG m t) (hQ : SQ m t) (hY : 0 ≤ m t 3 ∧ m t 3 < 24) (hch : 0 ≤ m t 4 ∧ m t 4 ≤ 40000000) : ∃ (m' : zM) (Q : zP), zfin (m (t + 1) 2) (m (t + 9) 0) (zwts m t) (zcas m t) (m (t + 11)) (zvas m t) Q ∧ zPI (m (t + 1) 2) (m (t + 9) 0) Q ∧ ev 122 0 [(2, t), (9, 0), (9, 0), (9, 0), (9, 0)] [] R m = some ((0, zcnt (fun s => decide (0 ≤ Q.1 s)) (m (t + 9) 0).toNat), R, m') ∧ YR m m' t Q := by
  have h64 := hG.1.2.2.2.2.2.1
  have hn1 := hG.1.2.2.2.2.2.2.1
  have hT := gTx_bd hG hQ
  obtain ⟨m1, a1, f1, hSI⟩ := tz_see2 (R := R) hB hG hQ
  obtain ⟨m2, Q, a2, f2, hCS, hPI, hfin⟩ := tz_ssettle (TK_S hB) hSI
  have hT := hT Q
  simp only [show t + 9 + 9 = t + 18 by omega, show t + 9 + 10 = t + 19 by omega, show t + 9 + 11 = t + 20 by omega, show t + 9 + 12 = t + 21 by omega] at f2
  -- rows of m1, m2
  have r1 : ∀ a, a < t + 22 ∨ t + 24 < a → m1 a = m a := fun a ha => f1 a (by simp only [List.mem_cons, List.not_mem_nil, or_false, not_or]; omega)
  have r2 : ∀ a, a < t + 18 ∨ t + 24 < a → m2 a = m a := fun a ha => (f2 a (by simp only [List.mem_cons, List.not_mem_nil, or_false, not_or]; omega)).trans (r1 a (by omega))
  have hBT2 := BT_fr (m := m) (m' := m2) (o := t + 1) (fun a h1 h2 => r2 a (by omega)) hG.1 hG.2.2.1
  obtain ⟨m3, a3, f3, V3, T3, U3, S3⟩ := tz_settleIn (R := R) (m := m2) hB hBT2.1 hBT2.2 (nc := m (t + 9) 0) (by rw [r2 _ (by omega)]) hQ.1 (fun s h1 h2 => by rw [r2 _ (by omega)]; exact (hQ.2 s h1 h2).1) hCS (by rw [r2 _ (by omega)]; exact hPI)
  rw [r2 (t + 1) (by omega), r2 (t + 10) (by omega), r2 (t + 4) (by omega)] at U3
  rw [r2 (t + 14) (by omega), r2 (t + 16) (by omega), r2 (t + 17) (by omega), r2 t (by omega)] at S3
  have r3 : ∀ a, (a < t + 18 ∨ t + 24 < a) → a ≠ t + 4 → a ≠ t + 5 → a ≠ t + 14 → a ≠ t + 16 → a ≠ t + 17 → m3 a = m a := fun a ha h1 h2 h3 h4 h5 => (f3 a (by simp only [List.mem_cons, List.not_mem_nil, or_false, not_or]; exact ⟨h1, h2, h3, h4, h5⟩)).trans (r2 a ha)
  have e31 := r3 (t + 1) (by omega) (by omega) (by omega) (by omega) (by omega) (by omega)
  have e32 := r3 (t + 2) (by omega) (by omega) (by omega) (by omega) (by omega) (by omega)
  have e37 := r3 (t + 7) (by omega) (by omega) (by omega) (by omega) (by omega) (by omega)
  have e38 := r3 (t + 8) (by omega) (by omega) (by omega) (by omega) (by omega) (by omega)
  have e36 := r3 (t + 6) (by omega) (by omega) (by omega) (by omega) (by omega) (by omega)
  have e39 := r3 (t + 9) (by omega) (by omega) (by omega) (by omega) (by omega) (by omega)
  have e310 := r3 (t + 10) (by omega) (by omega) (by omega) (by omega) (by omega) (by omega)
  have e3t := r3 t (by omega) (by omega) (by omega) (by omega) (by omega) (by omega)
  have hNV : ∀ M : zM, M (t + 1) = m (t + 1) → M (t + 6) = m (t + 6) → NV M (t + 1) := by
    intro M h1 h2
    have := hG.2.1
    unfold NV at *
    rw [show t + 1 + 5 = t + 6 by omega, h1, h2]
    rw [show t + 1 + 5 = t + 6 by omega] at this
    exact this
  have hG3 : TG m3 t := ⟨V3, hNV m3 e31 e36, T3, by rw [e37, e38]; exact hG.2.2.2⟩
  have gP : ∀ s, 0 ≤ s → s < m (t + 9) 0 → m3 (t + 14) s = gP1 m t Q s := fun s h1 h2 => (S3 s h1 h2).1
  have gPv : ∀ s, 0 ≤ s → s < m (t + 9) 0 → gP1 m t Q s = -4 ∨ (0 ≤ gP1 m t Q s ∧ gP1 m t Q s < m (t + 1) 2) := by
    intro s h1 h2
    unfold gP1
    split
    next h => rcases hPI.1 s h1 h2 with h3 | h3
              · omega
              · exact Or.inr ⟨h3.1, h3.2.1⟩
    next h => exact (hQ.2 s h1 h2).2.2.2
  have gWe : ∀ s, 0 ≤ s → s < m (t + 9) 0 → zwor m3 t (m3 (t + 14) s) (m3 (t + 10) s) = gW m t Q s := by
    intro s h1 h2
    unfold zwor gW
    rw [gP s h1 h2, e31, e32, e37, e38, e310, e3t]
    exact zworth_congr (fun q q0 q1 => ⟨rfl, U3 q q0 q1⟩) _ _
  obtain ⟨f4, a4, F4⟩ := tz_takeTaxes (R := R) (m := m3) hB hG3 (nc := m (t + 9) 0) (by rw [e39]) hQ.1 (fun s h1 h2 => by rw [gP s h1 h2, e31]; exact gPv s h1 h2)
  have etx : zsum (fun s => if m3 (t + 14) s = -4 then 0 else ztax (znum (m3 (t + 8)) 2 (m3 (t + 10) s) (m3 t 3) (m3 (t + 7) 0).toNat).1 (zwor m3 t (m3 (t + 14) s) (m3 (t + 10) s))) (m (t + 9) 0).toNat = gTx m t Q := by
    unfold gTx
    apply zsum_congr
    intro s h1 h2
    have h3 : s < m (t + 9) 0 := by omega
    rw [gWe s h1 h3, gP s h1 h3, e38, e310, e3t, e37]
  rw [etx] at a4
  have r4 : ∀ a, a ≠ t + 27 → zpr m3 (t + 27) f4 a = m3 a := fun a h => zpr_ne h
  have hG4 := TG_fr (m := m3) (m' := zpr m3 (t + 27) f4) (t := t) (fun a h1 h2 => r4 a (by omega)) hG3
  obtain ⟨m5, a5, f5, V5, T5, U5, S5⟩ := tz_sendAway (R := R) (m := zpr m3 (t + 27) f4) hB hG4.1 hG4.2.2.1 hG4.2.2.2 (nc := m (t + 9) 0) (by rw [r4 _ (by omega), e39]) hQ.1 (fun s h1 h2 => by rw [r4 _ (by omega), r4 _ (by omega), gP s h1 h2, e31]; exact gPv s h1 h2)
  have glv : ∀ s, 0 ≤ s → s < m (t + 9) 0 → zlvs (zpr m3 (t + 27) f4) t s = gLv m t Q s := by
    intro s h1 h2
    unfold zlvs gLv zlim
    rw [r4 (t + 14) (by omega), r4 (t + 8) (by omega), r4 (t + 10) (by omega), r4 t (by omega), r4 (t + 7) (by omega), zpr_at, e38, e310, e3t, e37, decide_eq_decide]
    have h3 := F4 s h1 h2
    rw [gWe s h1 h2, gP s h1 h2] at h3
    rw [gP s h1 h2]
    constructor
    · rintro ⟨q1, q2, q3⟩
      rw [h3 q1] at q3
      exact ⟨q1, q2, q3⟩
    · rintro ⟨q1, q2, q3⟩
      rw [← h3 q1] at q3
      exact ⟨q1, q2, q3⟩
  have ecl : zcnt (zlvs (zpr m3 (t + 27) f4) t) (m (t + 9) 0).toNat = zcnt (gLv m t Q) (m (t + 9) 0).toNat := zcnt_congr (fun s h1 h2 => glv s h1 (by omega))
  rw [ecl] at a5
  rw [r4 (t + 1) (by omega), r4 (t + 14) (by omega), r4 (t + 4) (by omega), e31] at U5
  rw [r4 (t + 14) (by omega), r4 (t + 15) (by omega)] at S5
  have gU : ∀ p, 0 ≤ p → p < m (t + 1) 2 → m5 (t + 4) p = gU2 m t Q p := by
    intro p h1 h2
    rw [U5 p h1 h2]
    unfold gU2
    rw [zany_congr (f := fun s => zlvs (zpr m3 (t + 27) f4) t s && decide (m3 (t + 14) s = p)) (g := fun s => gLv m t Q s && decide (gP1 m t Q s = p)) (fun s h3 h4 => by rw [glv s h3 (by omega), gP s h3 (by omega)]), U3 p h1 h2]
    rfl
  have r5 : ∀ a, (a < t + 18 ∨ t + 24 < a) → a ≠ t + 4 → a ≠ t + 5 → a ≠ t + 14 → a ≠ t + 15 → a ≠ t + 16 → a ≠ t + 17 → a ≠ t + 27 → m5 a = m a := fun a ha h1 h2 h3 h4 h5 h6 h7 => (f5 a (by simp only [List.mem_cons, List.not_mem_nil, or_false, not_or]; exact ⟨h1, h2, h3, h4⟩)).trans ((r4 a h7).trans (r3 a ha h1 h2 h3 h5 h6))
  have e5t := r5 t (by omega) (by omega) (by omega) (by omega) (by omega) (by omega) (by omega) (by omega)
  have e51 := r5 (t + 1) (by omega) (by omega) (by omega) (by omega) (by omega) (by omega) (by omega) (by omega)
  have e526 := r5 (t + 26) (by omega) (by omega) (by omega) (by omega) (by omega) (by omega) (by omega) (by omega)
  have e525 := r5 (t + 25) (by omega) (by omega) (by omega) (by omega) (by omega) (by omega) (by omega) (by omega)
  obtain ⟨M6, h6⟩ : ∃ M, zpr m5 t (zrw (m5 t) 4 (m5 t 4 + gTx m t Q)) = M := ⟨_, rfl⟩
  have r6 : ∀ a, a ≠ t → M6 a = m5 a := fun a h => by rw [← h6, zpr_ne h]
  have t6 : M6 t = zrw (m t) 4 (m t 4 + gTx m t Q) := by rw [← h6, zpr_at, e5t]
  have y6 : M6 t 3 = m t 3 := by rw [t6, zrw_ne (by omega)]
  have hBT6 : ∀ F, BV (zpr M6 (t + 26) F) (t + 1) ∧ TV (zpr M6 (t + 26) F) (t + 1) := fun F => BT_fr (fun a h1 h2 => by rw [zpr_ne (by omega), r6 a (by omega)]) V5 T5
  have us : gUs m t Q = zuses (m (t + 1) 2) (m5 (t + 4)) 1 + zuses (m (t + 1) 2) (m5 (t + 4)) 2 + zuses (m (t + 1) 2) (m5 (t + 4)) 3 := by
    unfold gUs
    rw [zuses_congr (U := m5 (t + 4)) (U' := gU2 m t Q) gU 1, zuses_congr (U := m5 (t + 4)) (U' := gU2 m t Q) gU 2, zuses_congr (U := m5 (t + 4)) (U' := gU2 m t Q) gU 3]
  have cu : ∀ F, ev 30 0 [(2, t + 1)] [] R (zpr M6 (t + 26) F) = some ((0, gUs m t Q), R, zpr M6 (t + 26) F) := by
    intro F
    have b := hBT6 F
    rw [tz_countUsed (TK_B hB), us]
    have q1 := z_countu (u := 1) b.1 b.2 (by omega)
    have q2 := z_countu (u := 2) b.1 b.2 (by omega)
    have q3 := z_countu (u := 3) b.1 b.2 (by omega)
    simp only [Int.reduceSub] at q1 q2 q3
    rw [q1, q2, q3, zpr_ne (show t + 1 ≠ t + 26 by omega), zpr_ne (show t + 1 + 3 ≠ t + 26 by omega), r6 _ (by omega), r6 _ (by omega), e51, show t + 1 + 3 = t + 4 by omega]
  have ch := tz_gchain (m := m) hB (y := m t 3) (n := m (t + 1) 2) rfl hY a1 (by rw [r1 _ (by omega)]) (by rw [r1 _ (by omega)]) a2 a3 a4 a5 (by rw [e5t]; exact zw_i (by omega) (by omega)) h6 y6 cu
  generalize hF : zrw (zrw (zrw (zrw (M6 (t + 26)) (4 * m t 3) (zcnt (fun s => decide (0 ≤ Q.1 s)) (m (t + 9) 0).toNat)) (4 * m t 3 + 1) (zcnt (gLv m t Q) (m (t + 9) 0).toNat)) (4 * m t 3 + 2) (gTx m t Q)) (4 * m t 3 + 3) (gUs m t Q) = F at ch
  have y7 : zpr M6 (t + 26) F t 3 = m t 3 := by rw [zpr_ne (by omega), y6]
  obtain ⟨f8, a8, g8, k8⟩ := tz_gr1 (m := zpr M6 (t + 26) F) hB (hBT6 F).1 (by rw [y7]; exact hY) (zcnt (fun s => decide (0 ≤ Q.1 s)) (m (t + 9) 0).toNat) (gTx m t Q) (zcnt (gLv m t Q) (m (t + 9) 0).toNat)
  rw [y7] at g8 k8 a8
  rw [zpr_ne (show t + 1 ≠ t + 26 by omega), zpr_ne (show t + 4 ≠ t + 26 by omega), r6 _ (by omega), r6 _ (by omega), e51] at g8
  rw [zpr_ne (show t + 25 ≠ t + 26 by omega), r6 _ (by omega), e525] at k8
  rw [zpr_ne (show t ≠ t + 26 by omega), t6] at a8
  refine ⟨zpr (zpr (zpr M6 (t + 26) F) (t + 25) f8) t (zrw (zrw (m t) 4 (m t 4 + gTx m t Q)) 3 (m t 3 + 1)), Q, hfin, hPI, by rw [ch, a8], ?_⟩
  have rr : ∀ a, a ≠ t → a ≠ t + 25 → a ≠ t + 26 → zpr (zpr (zpr M6 (t + 26) F) (t + 25) f8) t (zrw (zrw (m t) 4 (m t 4 + gTx m t Q)) 3 (m t 3 + 1)) a = m5 a := fun a h1 h2 h3 => by rw [zpr_ne h1, zpr_ne h2, zpr_ne h3, r6 a h1]
  have r26 : zpr (zpr (zpr M6 (t + 26) F) (t + 25) f8) t (zrw (zrw (m t) 4 (m t 4 + gTx m t Q)) 3 (m t 3 + 1)) (t + 26) = F := by rw [zpr_ne (by omega), zpr_ne (by omega), zpr_at]
  have r25 : zpr (zpr (zpr M6 (t + 26) F) (t + 25) f8) t (zrw (zrw (m t) 4 (m t 4 + gTx m t Q)) 3 (m t 3 + 1)) (t + 25) = f8 := by rw [zpr_ne (by omega), zpr_at]
  have rt : zpr (zpr (zpr M6 (t + 26) F) (t + 25) f8) t (zrw (zrw (m t) 4 (m t 4 + gTx m t Q)) 3 (m t 3 + 1)) t = zrw (zrw (m t) 4 (m t 4 + gTx m t Q)) 3 (m t 3 + 1) := zpr_at _ _ _
  generalize zpr (zpr (zpr M6 (t + 26) F) (t + 25) f8) t (zrw (zrw (m t) 4 (m t 4 + gTx m t Q)) 3 (m t 3 + 1)) = m' at *
  refine ⟨?_, ?_, ?_, ?_, ?_, ?_, ?_, ?_, ?_, ?_⟩
  · intro a ha
    simp only [List.mem_cons, List.not_mem_nil, or_false, not_or] at ha
    rw [rr a ha.1 (by omega) (by omega)]
    exact r5 a (by omega) (by omega) (by omega) (by omega) (by omega) (by omega) (by omega) (by omega)
  · have := BT_fr (m := m5) (m' := m') (o := t + 1) (fun a h1 h2 => rr a (by omega) (by omega) (by omega)) V5 T5
    refine ⟨this.1, hNV m' (by rw [rr _ (by omega) (by omega) (by omega), e51]) (by rw [rr _ (by omega) (by omega) (by omega)]; exact r5 _ (by omega) (by omega) (by omega) (by omega) (by omega) (by omega) (by omega) (by omega)), this.2, ?_⟩
    rw [rr _ (by omega) (by omega) (by omega), rr _ (by omega) (by omega) (by omega), r5 (t + 7) (by omega) (by omega) (by omega) (by omega) (by omega) (by omega) (by omega) (by omega), r5 (t + 8) (by omega) (by omega) (by omega) (by omega) (by omega) (by omega) (by omega) (by omega)]
    exact hG.2.2.2
  · rw [rt, zrw_at]
  · rw [rt, zrw_ne (by omega), zrw_at]
  · intro p h1 h2
    rw [rr _ (by omega) (by omega) (by omega)]
    exact gU p h1 h2
  · intro s h1 h2
    rw [rr (t + 14) (by omega) (by omega) (by omega), rr (t + 15) (by omega) (by omega) (by omega), rr (t + 16) (by omega) (by omega) (by omega), rr (t + 17) (by omega) (by omega) (by omega)]
    have s5 := S5 s h1 h2
    have s3 := S3 s h1 h2
    rw [glv s h1 h2, gP s h1 h2] at s5
    refine ⟨s5.1, ?_, ?_, ?_⟩
    · rw [s5.2, r3 (t + 15) (by omega) (by omega) (by omega) (by omega) (by omega) (by omega)]
    · rw [f5 (t + 16) (by simp only [List.mem_cons, List.not_mem_nil, or_false, not_or]; omega), r4 _ (by omega), s3.2.1]
    · rw [f5 (t + 17) (by simp only [List.mem_cons, List.not_mem_nil, or_false, not_or]; omega), r4 _ (by omega), s3.2.2]
  · intro p h1 h2
    rw [r25, g8 p h1 h2]
    exact gU p h1 h2
  · intro i hi
    rw [r25]
    exact k8 i hi
  · rw [r26, ← hF]
    refine ⟨?_, ?_, ?_, ?_⟩
    · rw [zrw_ne (by omega), zrw_ne (by omega), zrw_ne (by omega), zrw_at]
    · rw [zrw_ne (by omega), zrw_ne (by omega), zrw_at]
    · rw [zrw_ne (by omega), zrw_at]
    · rw [zrw_at]
  · intro i hi
    rw [r26, ← hF, zrw_ne (by omega), zrw_ne (by omega), zrw_ne (by omega), zrw_ne (by omega), r6 _ (by omega), e526]
end YEAR
