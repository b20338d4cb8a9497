/-! a town begins -/
section BEGIN
variable {R m w : zM} {t : Int}
def TB (m m' : zM) (t v h : Int) : Prop := zfr [t, t + 1, t + 2, t + 3, t + 4, t + 5, t + 6, t + 7, t + 9] m m' ∧ BN m' (t + 1) v h ∧ m' (t + 1) 3 = m (t + 1) 3 + 1 ∧ m' t = zrw (zrw (m t) 3 0) 4 0 ∧ m' (t + 7) = zrw (m (t + 7)) 0 0 ∧ m' (t + 9) = zrw (m (t + 9)) 0 0
theorem tz_tbegin (hB : TK R t) {v h : Int} (hv : 1 ≤ v ∧ v ≤ 8) (hh : 1 ≤ h ∧ h ≤ 8) (hC : 0 ≤ m (t + 1) 3 ∧ m (t + 1) 3 < 2000000000) (hN : NV m (t + 1) ∧ BV m (t + 1)) : ∃ m' : zM, ev 114 0 [(2, t), (0, v), (0, h)] [] R m = some ((9, 0), R, m') ∧ TB m m' t v h := by
  obtain ⟨m1, a1, f1, b1, c1⟩ := tz_bbegin (R := R) (m := m) (TK_B hB) hv hh hC (fun e0 e1 p p0 p1 => by
    have e2 : m (t + 1) 2 = v * h := by rw [hN.2.2.2.2.2.1, e0, e1]
    have := hN.1 p p0 (by rw [e2]; exact p1)
    rw [e0, e2] at this
    exact this)
  have g : ∀ a, a < t + 1 ∨ t + 6 < a → m1 a = m a := fun a ha => f1 a (by simp only [List.mem_cons, List.not_mem_nil, or_false, not_or]; omega)
  have E : ev 114 0 [(2, t), (0, v), (0, h)] [] R m = some ((9, 0), R, zpr (zpr (zpr m1 (t + 7) (zrw (m (t + 7)) 0 0)) (t + 9) (zrw (m (t + 9)) 0 0)) t (zrw (zrw (m t) 3 0) 4 0)) := by
    have e7 : m1 (t + 7) = m (t + 7) := g _ (by omega)
    have e9 : m1 (t + 9) = m (t + 9) := g _ (by omega)
    have e0 : m1 t = m t := g _ (by omega)
    obtain ⟨hTK0, hTK1, hTK2, hTK3, hTK4, hTK5, hTK6, hTK7, hTK8, hTK9, hTK10, hTK11, hTK12, hTK13, hTK14, hTK15, hTK16, hTK17, hTK18, hTK19, hTK20, hTK21, hTK22, hTK23, hTK24, hTK25, hTK26, hTK27, hTK28, hTK29, hTK30, hTK31, hTK32, hTK33, hTK34, hTK35, hTK36, hTK37, hTK38, hTK39, hTK40, hTK41, hTK42, hTK43, hTK44, hTK45, hTK46, hTK47, hTK48, hTK49, hTK50, hTK51, hTK52, hTK53, hTK54, hTK55, hTK56, hTK57, hTK58, hTK59, hTK60, hTK61, hTK62, hTK63, hTK64, hTK65, hTK66, hTK67, hTK68, hTK69, hTK70, hTK71, hTK72, hTK73, hTK74, hTK75, hTK76, hTK77, hTK78⟩ := hB
    simp only [s114_0, s114_1, s114_4, s114_5, s114_6, s114_9, s114_10, s114_13, s114_14, s114_17, s114_18, s114_21, s114_22, s114_25, s114_26, s114_27, s114_30, s114_31, s114_32, s114_35, zps_0, zps_1, zps_2, zps_3, zps_9, Option.bind_some, Option.bind_none, Int.reduceEq, Int.reduceNe, Int.reduceLT, Int.reduceLE, Int.reduceNeg, Int.reduceAdd, Int.reduceSub, Int.reduceMul, reduceIte, if_true, if_false, true_and, and_true, false_and, and_false, or_true, true_or, or_false, false_or, not_true_eq_false, not_false_eq_true, ite_not, z_b0, z_b1, z_b01, hTK0, hTK1, hTK2, hTK3, hTK4, hTK5, hTK6, hTK7, hTK8, hTK9, hTK10, hTK11, hTK12, hTK13, hTK14, hTK15, hTK16, hTK17, hTK18, hTK19, hTK20, hTK21, hTK22, hTK23, hTK24, hTK25, hTK26, hTK27, hTK28, hTK29, hTK30, hTK31, hTK32, hTK33, hTK34, hTK35, hTK36, hTK37, hTK38, hTK39, hTK40, hTK41, hTK42, hTK43, hTK44, hTK45, hTK46, hTK47, hTK48, hTK49, hTK50, hTK51, hTK52, hTK53, hTK54, hTK55, hTK56, hTK57, hTK58, hTK59, hTK60, hTK61, hTK62, hTK63, hTK64, hTK65, hTK66, hTK67, hTK68, hTK69, hTK70, hTK71, hTK72, hTK73, hTK74, hTK75, hTK76, hTK77, hTK78, a1, zup_zpr]
    simp (disch := omega) only [zpr_ne, zpr_at, e7, e9, e0, zpr_zpr]
  refine ⟨_, E, ?_, ?_, ?_, ?_, ?_, ?_⟩
  · intro a ha
    simp only [List.mem_cons, List.not_mem_nil, or_false, not_or] at ha
    rw [zpr_ne ha.1, zpr_ne (by omega), zpr_ne (by omega), g a]
    omega
  · have k : ∀ a, t + 1 ≤ a → a ≤ t + 6 → zpr (zpr (zpr m1 (t + 7) (zrw (m (t + 7)) 0 0)) (t + 9) (zrw (m (t + 9)) 0 0)) t (zrw (zrw (m t) 3 0) 4 0) a = m1 a := fun a h1 h2 => by rw [zpr_ne (by omega), zpr_ne (by omega), zpr_ne (by omega)]
    unfold BN BV NV NF at *
    simp only [tn_1_1, tn_1_2, tn_1_3, tn_1_4, tn_1_5, tn_7_1, tn_9_1, tn_9_2, tn_9_3, tn_9_4, tn_9_5, tn_9_6, tn_9_7, tn_9_8, tn_9_9, tn_9_10, tn_9_11, tn_9_12, tn_9_13, tn_9_14, tn_9_15] at *
    rw [k (t + 1) (by omega) (by omega), k (t + 2) (by omega) (by omega), k (t + 3) (by omega) (by omega), k (t + 4) (by omega) (by omega), k (t + 5) (by omega) (by omega), k (t + 6) (by omega) (by omega)]
    exact b1
  · rw [zpr_ne (by omega), zpr_ne (by omega), zpr_ne (by omega), c1]
  · rw [zpr_at]
  · rw [zpr_ne (by omega), zpr_ne (by omega), zpr_at]
  · rw [zpr_ne (by omega), zpr_at]
end BEGIN
