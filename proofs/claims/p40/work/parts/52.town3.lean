/-! plots are shown to those who wait -/
def zwant (m : zM) (t u : Int) : Bool := zany (fun s => zwai m (t + 9) s (m t 3) && decide (m (t + 10) s = u)) (m (t + 9) 0).toNat
def zwor (m : zM) (t p u : Int) : Int := zworth (m (t + 1) 2) (m (t + 1) 0) (m (t + 7) 0) (m t 3) (m (t + 2)) (m (t + 4)) (m (t + 8)) p u
def zmys (m : zM) (t p u : Int) : Bool := zmay (m (t + 1) 2) (m (t + 1) 0) (m (t + 7) 0) (m t 3) (m (t + 2)) (m (t + 4)) (m (t + 8)) p u
def SP (m m' : zM) (t u : Int) : Prop := ∀ q, 0 ≤ q → q < m (t + 1) 2 → m' (t + 23) (64 * u + q) = zwor m t q u ∧ zbt (m' (t + 22) u) q = zmys m t q u ∧ m' (t + 24) q = m (t + 3) q
theorem zmem3 {t a : Int} (h : a ∉ [t + 22, t + 23, t + 24]) : a ≠ t + 22 ∧ a ≠ t + 23 ∧ a ≠ t + 24 := by
  simp only [List.mem_cons, List.not_mem_nil, or_false, not_or] at h
  exact h
section TOWN3
variable {t : Int} {R m : zM}
theorem tz_showPlots (hB : TK R t) (hG : TG m t) (hS : 0 ≤ m (t + 9) 0 ∧ m (t + 9) 0 ≤ 20) : ∃ m' : zM, ev 121 0 [(2, t), (9, 0), (9, 0)] [] R m = some ((9, 0), R, m') ∧ zfr [t + 22, t + 23, t + 24] m m' ∧ ∀ u, 1 ≤ u → u ≤ 3 → zwant m t u = true → SP m m' t u := by
  have h64 := hG.1.2.2.2.2.2.1
  have hn1 := hG.1.2.2.2.2.2.2.1
  have row : ∀ m' : zM, zfr [t + 22, t + 23, t + 24] m m' → ∀ a, a < t + 22 ∨ t + 24 < a → m' a = m a := fun m' hf a ha => hf a (by
    simp only [List.mem_cons, List.not_mem_nil, or_false, not_or]
    omega)
  have Wn := fun (m' : zM) (hf : zfr [t + 22, t + 23, t + 24] m m') u => tz_swant (R := R) (m := m') (TK_S hB) (by rw [row m' hf _ (by omega)]; exact hS) u (m t 3)
  have Wo := fun (m' : zM) (hf : zfr [t + 22, t + 23, t + 24] m m') p u hp => tz_tworth (R := R) (m := m') (p := p) hB (TG_fr (fun a _ _ => row m' hf a (by omega)) hG) u hp
  have My := fun (m' : zM) (hf : zfr [t + 22, t + 23, t + 24] m m') p u hu hp => tz_tmay (R := R) (m := m') (p := p) (u := u) hB (TG_fr (fun a _ _ => row m' hf a (by omega)) hG) hu hp
  have He := fun (m' : zM) (hf : zfr [t + 22, t + 23, t + 24] m m') p hp => tz_heightOf (R := R) (m := m') (p := p) (TK_B hB) (TG_fr (fun a _ _ => row m' hf a (by omega)) hG).1 hp
  have Se := fun (m' : zM) u p hu hp w h c => tz_ssee (R := R) (m := m') (u := u) (p := p) (TK_S hB) hu hp w h c
  have Wn2 : ∀ (m' : zM) (hf : zfr [t + 22, t + 23, t + 24] m m') u, ev 95 0 [(2, t + 9), (0, u), (0, m t 3), (9, 0)] [] R m' = some ((0, if zwant m t u = true then 1 else 0), R, m') := by
    intro m' hf u
    rw [Wn m' hf u]
    unfold zwant zwai
    simp only [tn_1_1, tn_1_2, tn_1_3, tn_1_4, tn_1_5, tn_7_1, tn_9_1, tn_9_2, tn_9_3, tn_9_4, tn_9_5, tn_9_6, tn_9_7, tn_9_8, tn_9_9, tn_9_10, tn_9_11, tn_9_12, tn_9_13, tn_9_14, tn_9_15]
    rw [row m' hf (t + 9) (by omega), row m' hf (t + 10) (by omega), row m' hf (t + 13) (by omega), row m' hf (t + 14) (by omega), row m' hf (t + 15) (by omega)]
  have Wo2 : ∀ (m' : zM) (hf : zfr [t + 22, t + 23, t + 24] m m') p u, 0 ≤ p ∧ p < m (t + 1) 2 → ev 118 0 [(2, t), (0, p), (0, u), (9, 0), (9, 0)] [] R m' = some ((0, zwor m t p u), R, m') := by
    intro m' hf p u hp
    rw [Wo m' hf p u (by rw [row m' hf _ (by omega)]; exact hp)]
    unfold zwor
    rw [row m' hf t (by omega), row m' hf (t + 1) (by omega), row m' hf (t + 2) (by omega), row m' hf (t + 4) (by omega), row m' hf (t + 7) (by omega), row m' hf (t + 8) (by omega)]
  have My2 : ∀ (m' : zM) (hf : zfr [t + 22, t + 23, t + 24] m m') p u, 1 ≤ u ∧ u ≤ 3 → 0 ≤ p ∧ p < m (t + 1) 2 → ev 120 0 [(2, t), (0, p), (0, u), (9, 0)] [] R m' = some ((0, if zmys m t p u = true then 1 else 0), R, m') := by
    intro m' hf p u hu hp
    rw [My m' hf p u hu (by rw [row m' hf _ (by omega)]; exact hp)]
    unfold zmys
    rw [row m' hf t (by omega), row m' hf (t + 1) (by omega), row m' hf (t + 2) (by omega), row m' hf (t + 4) (by omega), row m' hf (t + 7) (by omega), row m' hf (t + 8) (by omega)]
  have He2 : ∀ (m' : zM) (hf : zfr [t + 22, t + 23, t + 24] m m') p, 0 ≤ p ∧ p < m (t + 1) 2 → ev 26 0 [(2, t + 1), (0, p)] [] R m' = some ((0, m (t + 3) p), R, m') := by
    intro m' hf p hp
    rw [He m' hf p (by rw [row m' hf _ (by omega)]; exact hp)]
    simp only [tn_1_1, tn_1_2, tn_1_3, tn_1_4, tn_1_5, tn_7_1, tn_9_1, tn_9_2, tn_9_3, tn_9_4, tn_9_5, tn_9_6, tn_9_7, tn_9_8, tn_9_9, tn_9_10, tn_9_11, tn_9_12, tn_9_13, tn_9_14, tn_9_15]
    rw [row m' hf (t + 3) (by omega)]
  simp only [tn_1_1, tn_1_2, tn_1_3, tn_1_4, tn_1_5, tn_7_1, tn_9_1, tn_9_2, tn_9_3, tn_9_4, tn_9_5, tn_9_6, tn_9_7, tn_9_8, tn_9_9, tn_9_10, tn_9_11, tn_9_12, tn_9_13, tn_9_14, tn_9_15] at Se
  obtain ⟨hTK0, hTK1, hTK2, hTK3, hTK4, hTK5, hTK6, hTK7, hTK8, hTK9, hTK10, hTK11, hTK12, hTK13, hTK14, hTK15, hTK16, hTK17, hTK18, hTK19, hTK20, hTK21, hTK22, hTK23, hTK24, hTK25, hTK26, hTK27, hTK28, hTK29, hTK30, hTK31, hTK32, hTK33, hTK34, hTK35, hTK36, hTK37, hTK38, hTK39, hTK40, hTK41, hTK42, hTK43, hTK44, hTK45, hTK46, hTK47, hTK48, hTK49, hTK50, hTK51, hTK52, hTK53, hTK54, hTK55, hTK56, hTK57, hTK58, hTK59, hTK60, hTK61, hTK62, hTK63, hTK64, hTK65, hTK66, hTK67, hTK68, hTK69, hTK70, hTK71, hTK72, hTK73, hTK74, hTK75, hTK76, hTK77, hTK78⟩ := hB
  simp only [s121_0, s121_1, s121_3, s121_4, s121_7, s121_8, s121_11, s121_12, s121_13, s121_16, s121_19, s121_22, s121_25, s121_26, s121_28, s121_29, s121_32, s121_35, s121_38, s121_39, s121_42, s121_43, s121_44, s121_45, s121_46, s121_47, s121_50, s121_51, s121_54, s121_55, s121_58, s121_59, s121_60, s121_61, s121_64, s121_67, s121_70, s121_73, s121_76, s121_79, zps_0, zps_1, zps_2, zps_3, zps_9, Option.bind_some, Option.bind_none, Int.reduceEq, Int.reduceNe, Int.reduceLT, Int.reduceLE, Int.reduceNeg, Int.reduceAdd, Int.reduceSub, Int.reduceMul, reduceIte, if_true, if_false, true_and, and_true, false_and, and_false, or_true, true_or, or_false, false_or, not_true_eq_false, not_false_eq_true, ite_not, z_b0, z_b1, z_b01, hTK0, hTK1, hTK2, hTK3, hTK4, hTK5, hTK6, hTK7, hTK8, hTK9, hTK10, hTK11, hTK12, hTK13, hTK14, hTK15, hTK16, hTK17, hTK18, hTK19, hTK20, hTK21, hTK22, hTK23, hTK24, hTK25, hTK26, hTK27, hTK28, hTK29, hTK30, hTK31, hTK32, hTK33, hTK34, hTK35, hTK36, hTK37, hTK38, hTK39, hTK40, hTK41, hTK42, hTK43, hTK44, hTK45, hTK46, hTK47, hTK48, hTK49, hTK50, hTK51, hTK52, hTK53, hTK54, hTK55, hTK56, hTK57, hTK58, hTK59, hTK60, hTK61, hTK62, hTK63, hTK64, hTK65, hTK66, hTK67, hTK68, hTK69, hTK70, hTK71, hTK72, hTK73, hTK74, hTK75, hTK76, hTK77, hTK78]
  refine zloop (fun r => ∃ m' : zM, r = some ((9, 0), R, m') ∧ zfr [t + 22, t + 23, t + 24] m m' ∧ ∀ u, 1 ≤ u → u ≤ 3 → zwant m t u = true → SP m m' t u) (fun u (a : zM × zV) => ev 121 2 [(2, t), (0, u), a.2] [] R a.1) 4 (fun u a => 1 ≤ u ∧ zfr [t + 22, t + 23, t + 24] m a.1 ∧ ∀ u', 1 ≤ u' → u' < u → zwant m t u' = true → SP m a.1 t u') ?_ ?_ 1 (m, (9, 0)) (by omega) ⟨by omega, zfr_rf _ _, fun u' h1 h2 => by omega⟩
  · intro u ⟨m1, l2⟩ hu ⟨hu0, hf, hI⟩ ih
    dsimp only at hf hI
    rw [s121_2]
    simp (disch := omega) only [s121_0, s121_1, s121_3, s121_4, s121_7, s121_8, s121_11, s121_12, s121_13, s121_16, s121_19, s121_22, s121_25, s121_26, s121_28, s121_29, s121_32, s121_35, s121_38, s121_39, s121_42, s121_43, s121_44, s121_45, s121_46, s121_47, s121_50, s121_51, s121_54, s121_55, s121_58, s121_59, s121_60, s121_61, s121_64, s121_67, s121_70, s121_73, s121_76, s121_79, zps_0, zps_1, zps_2, zps_3, zps_9, Option.bind_some, Option.bind_none, Int.reduceEq, Int.reduceNe, Int.reduceLT, Int.reduceLE, Int.reduceNeg, Int.reduceAdd, Int.reduceSub, Int.reduceMul, reduceIte, if_true, if_false, true_and, and_true, false_and, and_false, or_true, true_or, or_false, false_or, not_true_eq_false, not_false_eq_true, ite_not, z_b0, z_b1, z_b01, hTK0, hTK1, hTK2, hTK3, hTK4, hTK5, hTK6, hTK7, hTK8, hTK9, hTK10, hTK11, hTK12, hTK13, hTK14, hTK15, hTK16, hTK17, hTK18, hTK19, hTK20, hTK21, hTK22, hTK23, hTK24, hTK25, hTK26, hTK27, hTK28, hTK29, hTK30, hTK31, hTK32, hTK33, hTK34, hTK35, hTK36, hTK37, hTK38, hTK39, hTK40, hTK41, hTK42, hTK43, hTK44, hTK45, hTK46, hTK47, hTK48, hTK49, hTK50, hTK51, hTK52, hTK53, hTK54, hTK55, hTK56, hTK57, hTK58, hTK59, hTK60, hTK61, hTK62, hTK63, hTK64, hTK65, hTK66, hTK67, hTK68, hTK69, hTK70, hTK71, hTK72, hTK73, hTK74, hTK75, hTK76, hTK77, hTK78, if_neg (show ¬ 3 < u by omega), Wn2 m1 hf, row m1 hf t (by omega), zw_i]
    by_cases hw : zwant m t u = true
    · rw [if_pos hw]
      refine zloop (fun r => ∃ m' : zM, r = some ((9, 0), R, m') ∧ zfr [t + 22, t + 23, t + 24] m m' ∧ ∀ u, 1 ≤ u → u ≤ 3 → zwant m t u = true → SP m m' t u) (fun p (m' : zM) => ev 121 27 [(2, t), (0, u), (0, p)] [] R m') (m (t + 1) 2) (fun p m' => 0 ≤ p ∧ zfr [t + 22, t + 23, t + 24] m m' ∧ (∀ u', 1 ≤ u' → u' < u → zwant m t u' = true → SP m m' t u') ∧ ∀ q, 0 ≤ q → q < p → m' (t + 23) (64 * u + q) = zwor m t q u ∧ zbt (m' (t + 22) u) q = zmys m t q u ∧ m' (t + 24) q = m (t + 3) q) ?_ ?_ 0 m1 (by omega) ⟨by omega, hf, hI, fun q h1 h2 => by omega⟩
      · intro p m2 hp ⟨hp0, hf2, hJ, hK⟩ ih2
        rw [s121_27]
        simp (disch := omega) only [s121_0, s121_1, s121_3, s121_4, s121_7, s121_8, s121_11, s121_12, s121_13, s121_16, s121_19, s121_22, s121_25, s121_26, s121_28, s121_29, s121_32, s121_35, s121_38, s121_39, s121_42, s121_43, s121_44, s121_45, s121_46, s121_47, s121_50, s121_51, s121_54, s121_55, s121_58, s121_59, s121_60, s121_61, s121_64, s121_67, s121_70, s121_73, s121_76, s121_79, zps_0, zps_1, zps_2, zps_3, zps_9, Option.bind_some, Option.bind_none, Int.reduceEq, Int.reduceNe, Int.reduceLT, Int.reduceLE, Int.reduceNeg, Int.reduceAdd, Int.reduceSub, Int.reduceMul, reduceIte, if_true, if_false, true_and, and_true, false_and, and_false, or_true, true_or, or_false, false_or, not_true_eq_false, not_false_eq_true, ite_not, z_b0, z_b1, z_b01, hTK0, hTK1, hTK2, hTK3, hTK4, hTK5, hTK6, hTK7, hTK8, hTK9, hTK10, hTK11, hTK12, hTK13, hTK14, hTK15, hTK16, hTK17, hTK18, hTK19, hTK20, hTK21, hTK22, hTK23, hTK24, hTK25, hTK26, hTK27, hTK28, hTK29, hTK30, hTK31, hTK32, hTK33, hTK34, hTK35, hTK36, hTK37, hTK38, hTK39, hTK40, hTK41, hTK42, hTK43, hTK44, hTK45, hTK46, hTK47, hTK48, hTK49, hTK50, hTK51, hTK52, hTK53, hTK54, hTK55, hTK56, hTK57, hTK58, hTK59, hTK60, hTK61, hTK62, hTK63, hTK64, hTK65, hTK66, hTK67, hTK68, hTK69, hTK70, hTK71, hTK72, hTK73, hTK74, hTK75, hTK76, hTK77, hTK78, row m2 hf2 (t + 1) (by omega), if_neg (show ¬ m (t + 1) 2 ≤ p by omega), Wo2 m2 hf2 p u ⟨hp0, hp⟩, He2 m2 hf2 p ⟨hp0, hp⟩, My2 m2 hf2 p u ⟨hu0, by omega⟩ ⟨hp0, hp⟩, Se m2 u p ⟨hu0, by omega⟩ ⟨hp0, by omega⟩, zw_i]
        refine ih2 _ ⟨by omega, ?_, ?_, ?_⟩
        · intro a ha
          obtain ⟨a1, a2, a3⟩ := zmem3 ha
          rw [zpr_ne a1, zpr_ne a3, zpr_ne a2]
          exact hf2 a ha
        · intro u' h1 h2 h3 q h4 h5
          have := hJ u' h1 h2 h3 q h4 h5
          simp (disch := omega) only [zpr_ne, zpr_at, zrw_ne]
          refine ⟨this.1, this.2.1, ?_⟩
          rw [zrw_if]
          split
          next e => rw [e]
          next => exact this.2.2
        · intro q h4 h5
          simp (disch := omega) only [zpr_ne, zpr_at, zrw_at]
          by_cases e : q = p
          · subst e
            rw [zrw_at, zrw_at]
            refine ⟨rfl, ?_, rfl⟩
            cases hc : zmys m t q u
            · rw [if_neg (by decide), zbt_clr ⟨h4, by omega⟩ ⟨h4, by omega⟩]
              simp
            · rw [if_pos rfl, zbt_set ⟨h4, by omega⟩ ⟨h4, by omega⟩]
              simp
          · have := hK q h4 (by omega)
            rw [zrw_ne (by omega), zrw_ne e]
            refine ⟨this.1, ?_, this.2.2⟩
            rw [← this.2.1]
            split
            · rw [zbt_set ⟨hp0, by omega⟩ ⟨h4, by omega⟩]
              simp [e]
            · rw [zbt_clr ⟨hp0, by omega⟩ ⟨h4, by omega⟩]
              simp [e]
      · intro m2 ⟨hp0, hf2, hJ, hK⟩
        rw [s121_27]
        simp (disch := omega) only [s121_0, s121_1, s121_3, s121_4, s121_7, s121_8, s121_11, s121_12, s121_13, s121_16, s121_19, s121_22, s121_25, s121_26, s121_28, s121_29, s121_32, s121_35, s121_38, s121_39, s121_42, s121_43, s121_44, s121_45, s121_46, s121_47, s121_50, s121_51, s121_54, s121_55, s121_58, s121_59, s121_60, s121_61, s121_64, s121_67, s121_70, s121_73, s121_76, s121_79, zps_0, zps_1, zps_2, zps_3, zps_9, Option.bind_some, Option.bind_none, Int.reduceEq, Int.reduceNe, Int.reduceLT, Int.reduceLE, Int.reduceNeg, Int.reduceAdd, Int.reduceSub, Int.reduceMul, reduceIte, if_true, if_false, true_and, and_true, false_and, and_false, or_true, true_or, or_false, false_or, not_true_eq_false, not_false_eq_true, ite_not, z_b0, z_b1, z_b01, hTK0, hTK1, hTK2, hTK3, hTK4, hTK5, hTK6, hTK7, hTK8, hTK9, hTK10, hTK11, hTK12, hTK13, hTK14, hTK15, hTK16, hTK17, hTK18, hTK19, hTK20, hTK21, hTK22, hTK23, hTK24, hTK25, hTK26, hTK27, hTK28, hTK29, hTK30, hTK31, hTK32, hTK33, hTK34, hTK35, hTK36, hTK37, hTK38, hTK39, hTK40, hTK41, hTK42, hTK43, hTK44, hTK45, hTK46, hTK47, hTK48, hTK49, hTK50, hTK51, hTK52, hTK53, hTK54, hTK55, hTK56, hTK57, hTK58, hTK59, hTK60, hTK61, hTK62, hTK63, hTK64, hTK65, hTK66, hTK67, hTK68, hTK69, hTK70, hTK71, hTK72, hTK73, hTK74, hTK75, hTK76, hTK77, hTK78, row m2 hf2 (t + 1) (by omega), if_pos (show m (t + 1) 2 ≤ m (t + 1) 2 by omega), zw_i]
        refine ih (m2, (0, m (t + 1) 2)) ⟨by omega, hf2, fun u' h1 h2 h3 => ?_⟩
        by_cases e : u' = u
        · subst e; exact hK
        · exact hJ u' h1 (by omega) h3
    · rw [if_neg hw]
      refine ih (m1, l2) ⟨by omega, hf, fun u' h1 h2 h3 => ?_⟩
      by_cases e : u' = u
      · subst e; exact absurd h3 hw
      · exact hI u' h1 (by omega) h3
  · intro ⟨m1, l2⟩ ⟨hu0, hf, hI⟩
    rw [s121_2]
    simp only [s121_0, s121_1, s121_3, s121_4, s121_7, s121_8, s121_11, s121_12, s121_13, s121_16, s121_19, s121_22, s121_25, s121_26, s121_28, s121_29, s121_32, s121_35, s121_38, s121_39, s121_42, s121_43, s121_44, s121_45, s121_46, s121_47, s121_50, s121_51, s121_54, s121_55, s121_58, s121_59, s121_60, s121_61, s121_64, s121_67, s121_70, s121_73, s121_76, s121_79, zps_0, zps_1, zps_2, zps_3, zps_9, Option.bind_some, Option.bind_none, Int.reduceEq, Int.reduceNe, Int.reduceLT, Int.reduceLE, Int.reduceNeg, Int.reduceAdd, Int.reduceSub, Int.reduceMul, reduceIte, if_true, if_false, true_and, and_true, false_and, and_false, or_true, true_or, or_false, false_or, not_true_eq_false, not_false_eq_true, ite_not, z_b0, z_b1, z_b01, hTK0, hTK1, hTK2, hTK3, hTK4, hTK5, hTK6, hTK7, hTK8, hTK9, hTK10, hTK11, hTK12, hTK13, hTK14, hTK15, hTK16, hTK17, hTK18, hTK19, hTK20, hTK21, hTK22, hTK23, hTK24, hTK25, hTK26, hTK27, hTK28, hTK29, hTK30, hTK31, hTK32, hTK33, hTK34, hTK35, hTK36, hTK37, hTK38, hTK39, hTK40, hTK41, hTK42, hTK43, hTK44, hTK45, hTK46, hTK47, hTK48, hTK49, hTK50, hTK51, hTK52, hTK53, hTK54, hTK55, hTK56, hTK57, hTK58, hTK59, hTK60, hTK61, hTK62, hTK63, hTK64, hTK65, hTK66, hTK67, hTK68, hTK69, hTK70, hTK71, hTK72, hTK73, hTK74, hTK75, hTK76, hTK77, hTK78]
    exact ⟨m1, rfl, hf, fun u h1 h2 h3 => hI u h1 (by omega) h3⟩
end TOWN3
