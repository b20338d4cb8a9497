/-! plans: the class tries them and chooses -/
theorem zk1 {k : Nat} (h : k < 1000) : zw ((k : Int) + 1) = ((k + 1 : Nat) : Int) := by rw [zw_i (by omega) (by omega)]; rfl
def PIv (m x : zM) (t : Int) (G U : Int → Int) (d : Int) : Prop := (∀ b, b ≠ t + 1 → b ≠ t + 2 → b ≠ t + 4 → b ≠ t + 5 → x b = m b) ∧ (∀ j, j ≠ 3 → x (t + 1) j = m (t + 1) j) ∧ x (t + 2) = G ∧ x (t + 4) = U ∧ BV x (t + 1) ∧ TV x (t + 1) ∧ m (t + 1) 3 ≤ x (t + 1) 3 ∧ x (t + 1) 3 ≤ m (t + 1) 3 + d
theorem zrw_id {f : Int → Int} {k v : Int} (h : f k = v) : zrw f k v = f := by
  funext q
  rw [zrw_if]
  split
  next e => rw [e, h]
  next => rfl
section PLANS2
variable {R m x y : zM} {t s p g d B : Int} {n : Nat} {P Kd C G U : Int → Int} {N : Int}
theorem PLs_c (h : ∀ b, 87 ≤ b → b ≤ 90 → x b = m b) (hP : PLs m n N) : PLs x n N := by
  unfold PLs at *
  rw [h 87 (by decide) (by decide), h 88 (by decide) (by decide), h 89 (by decide) (by decide), h 90 (by decide) (by decide)]
  exact hP
theorem PIv_n (h : PIv m x t G U d) : x (t + 1) 2 = m (t + 1) 2 ∧ x (t + 1) 0 = m (t + 1) 0 := ⟨h.2.1 2 (by decide), h.2.1 0 (by decide)⟩
theorem PIv_g (h : PIv m x t G U d) (hp : 0 ≤ p ∧ p < m (t + 1) 2) (hg : 0 ≤ g ∧ g ≤ 2) : PIv m (zgput x (t + 1) p g) t (zrw G p g) U (d + 1) := by
  have hn := (PIv_n h).1
  obtain ⟨h1, h2, h3, h4, h5, h6, h7, h8⟩ := h
  obtain ⟨r1, r0, r4, rr⟩ := zgput_rows x (t + 1) p g
  obtain ⟨o1, o2⟩ := zgput_ok h5 h6 (p := p) (g := g) (by rw [hn]; exact hp) hg
  rw [show t + 1 + 1 = t + 2 by omega] at r1
  refine ⟨fun b b1 b2 b3 b4 => ?_, fun j hj => ?_, by rw [r1, h3], ?_, o1, o2, ?_, ?_⟩
  · rw [rr b b1 (by omega) (by omega)]; exact h1 b b1 b2 b3 b4
  · rw [r0, zrw_ne hj]; exact h2 j hj
  · rw [rr (t + 4) (by omega) (by omega) (by omega)]; exact h4
  · rw [r0, zrw_at]; omega
  · rw [r0, zrw_at]; omega
theorem PIv_u (h : PIv m x t G U d) (hp : 0 ≤ p ∧ p < m (t + 1) 2) (hg : 0 ≤ g ∧ g ≤ 3) : PIv m (zuput x (t + 1) p g) t G (zrw U p g) d := by
  have hn := (PIv_n h).1
  obtain ⟨h1, h2, h3, h4, h5, h6, h7, h8⟩ := h
  obtain ⟨r3, r4, rr⟩ := zuput_rows x (t + 1) p g
  obtain ⟨o1, o2⟩ := zuput_ok h5 h6 (p := p) (g := g) (by rw [hn]; exact hp) hg
  rw [show t + 1 + 3 = t + 4 by omega] at r3
  refine ⟨fun b b1 b2 b3 b4 => ?_, fun j hj => ?_, ?_, by rw [r3, h4], o1, o2, ?_, ?_⟩
  · rw [rr b (by omega) (by omega)]; exact h1 b b1 b2 b3 b4
  · rw [rr (t + 1) (by omega) (by omega)]; exact h2 j hj
  · rw [rr (t + 2) (by omega) (by omega)]; exact h3
  · rw [rr (t + 1) (by omega) (by omega)]; exact h7
  · rw [rr (t + 1) (by omega) (by omega)]; exact h8
theorem PIv_le {d' : Int} (h : PIv m x t G U d) (hd : d ≤ d') : PIv m x t G U d' := ⟨h.1, h.2.1, h.2.2.1, h.2.2.2.1, h.2.2.2.2.1, h.2.2.2.2.2.1, h.2.2.2.2.2.2.1, by have := h.2.2.2.2.2.2.2; omega⟩
theorem PIv_TG (h : PIv m x t G U d) (hG : TG m t) : TG x t := by
  refine ⟨h.2.2.2.2.1, NV_c (m := m) (h.2.1 2 (by decide)) (h.2.1 0 (by decide)) ?_ hG.2.1, h.2.2.2.2.2.1, ?_⟩
  · rw [show t + 1 + 5 = t + 6 by omega]; exact h.1 (t + 6) (by omega) (by omega) (by omega) (by omega)
  · rw [h.1 (t + 7) (by omega) (by omega) (by omega) (by omega), h.1 (t + 8) (by omega) (by omega) (by omega) (by omega)]; exact hG.2.2.2
theorem tz_plput {o : Int} (hB : BK R o) (hV : BV x o) (hC : 0 ≤ x o 3 ∧ x o 3 < 2000000000) (hp : 0 ≤ p ∧ p < x o 2) (hg : 0 ≤ g ∧ g ≤ 3) : ev 84 0 [(2, o), (0, p), (0, g)] [] R x = some ((9, 0), R, if g = 0 then zgput x o p 2 else zuput x o p g) := by
  have PG : ev 20 0 [(2, o), (0, p), (0, 2), (9, 0)] [] R x = some ((0, x (o + 1) p), R, zgput x o p 2) := tz_putGround hB hV hC hp (by omega)
  have PU : ev 25 0 [(2, o), (0, p), (0, g), (9, 0)] [] R x = some ((0, x (o + 3) p), R, zuput x o p g) := tz_putUse hB hV hp hg
  have b0 := hB.1
  by_cases c : g = 0
  · subst c
    rw [if_pos rfl]
    simp only [s84_0, s84_1, s84_4, s84_5, s84_6, s84_7, s84_10, s84_11, s84_14, s84_15, s84_16, s84_17, s84_20, s84_21, zps_0, zps_1, zps_2, zps_3, zps_9, Option.bind_some, Option.bind_none, Int.reduceEq, Int.reduceNe, Int.reduceLT, Int.reduceLE, Int.reduceNeg, Int.reduceAdd, Int.reduceSub, Int.reduceMul, reduceIte, if_true, if_false, true_and, and_true, false_and, and_false, or_true, true_or, or_false, false_or, not_true_eq_false, not_false_eq_true, ite_not, z_b0, z_b1, z_b01, b0, PG, if_true, if_false]
  · rw [if_neg c]
    simp only [s84_0, s84_1, s84_4, s84_5, s84_6, s84_7, s84_10, s84_11, s84_14, s84_15, s84_16, s84_17, s84_20, s84_21, zps_0, zps_1, zps_2, zps_3, zps_9, Option.bind_some, Option.bind_none, Int.reduceEq, Int.reduceNe, Int.reduceLT, Int.reduceLE, Int.reduceNeg, Int.reduceAdd, Int.reduceSub, Int.reduceMul, reduceIte, if_true, if_false, true_and, and_true, false_and, and_false, or_true, true_or, or_false, false_or, not_true_eq_false, not_false_eq_true, ite_not, z_b0, z_b1, z_b01, b0, PU, c, if_true, if_false]
theorem tz_pltake {o : Int} (hB : BK R o) (hV : BV x o) (hT : TV x o) (hC : 0 ≤ x o 3 ∧ x o 3 < 2000000000) (hp : 0 ≤ p ∧ p < x o 2) : ev 85 0 [(2, o), (0, p)] [] R x = some ((9, 0), R, zuput (zgput x o p 0) o p 0) := by
  have PG : ev 20 0 [(2, o), (0, p), (0, 0), (9, 0)] [] R x = some ((0, x (o + 1) p), R, zgput x o p 0) := tz_putGround hB hV hC hp (by omega)
  obtain ⟨o1, o2⟩ := zgput_ok hV hT (p := p) (g := 0) hp (by omega)
  obtain ⟨-, r0, -, -⟩ := zgput_rows x o p 0
  have PU : ev 25 0 [(2, o), (0, p), (0, 0), (9, 0)] [] R (zgput x o p 0) = some ((0, zgput x o p 0 (o + 3) p), R, zuput (zgput x o p 0) o p 0) := tz_putUse hB o1 (by rw [r0, zrw_ne (by decide)]; exact hp) (by omega)
  have b0 := hB.1
  simp only [s85_0, s85_1, s85_2, s85_3, s85_6, s85_7, s85_8, s85_9, s85_10, s85_13, s85_14, zps_0, zps_1, zps_2, zps_3, zps_9, Option.bind_some, Option.bind_none, Int.reduceEq, Int.reduceNe, Int.reduceLT, Int.reduceLE, Int.reduceNeg, Int.reduceAdd, Int.reduceSub, Int.reduceMul, reduceIte, if_true, if_false, true_and, and_true, false_and, and_false, or_true, true_or, or_false, false_or, not_true_eq_false, not_false_eq_true, ite_not, z_b0, z_b1, z_b01, b0, PG, PU]
theorem zle12 {n : Nat} (h : n ≤ 6) : 6 + (n : Int) ≤ 12 := by omega
theorem zadd1 (k : Nat) : 6 + (k : Int) + 1 = 6 + ((k + 1 : Nat) : Int) := by omega
theorem tz_plsum (hQK : QK R) (hB : TK R t) (hG : TG m t) (ht : 2 ≤ t ∧ t + 27 < 58) (h : PLs m n (m (t + 1) 2)) (hC : 0 ≤ m (t + 1) 3 ∧ m (t + 1) 3 < 1900000000) (hcan : pCan (m 88) (m (t + 2)) (m (t + 4)) s n = true) : ∃ x : zM, ev 82 0 [(2, 87), (0, s), (2, t), (9, 0), (9, 0)] [] R m = some ((0, zsow (m (t + 1) 2) (m (t + 1) 0) (m (t + 7) 0) (m t 3) (pGU (m 88) (m 89) (m (t + 2)) (m (t + 4)) s n).1 (pGU (m 88) (m 89) (m (t + 2)) (m (t + 4)) s n).2 (m (t + 8))), R, x) ∧ PIv m x t (m (t + 2)) (m (t + 4)) 12 := by
  have h6 := h.2.1
  have hBB := TK_B hB
  have can := pCan_iff.1 hcan
  have L0 : ev 82 0 [(2, 87), (0, s), (2, t), (9, 0), (9, 0)] [] R m = ev 82 2 [(2, 87), (0, s), (2, t), (0, 0), (9, 0)] [] R m := by
    simp only [s82_0, s82_1, s82_3, s82_4, s82_7, s82_10, s82_11, s82_12, s82_13, s82_16, s82_19, s82_20, s82_23, s82_24, s82_25, s82_28, s82_29, s82_30, s82_33, s82_36, s82_39, s82_42, s82_43, s82_46, s82_47, s82_48, s82_52, s82_53, s82_56, s82_59, s82_60, s82_61, s82_63, s82_66, s82_69, s82_70, s82_73, s82_74, s82_76, s82_79, s82_82, s82_85, s82_88, s82_89, zps_0, zps_1, zps_2, zps_3, zps_9, Option.bind_some, Option.bind_none, Int.reduceEq, Int.reduceNe, Int.reduceLT, Int.reduceLE, Int.reduceNeg, Int.reduceAdd, Int.reduceSub, Int.reduceMul, reduceIte, if_true, if_false, true_and, and_true, false_and, and_false, or_true, true_or, or_false, false_or, not_true_eq_false, not_false_eq_true, ite_not, z_b0, z_b1, z_b01]
  rw [L0]
  have K1 : ∀ k : Nat, k ≤ n → ∃ x : zM, ev 82 2 [(2, 87), (0, s), (2, t), (0, 0), (9, 0)] [] R m = ev 82 2 [(2, 87), (0, s), (2, t), (0, (k : Int)), (9, 0)] [] R x ∧ PIv m x t (pGU (m 88) (m 89) (m (t + 2)) (m (t + 4)) s k).1 (pGU (m 88) (m 89) (m (t + 2)) (m (t + 4)) s k).2 k := by
    intro k
    induction k with
    | zero => intro _; refine ⟨m, rfl, fun _ _ _ _ _ => rfl, fun _ _ => rfl, rfl, rfl, hG.1, hG.2.2.1, ?_, ?_⟩ <;> omega
    | succ k ih =>
      intro hk
      obtain ⟨x, e1, hI⟩ := ih (by omega)
      have hPx : PLs x n (m (t + 1) 2) := PLs_c (fun b b0 b1 => hI.1 b (by omega) (by omega) (by omega) (by omega)) h
      have x88 : x 88 = m 88 := hI.1 88 (by omega) (by omega) (by omega) (by omega)
      have x89 : x 89 = m 89 := hI.1 89 (by omega) (by omega) (by omega) (by omega)
      have x0 := hPx.1
      obtain ⟨pk, kk, ck⟩ := h.2.2 k (by omega) (by omega)
      have c1 : (k : Int) < n := by omega
      have c2 : ¬ (n : Int) ≤ k := by omega
      have z1k : k < 1000 := by omega
      have I := tz_plisIn (R := R) hQK hPx (k := k) ⟨by omega, by omega⟩ s
      have PP := tz_plplot (R := R) hQK hPx (k := k) ⟨by omega, by omega⟩
      have KI := tz_plkind (R := R) hQK hPx (k := k) ⟨by omega, by omega⟩
      rw [x88] at PP
      rw [x89] at KI
      by_cases b : ybt s k = true
      · rw [if_pos b] at I
        have PT := tz_plput (R := R) (x := x) (o := t + 1) (p := m 88 k) (g := m 89 k) hBB hI.2.2.2.2.1 (by have := hI.2.2.2.2.2.2; omega) (by rw [(PIv_n hI).1]; exact pk) kk
        obtain ⟨fr, df⟩ := can k (by omega) b
        have out := pGU_out (P := m 88) (Kd := m 89) (G := m (t + 2)) (U := m (t + 4)) (s := s) (q := m 88 k) k (fun a ha hy => df a ha hy)
        obtain ⟨M, hM⟩ : ∃ M, (if m 89 k = 0 then zgput x (t + 1) (m 88 k) 2 else zuput x (t + 1) (m 88 k) (m 89 k)) = M := ⟨_, rfl⟩
        rw [hM] at PT
        refine ⟨M, ?_, ?_⟩
        · rw [e1, s82_2]
          simp only [s82_0, s82_1, s82_3, s82_4, s82_7, s82_10, s82_11, s82_12, s82_13, s82_16, s82_19, s82_20, s82_23, s82_24, s82_25, s82_28, s82_29, s82_30, s82_39, s82_42, s82_43, s82_46, s82_47, s82_48, s82_52, s82_53, s82_56, s82_59, s82_60, s82_61, s82_63, s82_66, s82_69, s82_70, s82_73, s82_74, s82_76, s82_79, s82_82, s82_85, s82_88, s82_89, zps_0, zps_1, zps_2, zps_3, zps_9, Option.bind_some, Option.bind_none, Int.reduceEq, Int.reduceNe, Int.reduceLT, Int.reduceLE, Int.reduceNeg, Int.reduceAdd, Int.reduceSub, Int.reduceMul, reduceIte, if_true, if_false, true_and, and_true, false_and, and_false, or_true, true_or, or_false, false_or, not_true_eq_false, not_false_eq_true, ite_not, z_b0, z_b1, z_b01, rQK0 hQK, rQK1 hQK, rQK2 hQK, kQK0, kQK1, kQK2, kQK3, kQK4, kQK5, kQK6, hB.1, hB.2.1, x0, c1, c2, I, PP, KI, if_true, if_false]
          rw [s82_33, PT, Option.bind_some]
          show ev 82 36 [(2, 87), (0, s), (2, t), (0, (k : Int)), (9, 0)] (zps (9, 0) []) R M = _
          rw [zps_9, s82_36, zk1 z1k, s82_39]
        · rw [← hM]
          simp only [pGU]
          rw [if_pos b]
          dsimp only
          by_cases z : m 89 k = 0
          · rw [if_pos z, if_pos z, z, zrw_id (out.2.trans fr.2)]
            refine PIv_le (PIv_g hI pk ?_) ?_ <;> omega
          · rw [if_neg z, if_neg z, zrw_id (out.1.trans fr.1)]
            refine PIv_le (PIv_u hI pk kk) ?_
            omega
      · rw [if_neg b] at I
        refine ⟨x, ?_, ?_⟩
        · rw [e1, s82_2]
          simp only [s82_0, s82_1, s82_3, s82_4, s82_7, s82_10, s82_11, s82_12, s82_13, s82_16, s82_19, s82_20, s82_23, s82_24, s82_25, s82_28, s82_29, s82_30, s82_33, s82_36, s82_39, s82_42, s82_43, s82_46, s82_47, s82_48, s82_52, s82_53, s82_56, s82_59, s82_60, s82_61, s82_63, s82_66, s82_69, s82_70, s82_73, s82_74, s82_76, s82_79, s82_82, s82_85, s82_88, s82_89, zps_0, zps_1, zps_2, zps_3, zps_9, Option.bind_some, Option.bind_none, Int.reduceEq, Int.reduceNe, Int.reduceLT, Int.reduceLE, Int.reduceNeg, Int.reduceAdd, Int.reduceSub, Int.reduceMul, reduceIte, if_true, if_false, true_and, and_true, false_and, and_false, or_true, true_or, or_false, false_or, not_true_eq_false, not_false_eq_true, ite_not, z_b0, z_b1, z_b01, rQK0 hQK, rQK1 hQK, rQK2 hQK, kQK0, kQK1, kQK2, kQK3, kQK4, kQK5, kQK6, x0, c1, c2, I, zk1 z1k, if_true, if_false]
        · simp only [pGU]
          rw [if_neg b]
          refine PIv_le hI ?_
          omega
  obtain ⟨x, e1, hI⟩ := K1 n (Nat.le_refl _)
  have hPx : PLs x n (m (t + 1) 2) := PLs_c (fun b b0 b1 => hI.1 b (by omega) (by omega) (by omega) (by omega)) h
  have SO := tz_tsow (R := R) hB (PIv_TG hI hG)
  rw [(PIv_n hI).1, (PIv_n hI).2, hI.2.2.1, hI.2.2.2.1, hI.1 (t + 7) (by omega) (by omega) (by omega) (by omega), hI.1 (t + 8) (by omega) (by omega) (by omega) (by omega), hI.1 t (by omega) (by omega) (by omega) (by omega)] at SO
  obtain ⟨v, hv⟩ : ∃ v, zsow (m (t + 1) 2) (m (t + 1) 0) (m (t + 7) 0) (m t 3) (pGU (m 88) (m 89) (m (t + 2)) (m (t + 4)) s n).1 (pGU (m 88) (m 89) (m (t + 2)) (m (t + 4)) s n).2 (m (t + 8)) = v := ⟨_, rfl⟩
  rw [hv] at SO ⊢
  clear hv
  have x0 := hPx.1
  have L1 : ev 82 2 [(2, 87), (0, s), (2, t), (0, (n : Int)), (9, 0)] [] R x = ev 82 50 [(2, 87), (0, s), (2, t), (0, v), (0, 0)] [] R x := by
    rw [s82_2]
    simp only [s82_0, s82_1, s82_3, s82_4, s82_7, s82_10, s82_11, s82_12, s82_13, s82_16, s82_19, s82_20, s82_23, s82_24, s82_25, s82_28, s82_29, s82_30, s82_33, s82_36, s82_39, s82_42, s82_43, s82_46, s82_47, s82_48, s82_52, s82_53, s82_56, s82_59, s82_60, s82_61, s82_63, s82_66, s82_69, s82_70, s82_73, s82_74, s82_76, s82_79, s82_82, s82_85, s82_88, s82_89, zps_0, zps_1, zps_2, zps_3, zps_9, Option.bind_some, Option.bind_none, Int.reduceEq, Int.reduceNe, Int.reduceLT, Int.reduceLE, Int.reduceNeg, Int.reduceAdd, Int.reduceSub, Int.reduceMul, reduceIte, if_true, if_false, true_and, and_true, false_and, and_false, or_true, true_or, or_false, false_or, not_true_eq_false, not_false_eq_true, ite_not, z_b0, z_b1, z_b01, rQK0 hQK, rQK1 hQK, rQK2 hQK, kQK0, kQK1, kQK2, kQK3, kQK4, kQK5, kQK6, hB.1, x0, SO, Int.le_refl, if_true]
  have K2 : ∀ k : Nat, k ≤ n → ∃ y : zM, ev 82 50 [(2, 87), (0, s), (2, t), (0, v), (0, 0)] [] R x = ev 82 50 [(2, 87), (0, s), (2, t), (0, v), (0, (k : Int))] [] R y ∧ PIv m y t (fun q => if zany (fun a => ybt s a && decide (m 88 a = q)) k = true then 0 else (pGU (m 88) (m 89) (m (t + 2)) (m (t + 4)) s n).1 q) (fun q => if zany (fun a => ybt s a && decide (m 88 a = q)) k = true then 0 else (pGU (m 88) (m 89) (m (t + 2)) (m (t + 4)) s n).2 q) (6 + k) := by
    intro k
    induction k with
    | zero =>
      intro _
      refine ⟨x, rfl, ?_⟩
      simp only [zany, Bool.false_eq_true, if_false]
      refine PIv_le hI ?_
      omega
    | succ k ih =>
      intro hk
      obtain ⟨y, e2, hJ⟩ := ih (by omega)
      have hPy : PLs y n (m (t + 1) 2) := PLs_c (fun b b0 b1 => hJ.1 b (by omega) (by omega) (by omega) (by omega)) h
      have y88 : y 88 = m 88 := hJ.1 88 (by omega) (by omega) (by omega) (by omega)
      have y0 := hPy.1
      obtain ⟨pk, kk, ck⟩ := h.2.2 k (by omega) (by omega)
      have c1 : (k : Int) < n := by omega
      have c2 : ¬ (n : Int) ≤ k := by omega
      have z1k : k < 1000 := by omega
      have I := tz_plisIn (R := R) hQK hPy (k := k) ⟨by omega, by omega⟩ s
      have PP := tz_plplot (R := R) hQK hPy (k := k) ⟨by omega, by omega⟩
      rw [y88] at PP
      by_cases b : ybt s k = true
      · rw [if_pos b] at I
        have PT := tz_pltake (R := R) (x := y) (o := t + 1) (p := m 88 k) hBB hJ.2.2.2.2.1 hJ.2.2.2.2.2.1 (by have := hJ.2.2.2.2.2.2; omega) (by rw [(PIv_n hJ).1]; exact pk)
        have J2 := PIv_u (p := m 88 k) (g := 0) (PIv_g (p := m 88 k) (g := 0) hJ pk (by omega)) pk (by omega)
        have fe : ∀ f : Int → Int, zrw (fun q => if zany (fun a => ybt s a && decide (m 88 a = q)) k = true then 0 else f q) (m 88 k) 0 = fun q => if zany (fun a => ybt s a && decide (m 88 a = q)) (k + 1) = true then 0 else f q := by
          intro f
          funext q
          rw [zrw_if]
          have e1 : zany (fun a => ybt s a && decide (m 88 a = q)) (k + 1) = (zany (fun a => ybt s a && decide (m 88 a = q)) k || (ybt s k && decide (m 88 k = q))) := rfl
          rw [e1]
          by_cases e : q = m 88 k
          · rw [if_pos e, b, decide_eq_true e.symm, Bool.and_self, Bool.or_true, if_pos rfl]
          · rw [if_neg e, decide_eq_false (fun z => e z.symm), Bool.and_false, Bool.or_false]
        rw [fe, fe] at J2
        obtain ⟨M, hM⟩ : ∃ M, zuput (zgput y (t + 1) (m 88 k) 0) (t + 1) (m 88 k) 0 = M := ⟨_, rfl⟩
        rw [hM] at PT J2
        refine ⟨M, ?_, PIv_le J2 (Int.le_of_eq (zadd1 k))⟩
        rw [e2, s82_50]
        simp only [s82_0, s82_1, s82_3, s82_4, s82_7, s82_10, s82_11, s82_12, s82_13, s82_16, s82_19, s82_20, s82_23, s82_24, s82_25, s82_28, s82_29, s82_30, s82_33, s82_36, s82_39, s82_42, s82_43, s82_46, s82_47, s82_48, s82_52, s82_53, s82_56, s82_59, s82_60, s82_61, s82_63, s82_66, s82_69, s82_70, s82_73, s82_74, s82_76, s82_85, s82_88, s82_89, zps_0, zps_1, zps_2, zps_3, zps_9, Option.bind_some, Option.bind_none, Int.reduceEq, Int.reduceNe, Int.reduceLT, Int.reduceLE, Int.reduceNeg, Int.reduceAdd, Int.reduceSub, Int.reduceMul, reduceIte, if_true, if_false, true_and, and_true, false_and, and_false, or_true, true_or, or_false, false_or, not_true_eq_false, not_false_eq_true, ite_not, z_b0, z_b1, z_b01, rQK0 hQK, rQK1 hQK, rQK2 hQK, kQK0, kQK1, kQK2, kQK3, kQK4, kQK5, kQK6, hB.1, hB.2.1, y0, c1, c2, I, PP, if_true, if_false]
        rw [s82_79, PT, Option.bind_some]
        show ev 82 82 [(2, 87), (0, s), (2, t), (0, v), (0, (k : Int))] (zps (9, 0) []) R M = _
        rw [zps_9, s82_82, zk1 z1k, s82_85]
      · rw [if_neg b] at I
        have b' : ybt s k = false := by simpa using b
        refine ⟨y, ?_, ?_⟩
        · rw [e2, s82_50]
          simp only [s82_0, s82_1, s82_3, s82_4, s82_7, s82_10, s82_11, s82_12, s82_13, s82_16, s82_19, s82_20, s82_23, s82_24, s82_25, s82_28, s82_29, s82_30, s82_33, s82_36, s82_39, s82_42, s82_43, s82_46, s82_47, s82_48, s82_52, s82_53, s82_56, s82_59, s82_60, s82_61, s82_63, s82_66, s82_69, s82_70, s82_73, s82_74, s82_76, s82_79, s82_82, s82_85, s82_88, s82_89, zps_0, zps_1, zps_2, zps_3, zps_9, Option.bind_some, Option.bind_none, Int.reduceEq, Int.reduceNe, Int.reduceLT, Int.reduceLE, Int.reduceNeg, Int.reduceAdd, Int.reduceSub, Int.reduceMul, reduceIte, if_true, if_false, true_and, and_true, false_and, and_false, or_true, true_or, or_false, false_or, not_true_eq_false, not_false_eq_true, ite_not, z_b0, z_b1, z_b01, rQK0 hQK, rQK1 hQK, rQK2 hQK, kQK0, kQK1, kQK2, kQK3, kQK4, kQK5, kQK6, y0, c1, c2, I, zk1 z1k, if_true, if_false]
        · have e1 : ∀ q, zany (fun a => ybt s a && decide (m 88 a = q)) (k + 1) = zany (fun a => ybt s a && decide (m 88 a = q)) k := fun q => by
            show (zany (fun a => ybt s a && decide (m 88 a = q)) k || (ybt s k && decide (m 88 k = q))) = _
            rw [b', Bool.false_and, Bool.or_false]
          simp only [e1]
          refine PIv_le hJ ?_
          omega
  obtain ⟨y, e2, hJ⟩ := K2 n (Nat.le_refl _)
  have hPy : PLs y n (m (t + 1) 2) := PLs_c (fun b b0 b1 => hJ.1 b (by omega) (by omega) (by omega) (by omega)) h
  have y0 := hPy.1
  have back : (fun q => if zany (fun a => ybt s a && decide (m 88 a = q)) n = true then 0 else (pGU (m 88) (m 89) (m (t + 2)) (m (t + 4)) s n).1 q) = m (t + 2) ∧ (fun q => if zany (fun a => ybt s a && decide (m 88 a = q)) n = true then 0 else (pGU (m 88) (m 89) (m (t + 2)) (m (t + 4)) s n).2 q) = m (t + 4) := by
    have key : ∀ q, (zany (fun a => ybt s a && decide (m 88 a = q)) n = true ∧ m (t + 2) q = 0 ∧ m (t + 4) q = 0) ∨ (¬ zany (fun a => ybt s a && decide (m 88 a = q)) n = true ∧ (pGU (m 88) (m 89) (m (t + 2)) (m (t + 4)) s n).1 q = m (t + 2) q ∧ (pGU (m 88) (m 89) (m (t + 2)) (m (t + 4)) s n).2 q = m (t + 4) q) := by
      intro q
      by_cases a : zany (fun a => ybt s a && decide (m 88 a = q)) n = true
      · left
        obtain ⟨a, a0, a1, ha⟩ := (zany_iff _ _).1 a
        rw [Bool.and_eq_true] at ha
        have := can a.toNat (by omega)
        rw [show ((a.toNat : Nat) : Int) = a by omega] at this
        have f := (this ha.1).1
        rw [of_decide_eq_true ha.2] at f
        exact ⟨‹_›, f⟩
      · right
        exact ⟨a, pGU_out n (fun b hb hy e => a ((zany_iff _ _).2 ⟨b, by omega, by omega, by rw [hy, decide_eq_true e]; rfl⟩))⟩
    constructor
    · funext q
      rcases key q with ⟨a, b, c⟩ | ⟨a, b, c⟩
      · rw [if_pos a, b]
      · rw [if_neg a, b]
    · funext q
      rcases key q with ⟨a, b, c⟩ | ⟨a, b, c⟩
      · rw [if_pos a, c]
      · rw [if_neg a, c]
  rw [back.1, back.2] at hJ
  refine ⟨y, ?_, PIv_le hJ (zle12 h6)⟩
  rw [e1, L1, e2, s82_50]
  simp only [s82_0, s82_1, s82_3, s82_4, s82_7, s82_10, s82_11, s82_12, s82_13, s82_16, s82_19, s82_20, s82_23, s82_24, s82_25, s82_28, s82_29, s82_30, s82_33, s82_36, s82_39, s82_42, s82_43, s82_46, s82_47, s82_48, s82_52, s82_53, s82_56, s82_59, s82_60, s82_61, s82_63, s82_66, s82_69, s82_70, s82_73, s82_74, s82_76, s82_79, s82_82, s82_85, s82_88, s82_89, zps_0, zps_1, zps_2, zps_3, zps_9, Option.bind_some, Option.bind_none, Int.reduceEq, Int.reduceNe, Int.reduceLT, Int.reduceLE, Int.reduceNeg, Int.reduceAdd, Int.reduceSub, Int.reduceMul, reduceIte, if_true, if_false, true_and, and_true, false_and, and_false, or_true, true_or, or_false, false_or, not_true_eq_false, not_false_eq_true, ite_not, z_b0, z_b1, z_b01, rQK0 hQK, rQK1 hQK, rQK2 hQK, kQK0, kQK1, kQK2, kQK3, kQK4, kQK5, kQK6, y0, Int.le_refl, if_true]
end PLANS2
