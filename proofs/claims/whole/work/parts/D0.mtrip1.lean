/-! the model's trips: small things, a way laid and taken -/
def QM (w y : zM) : Prop := (∀ b, b ≠ 100 → ¬ (133 ≤ b ∧ b ≤ 138) → b ≠ 141 → b ≠ 142 → y b = w b) ∧ ∀ k, k ≠ 56 → k ≠ 58 → y 100 k = w 100 k
def MMs (w y : zM) (c : Int → Int) : Prop := QM w y ∧ y 100 56 = 0 ∧ ∀ e, 0 ≤ e → e < 128 → y 135 e = c e ∧ 0 ≤ c e ∧ c e ≤ 1000
section MTRIP1
variable {R w x y z : zM} {T T' : zTS} {t a b : Int} {n : Nat} {c : Int → Int} {D D' : Int → Int}
theorem QM_self (w : zM) : QM w w := ⟨fun _ _ _ _ _ => rfl, fun _ _ _ => rfl⟩
theorem QM_tr (h : QM x y) (g : QM y z) : QM x z := ⟨fun b b1 b2 b3 b4 => (g.1 b b1 b2 b3 b4).trans (h.1 b b1 b2 b3 b4), fun k k1 k2 => (g.2 k k1 k2).trans (h.2 k k1 k2)⟩
theorem QM_zpr (w : zM) {b : Int} (f : Int → Int) (hb : (133 ≤ b ∧ b ≤ 138) ∨ b = 141 ∨ b = 142) : QM w (zpr w b f) :=
  ⟨fun a a1 a2 a3 a4 => zpr_ne (fun e => by subst e; omega), fun k _ _ => by rw [zpr_ne (by omega)]⟩
theorem QM_VD (w : zM) (D N : Int → Int) : QM w (VD w D N) := QM_tr (QM_zpr w D (by omega)) (QM_zpr _ N (by omega))
theorem MMs_q0 (h : MMs w y c) : zq0 (wX w c) y := by
  obtain ⟨⟨q1, q2⟩, h56, hc⟩ := h
  refine ⟨wX_56 _ _, h56, ?_, ?_, fun p p0 p1 => ?_, fun e e0 e1 => ?_⟩
  · rw [q2 0 (by decide) (by decide), wX_f w c (by decide)]
  · rw [q2 1 (by decide) (by decide), wX_f w c (by decide)]
  · rw [q1 101 (by decide) (by decide) (by decide) (by decide), q1 102 (by decide) (by decide) (by decide) (by decide), wX_b w c (by decide), wX_b w c (by decide)]
    exact ⟨rfl, rfl⟩
  · rw [wX_135]; exact (hc e e0 e1).1
theorem QM_MV (h : QM w y) (hV : MV w) : MV y := by
  unfold MV mN at *
  rw [h.2 0 (by decide) (by decide), h.2 1 (by decide) (by decide), h.1 101 (by decide) (by decide) (by decide) (by decide), h.1 102 (by decide) (by decide) (by decide) (by decide), h.1 103 (by decide) (by decide) (by decide) (by decide)]
  exact hV
theorem MMs_Cr (h : MMs w y c) : wCr y := fun e e0 e1 => by
  have := h.2.2 e e0 e1
  rw [this.1]; exact this.2
theorem MMs_c (h : MMs w y c) : ∀ e, 0 ≤ e → e < 128 → 0 ≤ c e ∧ c e ≤ 1000 := fun e e0 e1 => (h.2.2 e e0 e1).2
theorem MMs_t (h : MMs w y c) (q : QM y z) (h56 : z 100 56 = y 100 56) (h135 : z 135 = y 135) : MMs w z c := ⟨QM_tr h.1 q, by rw [h56]; exact h.2.1, fun e e0 e1 => by rw [h135]; exact h.2.2 e e0 e1⟩
theorem wStop_f (h : w 100 56 = 0) : wStop w := by
  intro s s0 s1 hs
  by_cases l : s < 64
  · rw [wPl_lo l]; exact ⟨s0, l⟩
  · exact absurd h (wSt_hb hs (by omega))
theorem DFn_D {to : Int} (hto : 0 ≤ to ∧ to < 88) (h : ∀ s, 0 ≤ s → s < 88 → D s = D' s) (hD : DFn w D to) : DFn w D' to := by
  obtain ⟨a, b, d, e⟩ := hD
  refine ⟨fun s s0 s1 => by rw [← h s s0 s1]; exact a s s0 s1, fun s s0 s1 hs => ?_, fun t s t0 t1 s0 s1 ht hs hk => ?_, fun hs => ?_⟩
  · rw [← h s s0 s1] at hs ⊢
    rcases b s s0 s1 hs with q | ⟨t, t0, q⟩
    · left; exact q
    · right
      refine ⟨t, t0, ?_⟩
      rw [← h t t0.1 t0.2]; exact q
  · rw [← h t t0 t1] at ht ⊢
    rw [← h s s0 s1]
    exact d t s t0 t1 s0 s1 ht hs hk
  · rw [← h to hto.1 hto.2]
    obtain ⟨s, s0, s1, q⟩ := hs
    exact e ⟨s, s0, s1, by rw [h s s0 s1]; exact q⟩
theorem tz_mclearC (hM : MK R) : ev 287 0 [(2, 100), (9, 0)] [] R y = some ((9, 0), R, zpr y 135 (zfll (y 135) 128 0)) := by
  have L0 : ev 287 0 [(2, 100), (9, 0)] [] R y = ev 287 2 [(2, 100), (0, 0)] [] R (zpr y 135 (zfll (y 135) 0 0)) := by
    rw [zfll_0, zpr_self]
    simp only [s287_0, s287_1, s287_3, s287_6, s287_9, s287_10, s287_13, s287_14, s287_15, s287_16, s287_19, s287_22, zps_0, zps_1, zps_2, zps_3, zps_9, Option.bind_some, Option.bind_none, Int.reduceEq, Int.reduceNe, Int.reduceLT, Int.reduceLE, Int.reduceNeg, Int.reduceAdd, Int.reduceSub, Int.reduceMul, reduceIte, if_true, if_false, true_and, and_true, false_and, and_false, or_true, true_or, or_false, false_or, not_true_eq_false, not_false_eq_true, ite_not, z_b0, z_b1, z_b01]
  rw [L0]
  refine zloop (fun r => r = some ((9, 0), R, zpr y 135 (zfll (y 135) 128 0))) (fun i (_ : Unit) => ev 287 2 [(2, 100), (0, i)] [] R (zpr y 135 (zfll (y 135) i 0))) 128 (fun i _ => 0 ≤ i) ?_ ?_ 0 () (by omega) (by omega)
  · intro i _ hi i0 ih
    have c1 : ¬ 128 ≤ i := by omega
    have c2 : 0 ≤ i ∧ i < 128 := ⟨i0, hi⟩
    have z1 : zw (i + 1) = i + 1 := zw_i (by omega) (by omega)
    rw [s287_2]
    simp only [s287_0, s287_1, s287_3, s287_6, s287_9, s287_10, s287_13, s287_14, s287_15, s287_16, s287_19, s287_22, zps_0, zps_1, zps_2, zps_3, zps_9, Option.bind_some, Option.bind_none, Int.reduceEq, Int.reduceNe, Int.reduceLT, Int.reduceLE, Int.reduceNeg, Int.reduceAdd, Int.reduceSub, Int.reduceMul, reduceIte, if_true, if_false, true_and, and_true, false_and, and_false, or_true, true_or, or_false, false_or, not_true_eq_false, not_false_eq_true, ite_not, z_b0, z_b1, z_b01, rMK0 hM, rMK1 hM, rMK2 hM, rMK3 hM, rMK4 hM, rMK5 hM, rMK6 hM, rMK7 hM, rMK8 hM, rMK9 hM, rMK10 hM, rMK11 hM, rMK12 hM, rMK13 hM, rMK14 hM, rMK15 hM, rMK16 hM, rMK17 hM, rMK18 hM, rMK19 hM, rMK20 hM, rMK21 hM, rMK22 hM, rMK23 hM, rMK24 hM, rMK25 hM, rMK26 hM, rMK27 hM, rMK28 hM, rMK29 hM, rMK30 hM, rMK31 hM, rMK32 hM, rMK33 hM, rMK34 hM, rMK35 hM, rMK36 hM, rMK37 hM, rMK38 hM, rMK39 hM, rMK40 hM, rMK41 hM, rMK42 hM, rMK43 hM, rMK44 hM, rMK45 hM, rMK46 hM, rMK47 hM, rMK48 hM, rMK49 hM, rMK50 hM, rMK51 hM, kMK0, kMK1, kMK2, kMK3, kMK4, kMK5, kMK6, kMK7, kMK8, kMK9, kMK10, kMK11, kMK12, kMK13, kMK14, kMK15, kMK16, kMK17, kMK18, kMK19, kMK20, kMK21, kMK22, kMK23, kMK24, kMK25, kMK26, kMK27, kMK28, kMK29, kMK30, kMK31, kMK32, kMK33, kMK34, kMK35, kMK36, kMK37, kMK38, kMK39, kMK40, kMK41, kMK42, kMK43, kMK44, kMK45, kMK46, kMK47, kMK48, kMK49, kMK50, kMK51, kMK52, kMK53, kMK54, kMK55, kMK56, kMK57, kMK58, kMK59, kMK60, kMK61, kMK62, kMK63, kMK64, kMK65, kMK66, kMK67, kMK68, kMK69, kMK70, kMK71, kMK72, kMK73, kMK74, kMK75, kMK76, kMK77, kMK78, kMK79, kMK80, kMK81, kMK82, kMK83, kMK84, kMK85, kMK86, kMK87, kMK88, kMK89, kMK90, kMK91, kMK92, kMK93, kMK94, kMK95, kMK96, kMK97, kMK98, kMK99, kMK100, kMK101, kMK102, kMK103, kMK104, c1, c2, z1, hi, and_self, if_true, if_false, zup_zpr, zpr_at, zpr_zpr, zfll_step i0]
    exact ih () (by omega)
  · intro _ _
    rw [s287_2]
    simp only [s287_0, s287_1, s287_3, s287_6, s287_9, s287_10, s287_13, s287_14, s287_15, s287_16, s287_19, s287_22, zps_0, zps_1, zps_2, zps_3, zps_9, Option.bind_some, Option.bind_none, Int.reduceEq, Int.reduceNe, Int.reduceLT, Int.reduceLE, Int.reduceNeg, Int.reduceAdd, Int.reduceSub, Int.reduceMul, reduceIte, if_true, if_false, true_and, and_true, false_and, and_false, or_true, true_or, or_false, false_or, not_true_eq_false, not_false_eq_true, ite_not, z_b0, z_b1, z_b01, Int.le_refl, if_true]
theorem tz_mlayWay (hM : MK R) (hV : MV y) (hC : wCr y) (ha : 0 ≤ a ∧ a < 64) (hb : 0 ≤ b ∧ b < 64) : ∃ D N : Int → Int, ev 288 0 [(2, 100), (0, a), (0, b)] [] R y = some ((0, if pD y b a < 1000000 then 1 else 0), R, VD y D N) ∧ ∀ s, 0 ≤ s → s < 88 → D s = pD y b s := by
  obtain ⟨D, N, e1, Q, hQ, hD⟩ := tz_mlayD (R := R) hM hV hC (to := b) ⟨hb.1, by omega⟩
  rw [pD_of hQ] at hD
  have ea := hD a ha.1 (by omega)
  have c0 : 0 ≤ a ∧ a < 88 := by omega
  refine ⟨D, N, ?_, hD⟩
  by_cases r : pD y b a < 1000000
  · have r2 : ¬ (1000000 : Int) ≤ pD y b a := by omega
    simp only [s288_0, s288_1, s288_2, s288_5, s288_6, s288_9, s288_10, s288_11, s288_14, s288_17, s288_18, s288_21, s288_22, zps_0, zps_1, zps_2, zps_3, zps_9, Option.bind_some, Option.bind_none, Int.reduceEq, Int.reduceNe, Int.reduceLT, Int.reduceLE, Int.reduceNeg, Int.reduceAdd, Int.reduceSub, Int.reduceMul, reduceIte, if_true, if_false, true_and, and_true, false_and, and_false, or_true, true_or, or_false, false_or, not_true_eq_false, not_false_eq_true, ite_not, z_b0, z_b1, z_b01, rMK0 hM, rMK1 hM, rMK2 hM, rMK3 hM, rMK4 hM, rMK5 hM, rMK6 hM, rMK7 hM, rMK8 hM, rMK9 hM, rMK10 hM, rMK11 hM, rMK12 hM, rMK13 hM, rMK14 hM, rMK15 hM, rMK16 hM, rMK17 hM, rMK18 hM, rMK19 hM, rMK20 hM, rMK21 hM, rMK22 hM, rMK23 hM, rMK24 hM, rMK25 hM, rMK26 hM, rMK27 hM, rMK28 hM, rMK29 hM, rMK30 hM, rMK31 hM, rMK32 hM, rMK33 hM, rMK34 hM, rMK35 hM, rMK36 hM, rMK37 hM, rMK38 hM, rMK39 hM, rMK40 hM, rMK41 hM, rMK42 hM, rMK43 hM, rMK44 hM, rMK45 hM, rMK46 hM, rMK47 hM, rMK48 hM, rMK49 hM, rMK50 hM, rMK51 hM, kMK0, kMK1, kMK2, kMK3, kMK4, kMK5, kMK6, kMK7, kMK8, kMK9, kMK10, kMK11, kMK12, kMK13, kMK14, kMK15, kMK16, kMK17, kMK18, kMK19, kMK20, kMK21, kMK22, kMK23, kMK24, kMK25, kMK26, kMK27, kMK28, kMK29, kMK30, kMK31, kMK32, kMK33, kMK34, kMK35, kMK36, kMK37, kMK38, kMK39, kMK40, kMK41, kMK42, kMK43, kMK44, kMK45, kMK46, kMK47, kMK48, kMK49, kMK50, kMK51, kMK52, kMK53, kMK54, kMK55, kMK56, kMK57, kMK58, kMK59, kMK60, kMK61, kMK62, kMK63, kMK64, kMK65, kMK66, kMK67, kMK68, kMK69, kMK70, kMK71, kMK72, kMK73, kMK74, kMK75, kMK76, kMK77, kMK78, kMK79, kMK80, kMK81, kMK82, kMK83, kMK84, kMK85, kMK86, kMK87, kMK88, kMK89, kMK90, kMK91, kMK92, kMK93, kMK94, kMK95, kMK96, kMK97, kMK98, kMK99, kMK100, kMK101, kMK102, kMK103, kMK104, e1, VD_133, c0, ea, r, r2, and_self, if_true, if_false]
  · have r2 : (1000000 : Int) ≤ pD y b a := by omega
    simp only [s288_0, s288_1, s288_2, s288_5, s288_6, s288_9, s288_10, s288_11, s288_14, s288_17, s288_18, s288_21, s288_22, zps_0, zps_1, zps_2, zps_3, zps_9, Option.bind_some, Option.bind_none, Int.reduceEq, Int.reduceNe, Int.reduceLT, Int.reduceLE, Int.reduceNeg, Int.reduceAdd, Int.reduceSub, Int.reduceMul, reduceIte, if_true, if_false, true_and, and_true, false_and, and_false, or_true, true_or, or_false, false_or, not_true_eq_false, not_false_eq_true, ite_not, z_b0, z_b1, z_b01, rMK0 hM, rMK1 hM, rMK2 hM, rMK3 hM, rMK4 hM, rMK5 hM, rMK6 hM, rMK7 hM, rMK8 hM, rMK9 hM, rMK10 hM, rMK11 hM, rMK12 hM, rMK13 hM, rMK14 hM, rMK15 hM, rMK16 hM, rMK17 hM, rMK18 hM, rMK19 hM, rMK20 hM, rMK21 hM, rMK22 hM, rMK23 hM, rMK24 hM, rMK25 hM, rMK26 hM, rMK27 hM, rMK28 hM, rMK29 hM, rMK30 hM, rMK31 hM, rMK32 hM, rMK33 hM, rMK34 hM, rMK35 hM, rMK36 hM, rMK37 hM, rMK38 hM, rMK39 hM, rMK40 hM, rMK41 hM, rMK42 hM, rMK43 hM, rMK44 hM, rMK45 hM, rMK46 hM, rMK47 hM, rMK48 hM, rMK49 hM, rMK50 hM, rMK51 hM, kMK0, kMK1, kMK2, kMK3, kMK4, kMK5, kMK6, kMK7, kMK8, kMK9, kMK10, kMK11, kMK12, kMK13, kMK14, kMK15, kMK16, kMK17, kMK18, kMK19, kMK20, kMK21, kMK22, kMK23, kMK24, kMK25, kMK26, kMK27, kMK28, kMK29, kMK30, kMK31, kMK32, kMK33, kMK34, kMK35, kMK36, kMK37, kMK38, kMK39, kMK40, kMK41, kMK42, kMK43, kMK44, kMK45, kMK46, kMK47, kMK48, kMK49, kMK50, kMK51, kMK52, kMK53, kMK54, kMK55, kMK56, kMK57, kMK58, kMK59, kMK60, kMK61, kMK62, kMK63, kMK64, kMK65, kMK66, kMK67, kMK68, kMK69, kMK70, kMK71, kMK72, kMK73, kMK74, kMK75, kMK76, kMK77, kMK78, kMK79, kMK80, kMK81, kMK82, kMK83, kMK84, kMK85, kMK86, kMK87, kMK88, kMK89, kMK90, kMK91, kMK92, kMK93, kMK94, kMK95, kMK96, kMK97, kMK98, kMK99, kMK100, kMK101, kMK102, kMK103, kMK104, e1, VD_133, c0, ea, r, r2, and_self, if_true, if_false]
theorem tz_mgoBy (hM : MK R) (hV : MV y) (hC : wCr y) (h56 : y 100 56 = 0) (ht : 0 ≤ t ∧ t < 8) (ea : y 139 t = a) (eb : y 140 t = b) (ha : 0 ≤ a ∧ a < 64) (hb : 0 ≤ b ∧ b < 64) (hD : ∀ s, 0 ≤ s → s < 88 → y 133 s = pD y b s) (hr : pD y b a < 1000000) : ∃ z : zM, ev 301 0 [(2, 100), (0, t), (9, 0)] [] R y = some ((9, 0), R, z) ∧ (∀ u, u ≠ 100 → u ≠ 136 → u ≠ 137 → u ≠ 138 → u ≠ 141 → u ≠ 142 → z u = y u) ∧ (∀ k, k ≠ 58 → z 100 k = y 100 k) ∧ z 141 = zrw (y 141) t (pLn y (pD y b) a b + 1) ∧ (∀ i : Int, 0 ≤ i → i ≤ pLn y (pD y b) a b → z 142 (64 * t + i) = (zpw y (pD y b) a i.toNat).1) ∧ ∀ j, ¬ (64 * t ≤ j ∧ j ≤ 64 * t + pLn y (pD y b) a b) → z 142 j = y 142 j := by
  have hS := wStop_f h56
  have hD0 := pD_DFn (to := b) hV hC ⟨hb.1, by omega⟩
  obtain ⟨n1, n2⟩ := pLn_foot hV hC hS h56 hD0 hb ha hr
  have hDy : DFn y (y 133) b := DFn_D ⟨hb.1, by omega⟩ (fun s s0 s1 => (hD s s0 s1).symm) hD0
  obtain ⟨x, e1, q1, q2, q3⟩ := tz_mlayPath (R := R) hM hV hC hS hDy hb ha (by rw [hD a ha.1 (by omega)]; exact hr) (zpe_D hS (fun s s0 s1 => (hD s s0 s1).symm) n2) (by omega)
  generalize hN : pLn y (pD y b) a b = N at *
  obtain ⟨x1, hx1⟩ : ∃ x1, zpr x 141 (zrw (x 141) t ((N : Int) + 1)) = x1 := ⟨_, rfl⟩
  have g1 : ∀ u, u ≠ 141 → x1 u = x u := fun u hu => by rw [← hx1, zpr_ne hu]
  have L0 : ev 301 0 [(2, 100), (0, t), (9, 0)] [] R y = ev 301 28 [(2, 100), (0, t), (0, 0)] [] R (zpr x1 142 (x1 142)) := by
    rw [zpr_self, ← hx1]
    simp only [s301_0, s301_1, s301_2, s301_5, s301_6, s301_7, s301_8, s301_11, s301_12, s301_13, s301_16, s301_17, s301_20, s301_21, s301_22, s301_25, s301_26, s301_27, s301_29, s301_30, s301_33, s301_36, s301_37, s301_40, s301_42, s301_43, s301_44, s301_45, s301_46, s301_47, s301_50, s301_51, s301_52, s301_53, s301_56, s301_59, zps_0, zps_1, zps_2, zps_3, zps_9, Option.bind_some, Option.bind_none, Int.reduceEq, Int.reduceNe, Int.reduceLT, Int.reduceLE, Int.reduceNeg, Int.reduceAdd, Int.reduceSub, Int.reduceMul, reduceIte, if_true, if_false, true_and, and_true, false_and, and_false, or_true, true_or, or_false, false_or, not_true_eq_false, not_false_eq_true, ite_not, z_b0, z_b1, z_b01, rMK0 hM, rMK1 hM, rMK2 hM, rMK3 hM, rMK4 hM, rMK5 hM, rMK6 hM, rMK7 hM, rMK8 hM, rMK9 hM, rMK10 hM, rMK11 hM, rMK12 hM, rMK13 hM, rMK14 hM, rMK15 hM, rMK16 hM, rMK17 hM, rMK18 hM, rMK19 hM, rMK20 hM, rMK21 hM, rMK22 hM, rMK23 hM, rMK24 hM, rMK25 hM, rMK26 hM, rMK27 hM, rMK28 hM, rMK29 hM, rMK30 hM, rMK31 hM, rMK32 hM, rMK33 hM, rMK34 hM, rMK35 hM, rMK36 hM, rMK37 hM, rMK38 hM, rMK39 hM, rMK40 hM, rMK41 hM, rMK42 hM, rMK43 hM, rMK44 hM, rMK45 hM, rMK46 hM, rMK47 hM, rMK48 hM, rMK49 hM, rMK50 hM, rMK51 hM, kMK0, kMK1, kMK2, kMK3, kMK4, kMK5, kMK6, kMK7, kMK8, kMK9, kMK10, kMK11, kMK12, kMK13, kMK14, kMK15, kMK16, kMK17, kMK18, kMK19, kMK20, kMK21, kMK22, kMK23, kMK24, kMK25, kMK26, kMK27, kMK28, kMK29, kMK30, kMK31, kMK32, kMK33, kMK34, kMK35, kMK36, kMK37, kMK38, kMK39, kMK40, kMK41, kMK42, kMK43, kMK44, kMK45, kMK46, kMK47, kMK48, kMK49, kMK50, kMK51, kMK52, kMK53, kMK54, kMK55, kMK56, kMK57, kMK58, kMK59, kMK60, kMK61, kMK62, kMK63, kMK64, kMK65, kMK66, kMK67, kMK68, kMK69, kMK70, kMK71, kMK72, kMK73, kMK74, kMK75, kMK76, kMK77, kMK78, kMK79, kMK80, kMK81, kMK82, kMK83, kMK84, kMK85, kMK86, kMK87, kMK88, kMK89, kMK90, kMK91, kMK92, kMK93, kMK94, kMK95, kMK96, kMK97, kMK98, kMK99, kMK100, kMK101, kMK102, kMK103, kMK104, ht, ea, eb, e1, q2, and_self, if_true, zup_zpr]
  rw [L0]
  have r58 : ∀ g : Int → Int, zpr x1 142 g 100 58 = (N : Int) + 1 := fun g => by rw [zpr_ne (by decide), g1 100 (by decide), q2]
  have r136 : ∀ g : Int → Int, zpr x1 142 g 136 = x 136 := fun g => by rw [zpr_ne (by decide), g1 136 (by decide)]
  refine zloop (fun r => ∃ z : zM, r = some ((9, 0), R, z) ∧ (∀ u, u ≠ 100 → u ≠ 136 → u ≠ 137 → u ≠ 138 → u ≠ 141 → u ≠ 142 → z u = y u) ∧ (∀ k, k ≠ 58 → z 100 k = y 100 k) ∧ z 141 = zrw (y 141) t ((N : Int) + 1) ∧ (∀ i : Int, 0 ≤ i → i ≤ N → z 142 (64 * t + i) = (zpw y (pD y b) a i.toNat).1) ∧ ∀ j, ¬ (64 * t ≤ j ∧ j ≤ 64 * t + N) → z 142 j = y 142 j) (fun i (g : Int → Int) => ev 301 28 [(2, 100), (0, t), (0, i)] [] R (zpr x1 142 g)) ((N : Int) + 1) (fun i g => 0 ≤ i ∧ (∀ k, 0 ≤ k → k < i → g (64 * t + k) = x 136 k) ∧ ∀ j, ¬ (64 * t ≤ j ∧ j < 64 * t + i) → g j = x1 142 j) ?_ ?_ 0 (x1 142) (by omega) ⟨by omega, fun k k0 k1 => by omega, fun j hj => rfl⟩
  · rintro i g hi ⟨i0, hI, hJ⟩ ih
    have c1 : ¬ (N : Int) + 1 ≤ i := by omega
    have z1 : zw (64 * t) = 64 * t := zw_i (by omega) (by omega)
    have z2 : zw (64 * t + i) = 64 * t + i := zw_i (by omega) (by omega)
    have z3 : zw (i + 1) = i + 1 := zw_i (by omega) (by omega)
    have c2 : 0 ≤ 64 * t + i ∧ 64 * t + i < 512 := by omega
    have c3 : 0 ≤ i ∧ i < 256 := by omega
    rw [s301_28]
    simp only [s301_0, s301_1, s301_2, s301_5, s301_6, s301_7, s301_8, s301_11, s301_12, s301_13, s301_16, s301_17, s301_20, s301_21, s301_22, s301_25, s301_26, s301_27, s301_29, s301_30, s301_33, s301_36, s301_37, s301_40, s301_42, s301_43, s301_44, s301_45, s301_46, s301_47, s301_50, s301_51, s301_52, s301_53, s301_56, s301_59, zps_0, zps_1, zps_2, zps_3, zps_9, Option.bind_some, Option.bind_none, Int.reduceEq, Int.reduceNe, Int.reduceLT, Int.reduceLE, Int.reduceNeg, Int.reduceAdd, Int.reduceSub, Int.reduceMul, reduceIte, if_true, if_false, true_and, and_true, false_and, and_false, or_true, true_or, or_false, false_or, not_true_eq_false, not_false_eq_true, ite_not, z_b0, z_b1, z_b01, rMK0 hM, rMK1 hM, rMK2 hM, rMK3 hM, rMK4 hM, rMK5 hM, rMK6 hM, rMK7 hM, rMK8 hM, rMK9 hM, rMK10 hM, rMK11 hM, rMK12 hM, rMK13 hM, rMK14 hM, rMK15 hM, rMK16 hM, rMK17 hM, rMK18 hM, rMK19 hM, rMK20 hM, rMK21 hM, rMK22 hM, rMK23 hM, rMK24 hM, rMK25 hM, rMK26 hM, rMK27 hM, rMK28 hM, rMK29 hM, rMK30 hM, rMK31 hM, rMK32 hM, rMK33 hM, rMK34 hM, rMK35 hM, rMK36 hM, rMK37 hM, rMK38 hM, rMK39 hM, rMK40 hM, rMK41 hM, rMK42 hM, rMK43 hM, rMK44 hM, rMK45 hM, rMK46 hM, rMK47 hM, rMK48 hM, rMK49 hM, rMK50 hM, rMK51 hM, kMK0, kMK1, kMK2, kMK3, kMK4, kMK5, kMK6, kMK7, kMK8, kMK9, kMK10, kMK11, kMK12, kMK13, kMK14, kMK15, kMK16, kMK17, kMK18, kMK19, kMK20, kMK21, kMK22, kMK23, kMK24, kMK25, kMK26, kMK27, kMK28, kMK29, kMK30, kMK31, kMK32, kMK33, kMK34, kMK35, kMK36, kMK37, kMK38, kMK39, kMK40, kMK41, kMK42, kMK43, kMK44, kMK45, kMK46, kMK47, kMK48, kMK49, kMK50, kMK51, kMK52, kMK53, kMK54, kMK55, kMK56, kMK57, kMK58, kMK59, kMK60, kMK61, kMK62, kMK63, kMK64, kMK65, kMK66, kMK67, kMK68, kMK69, kMK70, kMK71, kMK72, kMK73, kMK74, kMK75, kMK76, kMK77, kMK78, kMK79, kMK80, kMK81, kMK82, kMK83, kMK84, kMK85, kMK86, kMK87, kMK88, kMK89, kMK90, kMK91, kMK92, kMK93, kMK94, kMK95, kMK96, kMK97, kMK98, kMK99, kMK100, kMK101, kMK102, kMK103, kMK104, r58, r136, hi, c1, z1, z2, z3, c2, c3, and_self, if_true, if_false, zup_zpr, zpr_at, zpr_zpr]
    refine ih _ ⟨by omega, fun k k0 k1 => ?_, fun j hj => ?_⟩
    · rw [zrw_if]
      by_cases e : k = i
      · rw [if_pos (by omega), e]
      · rw [if_neg (by omega)]; exact hI k k0 (by omega)
    · rw [zrw_ne (by omega)]; exact hJ j (by omega)
  · rintro g ⟨-, hI, hJ⟩
    refine ⟨zpr x1 142 g, ?_, fun u u1 u2 u3 u4 u5 u6 => ?_, fun k hk => ?_, ?_, fun i i0 i1 => ?_, fun j hj => ?_⟩
    · rw [s301_28]
      simp only [s301_0, s301_1, s301_2, s301_5, s301_6, s301_7, s301_8, s301_11, s301_12, s301_13, s301_16, s301_17, s301_20, s301_21, s301_22, s301_25, s301_26, s301_27, s301_29, s301_30, s301_33, s301_36, s301_37, s301_40, s301_42, s301_43, s301_44, s301_45, s301_46, s301_47, s301_50, s301_51, s301_52, s301_53, s301_56, s301_59, zps_0, zps_1, zps_2, zps_3, zps_9, Option.bind_some, Option.bind_none, Int.reduceEq, Int.reduceNe, Int.reduceLT, Int.reduceLE, Int.reduceNeg, Int.reduceAdd, Int.reduceSub, Int.reduceMul, reduceIte, if_true, if_false, true_and, and_true, false_and, and_false, or_true, true_or, or_false, false_or, not_true_eq_false, not_false_eq_true, ite_not, z_b0, z_b1, z_b01, rMK0 hM, rMK1 hM, rMK2 hM, rMK3 hM, rMK4 hM, rMK5 hM, rMK6 hM, rMK7 hM, rMK8 hM, rMK9 hM, rMK10 hM, rMK11 hM, rMK12 hM, rMK13 hM, rMK14 hM, rMK15 hM, rMK16 hM, rMK17 hM, rMK18 hM, rMK19 hM, rMK20 hM, rMK21 hM, rMK22 hM, rMK23 hM, rMK24 hM, rMK25 hM, rMK26 hM, rMK27 hM, rMK28 hM, rMK29 hM, rMK30 hM, rMK31 hM, rMK32 hM, rMK33 hM, rMK34 hM, rMK35 hM, rMK36 hM, rMK37 hM, rMK38 hM, rMK39 hM, rMK40 hM, rMK41 hM, rMK42 hM, rMK43 hM, rMK44 hM, rMK45 hM, rMK46 hM, rMK47 hM, rMK48 hM, rMK49 hM, rMK50 hM, rMK51 hM, kMK0, kMK1, kMK2, kMK3, kMK4, kMK5, kMK6, kMK7, kMK8, kMK9, kMK10, kMK11, kMK12, kMK13, kMK14, kMK15, kMK16, kMK17, kMK18, kMK19, kMK20, kMK21, kMK22, kMK23, kMK24, kMK25, kMK26, kMK27, kMK28, kMK29, kMK30, kMK31, kMK32, kMK33, kMK34, kMK35, kMK36, kMK37, kMK38, kMK39, kMK40, kMK41, kMK42, kMK43, kMK44, kMK45, kMK46, kMK47, kMK48, kMK49, kMK50, kMK51, kMK52, kMK53, kMK54, kMK55, kMK56, kMK57, kMK58, kMK59, kMK60, kMK61, kMK62, kMK63, kMK64, kMK65, kMK66, kMK67, kMK68, kMK69, kMK70, kMK71, kMK72, kMK73, kMK74, kMK75, kMK76, kMK77, kMK78, kMK79, kMK80, kMK81, kMK82, kMK83, kMK84, kMK85, kMK86, kMK87, kMK88, kMK89, kMK90, kMK91, kMK92, kMK93, kMK94, kMK95, kMK96, kMK97, kMK98, kMK99, kMK100, kMK101, kMK102, kMK103, kMK104, r58, Int.le_refl, if_true]
    · rw [zpr_ne u6, g1 u u5]; exact q1.1 u u1 u2 u3 u4
    · rw [zpr_ne (by decide), g1 100 (by decide)]; exact q1.2 k hk
    · rw [zpr_ne (by decide), ← hx1, zpr_at, q1.1 141 (by decide) (by decide) (by decide) (by decide)]
    · rw [zpr_at, hI i i0 (by omega)]
      have := q3 i.toNat (by omega)
      rw [show ((i.toNat : Nat) : Int) = i by omega] at this
      rw [this, zpw_D hS (fun s s0 s1 => hD s s0 s1)]
    · rw [zpr_at, hJ j (by omega), g1 142 (by decide)]
      exact congrFun (q1.1 142 (by decide) (by decide) (by decide) (by decide)) j
end MTRIP1
