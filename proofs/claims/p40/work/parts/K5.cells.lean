/-! later cells; the references' rows as they grow -/
theorem KD_big {a : Int} (h : 100 ≤ a) : KD a = 0 := by
  unfold KD
  rw [if_neg (by omega), if_neg (by omega)]
theorem xk1 (R : zM) : KX R 1 = 12 := KX_k kGK0 (by decide)
theorem xk58 (R : zM) : KX R 58 = 1 := KX_k kAK0 (by decide)
theorem xk62 (R : zM) : KX R 62 = 23 := KX_k kAK7 (by decide)
theorem xl62 (R : zM) : LX R 62 = 60 := (KX_l kAK7 (by decide)).trans kAK8
theorem xk68 (R : zM) : KX R 68 = 4 := KX_k (by decide +kernel : KD 68 = 4) (by decide)
/-- references of a later time -/
def RE (R R' : zM) : Prop := R 0 0 ≤ R' 0 0 ∧ (∀ k, 2 ≤ k → R' 0 k = R 0 k) ∧ (∀ b, 1 ≤ b → b ≤ 99 → b ≠ 62 → R' b = R b) ∧ (∀ b, b ≤ R 0 0 → KX R' b = KX R b ∧ LX R' b = LX R b)
theorem RE_rf (R : zM) : RE R R := ⟨Int.le_refl _, fun _ _ => rfl, fun _ _ _ _ => rfl, fun _ _ => ⟨rfl, rfl⟩⟩
theorem RE_tr {R R' R'' : zM} (h : RE R R') (h' : RE R' R'') : RE R R'' :=
  ⟨Int.le_trans h.1 h'.1, fun k hk => (h'.2.1 k hk).trans (h.2.1 k hk), fun b b0 b1 b2 => (h'.2.2.1 b b0 b1 b2).trans (h.2.2.1 b b0 b1 b2), fun b hb => ⟨(h'.2.2.2 b (Int.le_trans hb h.1)).1.trans (h.2.2.2 b hb).1, (h'.2.2.2 b (Int.le_trans hb h.1)).2.trans (h.2.2.2 b hb).2⟩⟩
theorem RE_K {R R' : zM} (h : RE R R') (h99 : 99 ≤ R 0 0) (hR : RK R) : RK R' := by
  obtain ⟨-, -, r, x⟩ := h
  unfold RK at hR ⊢
  obtain ⟨t2, t30, l68, g, a, xx, w, p, q, n, c⟩ := hR
  have r := fun b (b0 : 1 ≤ b) (b1 : b ≤ 99) (b2 : b ≠ 62) => r b b0 b1 b2
  refine ⟨TK_rc (r 2 (by decide) (by decide) (by decide)) (r 3 (by decide) (by decide) (by decide)) (r 9 (by decide) (by decide) (by decide)) (r 11 (by decide) (by decide) (by decide)) t2, TK_rc (r 30 (by decide) (by decide) (by decide)) (r 31 (by decide) (by decide) (by decide)) (r 37 (by decide) (by decide) (by decide)) (r 39 (by decide) (by decide) (by decide)) t30, ?_, ?_, ?_, ?_, ?_, ?_, ?_, ?_, ?_⟩
  · obtain ⟨l1, l2, l3, l4⟩ := l68
    have e1 := x 68 (by omega)
    have e2 := x (68 + 1) (by omega)
    exact ⟨e1.1.trans l1, by rw [r 68 (by decide) (by decide) (by decide)]; exact l2, e2.1.trans l3, e2.2.trans l4⟩
  · unfold GK at *; rw [r 1 (by decide) (by decide) (by decide)]; exact g
  · unfold AK at *; rw [r 58 (by decide) (by decide) (by decide)]; exact a
  · unfold XK at *; rw [r 63 (by decide) (by decide) (by decide)]; exact xx
  · unfold WK at *; rw [r 70 (by decide) (by decide) (by decide)]; exact w
  · unfold PK at *; rw [r 79 (by decide) (by decide) (by decide)]; exact p
  · unfold QK at *; rw [r 87 (by decide) (by decide) (by decide)]; exact q
  · unfold NK at *; rw [r 91 (by decide) (by decide) (by decide)]; exact n
  · unfold CK at *; rw [r 96 (by decide) (by decide) (by decide)]; exact c
section NEWC
variable {R m : zM}
theorem zX_r {k sz b : Int} (h : 99 ≤ R 0 0) (b0 : 0 < b) (b1 : b ≤ R 0 0) : znX R k sz b = R b := by
  funext q
  rw [znX_a b0, if_neg (by omega)]
theorem zX_E (h : 99 ≤ R 0 0) (k sz : Int) : RE R (znX R k sz) := ⟨by rw [znX_0]; omega, fun q hq => znX_q hq (by omega), fun b b0 b1 _ => zX_r h (by omega) (by omega), fun b hb => znX_o (by omega) (by omega)⟩
theorem zX_k (h : 99 ≤ R 0 0) (k : Nat) (sz : Int) : KX (znX R (k : Int) sz) (R 0 0 + 1) = k := znX_s (by omega) (Or.inl (KD_big (by unfold znl; omega)))
theorem zX_l (h : 99 ≤ R 0 0) (k sz : Int) : LX (znX R k sz) (R 0 0 + 1) = sz := znX_l (Or.inl (KD_big (by unfold znl; omega)))
theorem zX_z (h : 99 ≤ R 0 0) : KD (znl R) = 0 := KD_big (by unfold znl; omega)
theorem RE_up {a j x : Int} (h : 99 ≤ R 0 0) (ha : a = 62 ∨ 99 < a) : RE R (zup R a j x) := by
  refine ⟨?_, fun k _ => ?_, fun b b0 b1 b2 => zup_row (by omega), fun b _ => KX_up (by omega) b⟩
  · unfold zup; rw [if_neg (by omega)]; omega
  · unfold zup; rw [if_neg (by omega)]
theorem zrow_ne {a v b : Int} (h : b ≠ a) : zrow m a v b = m b := by
  funext k
  unfold zrow
  rw [if_neg h]
theorem zrow_at (a v : Int) : zrow m a v a = fun _ => v := by
  funext k
  unfold zrow
  rw [if_pos rfl]
end NEWC
section KEEPX
variable {R m : zM} {c y n : Int}
/-- laws kept by an act: rows made for them -/
theorem k_keepLaws (hR : RK R) (h99 : 99 ≤ R 0 0) {a : Int} (ha : m 58 0 = a) (ha2 : 0 ≤ a ∧ a < 60) (h62 : R 62 a = 0) (hn : m 68 0 = n) (hn2 : 0 ≤ n ∧ n ≤ 12) : ∃ R' m' : zM, ev 6 0 [(2, 58), (0, y), (2, 68)] [] R m = some ((9, 0), R', m') ∧ RE R R' ∧ R' 0 0 = R 0 0 + 2 ∧ R' 0 1 = R 0 1 + 86 ∧ m' 58 0 = a + 1 ∧ ∀ b, b < 58 ∨ (61 < b ∧ b ≤ R 0 0) → m' b = m b := by
  have hAK : AK R := hR.2.2.2.2.1
  have F := tz_afull (m := m) hAK
  rw [ha] at F
  have f60 : ¬ 60 ≤ a := by omega
  have f0 : 0 ≤ a := ha2.1
  obtain ⟨l, hl⟩ : ∃ l, R 0 0 + 1 = l := ⟨_, rfl⟩
  have hz1 : znl R = l := hl
  -- the object
  obtain ⟨R1, hR1⟩ : ∃ R1, znX R 4 2 = R1 := ⟨_, rfl⟩
  have E1 : RE R R1 := by rw [← hR1]; exact zX_E h99 4 2
  have k1 : KX R1 l = 4 := by rw [← hR1, ← hl]; exact zX_k h99 4 2
  have n1 : R1 0 0 = l := by rw [← hR1, znX_0, hl]
  have s1 : R1 0 1 = R 0 1 + 2 := by rw [← hR1, znX_1]
  have h991 : 99 ≤ R1 0 0 := by omega
  -- its row
  obtain ⟨R2, hR2⟩ : ∃ R2, znX R1 20 84 = R2 := ⟨_, rfl⟩
  have E2 : RE R1 R2 := by rw [← hR2]; exact zX_E h991 20 84
  have k2 : KX R2 (l + 1) = 20 := by rw [← hR2, ← n1]; exact zX_k h991 20 84
  have l2 : LX R2 (l + 1) = 84 := by rw [← hR2, ← n1]; exact zX_l h991 20 84
  have n2 : R2 0 0 = l + 1 := by rw [← hR2, znX_0, n1]
  have s2 : R2 0 1 = R 0 1 + 86 := by rw [← hR2, znX_1, s1]; omega
  have k2l : KX R2 l = 4 := (E2.2.2.2 l (by omega)).1.trans k1
  have hz2 : znl R1 = l + 1 := by unfold znl; rw [n1]
  obtain ⟨R3, hR3⟩ : ∃ R3, zup R2 l 1 (l + 1) = R3 := ⟨_, rfl⟩
  have h992 : 99 ≤ R2 0 0 := by omega
  have E3 : RE R2 R3 := by rw [← hR3]; exact RE_up h992 (by omega)
  have n3 : R3 0 0 = l + 1 := by rw [← hR3]; unfold zup; rw [if_neg (by omega), n2]
  have s3 : R3 0 1 = R 0 1 + 86 := by rw [← hR3]; unfold zup; rw [if_neg (by omega), s2]
  have k3l : KX R3 l = 4 := (E3.2.2.2 l (by omega)).1.trans k2l
  have k3 : KX R3 (l + 1) = 20 := (E3.2.2.2 (l + 1) (by omega)).1.trans k2
  have l3 : LX R3 (l + 1) = 84 := (E3.2.2.2 (l + 1) (by omega)).2.trans l2
  obtain ⟨R4, hR4⟩ : ∃ R4, zup R3 62 a l = R4 := ⟨_, rfl⟩
  have h993 : 99 ≤ R3 0 0 := by omega
  have E4 : RE R3 R4 := by rw [← hR4]; exact RE_up h993 (by omega)
  have n4 : R4 0 0 = l + 1 := by rw [← hR4]; unfold zup; rw [if_neg (by omega), n3]
  have s4 : R4 0 1 = R 0 1 + 86 := by rw [← hR4]; unfold zup; rw [if_neg (by omega), s3]
  have E : RE R R4 := RE_tr (RE_tr (RE_tr E1 E2) E3) E4
  have hR4K : RK R4 := RE_K E h99 hR
  have r62 : R4 62 a = l := by rw [← hR4, zup_at]
  have rl1 : R4 l 1 = l + 1 := by rw [← hR4, zup_row (by omega), ← hR3, zup_at]
  have hLK : LK R4 l := ⟨(E4.2.2.2 l (by omega)).1.trans k3l, rl1, (E4.2.2.2 (l + 1) (by omega)).1.trans k3, (E4.2.2.2 (l + 1) (by omega)).2.trans l3⟩
  obtain ⟨m1, hm1⟩ : ∃ m1, zrow m l 0 = m1 := ⟨_, rfl⟩
  obtain ⟨m2, hm2⟩ : ∃ m2, zrow m1 (l + 1) 0 = m2 := ⟨_, rfl⟩
  have mo : ∀ b, b ≤ R 0 0 → m2 b = m b := fun b hb => by rw [← hm2, zrow_ne (by omega), ← hm1, zrow_ne (by omega)]
  have LI : ev 59 0 [(2, l)] [] R1 m1 = some ((9, 0), R3, m2) := by
    have c : KX R1 l ≠ 0 := by rw [k1]; decide
    have ha : KD (znl R1) = 0 ∧ 0 ≤ (84 : Int) ∧ (84 : Int) ≤ 100000 ∧ 0 ≤ R1 0 0 := ⟨zX_z h991, by decide, by decide, by omega⟩
    rw [sX59_0, sX59_1 l l R1 m1 c, sX59_4, sX59_5, sX59_7 l 84 l R1 m1 ha, hz2, hR2, hm2, sX59_9 l (l + 1) l R2 m2 k2l, hR3, sX59_12]
  have hz : KD l = 0 := by rw [← hz1]; exact zX_z h99
  have r0 : 0 ≤ R 0 0 := by omega
  have m158 : m1 58 0 = a := by rw [← hm1, zrow_ne (by omega), ha]
  have m258 : m2 58 0 = a := by rw [mo 58 (by omega), ha]
  have R3_58 : R3 58 = R 58 := by rw [(RE_tr (RE_tr E1 E2) E3).2.2.1 58 (by decide) (by decide) (by decide)]
  have R1_58 : R1 58 = R 58 := E1.2.2.1 58 (by decide) (by decide) (by decide)
  have a1 : R 58 1 = 59 := hAK.1
  have a4 : R 58 4 = 62 := hAK.2.2.2
  have L0 : ev 6 0 [(2, 58), (0, y), (2, 68)] [] R m = ev 6 43 [(2, 58), (0, y), (2, 68)] [] R4 m2 := by
    simp only [s6_0, s6_1, s6_4, s6_7, s6_8, s6_11, s6_14, s6_15, s6_16, s6_19, s6_20, s6_23, s6_24, s6_27, s6_28, s6_31, s6_32, s6_35, s6_38, s6_39, s6_42, s6_44, s6_47, s6_48, s6_51, s6_52, s6_53, s6_54, s6_57, s6_58, s6_59, s6_60, s6_61, s6_62, s6_65, zps_0, zps_1, zps_2, zps_3, zps_9, Option.bind_some, Option.bind_none, Int.reduceEq, Int.reduceNe, Int.reduceLT, Int.reduceLE, Int.reduceNeg, Int.reduceAdd, Int.reduceSub, Int.reduceMul, reduceIte, if_true, if_false, true_and, and_true, false_and, and_false, or_true, true_or, or_false, false_or, not_true_eq_false, not_false_eq_true, ite_not, z_b0, z_b1, z_b01, xk58, xk62, xl62, a4, F, ha, f60, f0, h62, ha2, hz, hz1, r0, hR1, hm1, k1, LI, k3l, hR4, and_self, if_true, if_false]
  have hAK4 : AK R4 := hR4K.2.2.2.2.1
  have hL68 : LK R4 68 := hR4K.2.2.1
  obtain ⟨f, S, hf⟩ := tz_ltake (R := R4) (m := m2) (o := l) (q := 68) hLK hL68 (by omega) (by rw [mo 68 (by omega), hn]; exact hn2) (-1)
  obtain ⟨m3, hm3⟩ : ∃ m3, zpr (zpr m2 l (zrw (m2 l) 0 (m2 68 0 - if 0 ≤ (-1 : Int) ∧ (-1 : Int) < m2 68 0 then 1 else 0))) (l + 1) f = m3 := ⟨_, rfl⟩
  rw [hm3] at S
  have h3 : ∀ b, b ≤ R 0 0 → m3 b = m b := fun b hb => by rw [← hm3, zpr_ne (by omega), zpr_ne (by omega), mo b hb]
  have K := tz_keep (R := R4) (m := m3) hAK4 (by rw [h3 58 (by omega), ha]; exact ha2) 4 y 0 0
  obtain ⟨z59, z60, z58, z61, zo⟩ := zkeep_rows m3 4 y 0 0
  obtain ⟨m4, hm4⟩ : ∃ m4, zkeep m3 4 y 0 0 = m4 := ⟨_, rfl⟩
  rw [hm4] at K z58 zo
  have b4 : R4 58 4 = 62 := hAK4.2.2.2
  refine ⟨R4, m4, ?_, E, by omega, s4, by rw [z58, zrw_at, h3 58 (by omega), ha], fun b hb => by rw [zo b (by omega), h3 b (by omega)]⟩
  rw [L0]
  have kl : KX R4 l = 4 := hLK.1
  simp only [s6_0, s6_1, s6_4, s6_7, s6_8, s6_11, s6_14, s6_15, s6_16, s6_19, s6_20, s6_23, s6_24, s6_27, s6_28, s6_31, s6_32, s6_35, s6_38, s6_39, s6_42, s6_43, s6_44, s6_47, s6_48, s6_51, s6_52, s6_53, s6_54, s6_57, s6_58, s6_59, s6_60, s6_61, s6_62, s6_65, zps_0, zps_1, zps_2, zps_3, zps_9, Option.bind_some, Option.bind_none, Int.reduceEq, Int.reduceNe, Int.reduceLT, Int.reduceLE, Int.reduceNeg, Int.reduceAdd, Int.reduceSub, Int.reduceMul, reduceIte, if_true, if_false, true_and, and_true, false_and, and_false, or_true, true_or, or_false, false_or, not_true_eq_false, not_false_eq_true, ite_not, z_b0, z_b1, z_b01, xk58, xk62, xl62, b4, m258, ha2, r62, kl, S, K, and_self, if_true]
/-- laws that are taken -/
theorem k_laws (hR : RK R) (h : SV m c) (h99 : 99 ≤ R 0 0) (ha2 : 0 ≤ m 58 0 ∧ m 58 0 < 60) (h62 : R 62 (m 58 0) = 0) (hn : m 63 0 = n) (h320 : 0 ≤ n ∧ n ≤ 320) {nl : Int} {L : Int → Int} (hp : pAll (m 64) n 322 0 0 (m 69) = .ok (nl, L)) : ∃ R' m' : zM, ev 188 0 [(2, 1), (9, 0)] [] R m = some ((0, nl), R', m') ∧ RE R R' ∧ R' 0 0 = R 0 0 + 2 ∧ R' 0 1 = R 0 1 + 86 ∧ SV m' c ∧ m' 9 0 = nl ∧ (∀ j i, 0 ≤ j → j < nl → 0 ≤ i → i < 7 → m' 10 (7 * j + i) = L (7 * j + i)) ∧ m' 58 0 = m 58 0 + 1 ∧ m' 63 0 = 0 ∧ ∀ b, b ≤ R 0 0 → b ≠ 9 → b ≠ 10 → (b < 58 ∨ 61 < b) → (b < 63 ∨ 69 < b) → m' b = m b := by
  have hR' := hR
  obtain ⟨hT2, hT30, hL68, hGK, hAK, hXK, hWK, hPK, hQK, hNK, hCK⟩ := hR
  have AF := tz_afull (R := R) (m := m) hAK
  rw [if_neg (by omega)] at AF
  have RI := tz_readInto (R := R) hXK hL68 (m := m) rfl hn h320
  rw [hp] at RI
  obtain ⟨m1, r1, ro, r631, r68, r69⟩ := RI
  have hLW : LW nl L := pAll_LW 322 0 0 (m 69) nl L (LW_0 _) hp
  obtain ⟨w, hw⟩ : ∃ w, zpr m1 63 (zrw (m1 63) 0 0) = w := ⟨_, rfl⟩
  have w63 : w 63 0 = 0 := by rw [← hw, zpr_at, zrw_at]
  have wo : ∀ b, b ≠ 63 → w b = m1 b := fun b hb => by rw [← hw, zpr_ne hb]
  have w68 : w 68 0 = nl := by rw [wo 68 (by decide), r68]
  have w69 : w 69 = L := by rw [wo 69 (by decide), r69]
  have wm : ∀ b, b < 63 ∨ b = 64 ∨ 69 < b → w b = m b := fun b hb => by rw [wo b (by omega), ro b hb]
  have w58 : w 58 0 = m 58 0 := by rw [wm 58 (by omega)]
  have w2 : w 2 = m 2 := wm 2 (by omega)
  obtain ⟨R', m3, k1, hE, n0, s0, k58, ko⟩ := k_keepLaws (R := R) (m := w) (y := w 2 3) hR' h99 w58 ha2 h62 w68 hLW.1
  have L1 : ev 188 0 [(2, 1), (9, 0)] [] R m = ev 188 66 [(2, 1), (0, 1)] [] R' m3 := by
    simp only [s188_0, s188_1, s188_4, s188_7, s188_10, s188_12, s188_13, s188_14, s188_17, s188_18, s188_21, s188_24, s188_25, s188_26, s188_29, s188_30, s188_33, s188_34, s188_37, s188_39, s188_40, s188_43, s188_46, s188_47, s188_48, s188_49, s188_52, s188_53, s188_56, s188_59, s188_60, s188_63, s188_67, s188_70, s188_73, s188_74, s188_77, s188_78, s188_81, s188_82, s188_85, s188_88, s188_91, zps_0, zps_1, zps_2, zps_3, zps_9, Option.bind_some, Option.bind_none, Int.reduceEq, Int.reduceNe, Int.reduceLT, Int.reduceLE, Int.reduceNeg, Int.reduceAdd, Int.reduceSub, Int.reduceMul, reduceIte, if_true, if_false, true_and, and_true, false_and, and_false, or_true, true_or, or_false, false_or, not_true_eq_false, not_false_eq_true, ite_not, z_b0, z_b1, z_b01, rGK0 hGK, rGK1 hGK, rGK2 hGK, rGK3 hGK, rGK4 hGK, rGK5 hGK, rGK6 hGK, rGK7 hGK, rGK8 hGK, rGK9 hGK, kGK0, kd2, kd3, kd9, kd11, r2_0 hT2, r2_1 hT2, r2_2 hT2, kAK0, kXK0, AF, r1, zup_zpr, hw, k1, if_true, if_false]
  have q68 : m3 68 0 = nl := by rw [ko 68 (by omega), w68]
  have q69 : m3 69 = L := by rw [ko 69 (by omega), w69]
  clear hT2 hT30 hL68 hGK hAK hXK hWK hPK hQK hNK hCK
  have hK2 := RE_K hE h99 hR'
  obtain ⟨hT2, hT30, hL68, hGK, hAK, hXK, hWK, hPK, hQK, hNK, hCK⟩ := hK2
  obtain ⟨fL, G, hG⟩ := tz_ltake (R := R') (m := m3) (o := 9) (q := 68) (TK_L hT2) hL68 (by decide) (by rw [q68]; exact hLW.1) (-1)
  have c1 : ¬ ((0 : Int) ≤ -1 ∧ (-1 : Int) < nl) := by omega
  rw [q68, if_neg c1, Int.sub_zero] at G hG
  obtain ⟨x, hx⟩ : ∃ x, zpr (zpr m3 9 (zrw (m3 9) 0 nl)) (9 + 1) fL = x := ⟨_, rfl⟩
  rw [hx] at G
  have x9 : x 9 0 = nl := by rw [← hx, zpr_ne (by decide), zpr_at, zrw_at]
  have x10 : x 10 = fL := by rw [← hx]; exact zpr_at _ _ _
  have xo : ∀ b, b ≠ 9 → b ≠ 10 → x b = m3 b := fun b b0 b1 => by rw [← hx, zpr_ne (show b ≠ 9 + 1 from b1), zpr_ne b0]
  have xm : ∀ b, b ≤ R 0 0 → b ≠ 9 → b ≠ 10 → (b < 58 ∨ 61 < b) → (b < 63 ∨ 69 < b) → x b = m b := fun b hb b9 b10 b58 b63 => by rw [xo b b9 b10, ko b (by omega), wm b (by omega)]
  have hrows : ∀ j i, 0 ≤ j → j < nl → 0 ≤ i → i < 7 → x 10 (7 * j + i) = L (7 * j + i) := fun j i j0 j1 i0 i1 => by
    have := hG j i j0 j1 i0 i1
    rw [show (68 : Int) + 1 = 69 by decide, q69] at this
    unfold zlo at this
    rw [if_neg (by omega)] at this
    rw [x10]
    exact this
  obtain ⟨⟨hV, hN, hT, -⟩, s2, s3, s4, s5⟩ := h
  have xb : ∀ b, 2 ≤ b → b ≤ 8 → x b = m b := fun b b0 b1 => xm b (by omega) (by omega) (by omega) (by omega) (by omega)
  obtain ⟨tV, tT⟩ := BT_fr (o := 3) (fun a a0 a1 => xb a (by omega) (by omega)) hV hT
  refine ⟨R', x, ?_, hE, n0, s0, ⟨⟨tV, NV_c (o := 3) (by rw [xb 3 (by omega) (by omega)]) (by rw [xb 3 (by omega) (by omega)]) (xb 8 (by omega) (by omega)) hN, tT, ?_⟩, ?_, ?_, ?_, ?_⟩, x9, hrows, ?_, ?_, xm⟩
  · rw [L1]
    simp only [s188_0, s188_1, s188_4, s188_7, s188_10, s188_12, s188_13, s188_14, s188_17, s188_18, s188_21, s188_24, s188_25, s188_26, s188_29, s188_30, s188_33, s188_34, s188_37, s188_39, s188_40, s188_43, s188_46, s188_47, s188_48, s188_49, s188_52, s188_53, s188_56, s188_59, s188_60, s188_63, s188_66, s188_67, s188_70, s188_73, s188_74, s188_77, s188_78, s188_81, s188_82, s188_85, s188_88, s188_91, zps_0, zps_1, zps_2, zps_3, zps_9, Option.bind_some, Option.bind_none, Int.reduceEq, Int.reduceNe, Int.reduceLT, Int.reduceLE, Int.reduceNeg, Int.reduceAdd, Int.reduceSub, Int.reduceMul, reduceIte, if_true, if_false, true_and, and_true, false_and, and_false, or_true, true_or, or_false, false_or, not_true_eq_false, not_false_eq_true, ite_not, z_b0, z_b1, z_b01, rGK0 hGK, rGK1 hGK, rGK2 hGK, rGK3 hGK, rGK4 hGK, rGK5 hGK, rGK6 hGK, rGK7 hGK, rGK8 hGK, rGK9 hGK, kGK0, kd2, kd3, kd9, kd11, r2_0 hT2, r2_1 hT2, r2_2 hT2, G, x9]
  · show LW (x 9 0) (x 10)
    rw [x9]
    exact LW_c2 hrows hLW
  · rw [xb 3 (by omega) (by omega)]; exact s2
  · rw [xb 2 (by omega) (by omega)]; exact s3
  · rw [xb 2 (by omega) (by omega)]; exact s4
  · rw [xm 11 (by omega) (by omega) (by omega) (by omega) (by omega)]; exact s5
  · rw [xo 58 (by decide) (by decide), k58]
  · rw [xo 63 (by decide) (by decide), ko 63 (by omega), w63]
end KEEPX
