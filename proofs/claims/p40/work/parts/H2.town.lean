/-! the towns, the whole object (printed by a program of mine, gen_init.py) -/
/-- between: an object o and what it made, cells l + 1 .. l' -/
def zBe (o l l' s : Int) (R R1 : zM) : Prop := R1 0 0 = l' ∧ R1 0 1 = R 0 1 + s ∧ (∀ k, k ≠ 0 → k ≠ 1 → R1 0 k = R 0 k) ∧ ∀ b, b ≠ 0 → b ≠ o → (b ≤ l ∨ l' < b) → R1 b = R b
/-- a sub-object q put into field j of o -/
def zSb (o j q l s : Int) (R Rb R1 : zM) : Prop := R1 0 0 = l ∧ R1 0 1 = R 0 1 + s ∧ (∀ k, k ≠ 0 → k ≠ 1 → R1 0 k = R 0 k) ∧ R1 o j = q ∧ (∀ k, k ≠ j → R1 o k = R o k) ∧ (∀ b, b ≠ 0 → b ≠ o → (b < q ∨ l < b) → R1 b = R b) ∧ ∀ b, q ≤ b → b ≤ l → R1 b = Rb b
section SUB
variable {R R1 Rb m : zM} {o l c s sz q j n : Int} {fs : List (Int × Int)}
theorem znR_v (b k : Int) : znR R n b k = if b = 0 ∧ k = 1 then R 0 1 + n else if b = 0 ∧ k = 0 then R 0 0 + 1 else if b = R 0 0 + 1 then 0 else R b k := by
  unfold znR znl zup zrow
  rfl
theorem znR_00 : znR R n 0 0 = R 0 0 + 1 := by rw [znR_v, if_neg (by omega), if_pos (by omega)]
theorem znR_b {b : Int} (h0 : b ≠ 0) (h1 : b ≠ R 0 0 + 1) : znR R n b = R b := by
  funext k
  rw [znR_v, if_neg (by omega), if_neg (by omega), if_neg h1]
theorem zAr_be (h : zAr o l c sz fs R R1) {l' : Int} (hl : l + c = l') : zBe o l l' sz R R1 := by
  subst hl
  exact ⟨h.1, h.2.1, h.2.2.1, h.2.2.2.2.1⟩
theorem zSb_of {s2 s' : Int} (hr : R 0 0 + 1 = q) (B : zBe q q l s2 (znR R n) Rb) (ho : 0 < o ∧ o < q ∧ q ≤ l) (j : Int) (hs : n + s2 = s') : zSb o j q l s' R Rb (zup Rb o j q) := by
  obtain ⟨b1, b2, b3, b4⟩ := B
  have e : ∀ b k, zup Rb o j q b k = if b = o ∧ k = j then q else Rb b k := fun _ _ => rfl
  have er : ∀ b, b ≠ o → zup Rb o j q b = Rb b := fun b hb => zup_row hb
  refine ⟨?_, ?_, fun k k0 k1 => ?_, ?_, fun k hk => ?_, fun b h0 h1 h2 => ?_, fun b h0 h1 => er b (by omega)⟩
  · rw [er 0 (by omega)]; exact b1
  · rw [er 0 (by omega), b2, znR_v, if_pos ⟨rfl, rfl⟩]; omega
  · rw [er 0 (by omega), b3 k k0 k1, znR_v, if_neg (by omega), if_neg (by omega), if_neg (by omega)]
  · rw [e, if_pos ⟨rfl, rfl⟩]
  · rw [e, if_neg (by omega), b4 o (by omega) (by omega) (by omega), znR_b (by omega) (by omega)]
  · rw [er b h1, b4 b h0 (by omega) (by omega), znR_b h0 (by omega)]
end SUB
section OSEG
variable {R m Rb m1 : zM} {o l : Int}
theorem gi113_4 (ho : KD o = 9) (hl : KD l = 2) (hz : znl R = l) (h0 : 0 ≤ R 0 0) (hm : zrow m l 0 = m) (e : ev 12 0 [(2, l)] [] (znR R 9) m = some ((9, 0), Rb, m1)) : ev 113 4 [(2, o)] [] R m = ev 113 15 [(2, o)] [] (zup Rb o 0 l) m1 := by
  simp only [s113_4, s113_5, s113_8, s113_9, s113_12, zps_0, zps_1, zps_2, zps_3, zps_9, Option.bind_some, Option.bind_none, Int.reduceEq, Int.reduceNe, Int.reduceLT, Int.reduceLE, Int.reduceNeg, Int.reduceAdd, Int.reduceSub, Int.reduceMul, reduceIte, if_true, if_false, true_and, and_true, false_and, and_false, or_true, true_or, or_false, false_or, not_true_eq_false, not_false_eq_true, ite_not, z_b0, z_b1, z_b01, ho, hl, hz, h0, hm, e]
theorem gi113_15 (ho : KD o = 9) (hl : KD l = 4) (hz : znl R = l) (h0 : 0 ≤ R 0 0) (hm : zrow m l 0 = m) (e : ev 59 0 [(2, l)] [] (znR R 2) m = some ((9, 0), Rb, m1)) : ev 113 15 [(2, o)] [] R m = ev 113 26 [(2, o)] [] (zup Rb o 1 l) m1 := by
  simp only [s113_15, s113_16, s113_19, s113_20, s113_23, zps_0, zps_1, zps_2, zps_3, zps_9, Option.bind_some, Option.bind_none, Int.reduceEq, Int.reduceNe, Int.reduceLT, Int.reduceLE, Int.reduceNeg, Int.reduceAdd, Int.reduceSub, Int.reduceMul, reduceIte, if_true, if_false, true_and, and_true, false_and, and_false, or_true, true_or, or_false, false_or, not_true_eq_false, not_false_eq_true, ite_not, z_b0, z_b1, z_b01, ho, hl, hz, h0, hm, e]
theorem gi113_26 (ho : KD o = 9) (hl : KD l = 7) (hz : znl R = l) (h0 : 0 ≤ R 0 0) (hm : zrow m l 0 = m) (e : ev 86 0 [(2, l)] [] (znR R 16) m = some ((9, 0), Rb, m1)) : ev 113 26 [(2, o)] [] R m = ev 113 37 [(2, o)] [] (zup Rb o 2 l) m1 := by
  simp only [s113_26, s113_27, s113_30, s113_31, s113_34, zps_0, zps_1, zps_2, zps_3, zps_9, Option.bind_some, Option.bind_none, Int.reduceEq, Int.reduceNe, Int.reduceLT, Int.reduceLE, Int.reduceNeg, Int.reduceAdd, Int.reduceSub, Int.reduceMul, reduceIte, if_true, if_false, true_and, and_true, false_and, and_false, or_true, true_or, or_false, false_or, not_true_eq_false, not_false_eq_true, ite_not, z_b0, z_b1, z_b01, ho, hl, hz, h0, hm, e]
theorem gi178_4 (ho : KD o = 12) (hl : KD l = 9) (hz : znl R = l) (h0 : 0 ≤ R 0 0) (hm : zrow m l 0 = m) (e : ev 113 0 [(2, l)] [] (znR R 8) m = some ((9, 0), Rb, m1)) : ev 178 4 [(2, o)] [] R m = ev 178 15 [(2, o)] [] (zup Rb o 0 l) m1 := by
  simp only [s178_4, s178_5, s178_8, s178_9, s178_12, zps_0, zps_1, zps_2, zps_3, zps_9, Option.bind_some, Option.bind_none, Int.reduceEq, Int.reduceNe, Int.reduceLT, Int.reduceLE, Int.reduceNeg, Int.reduceAdd, Int.reduceSub, Int.reduceMul, reduceIte, if_true, if_false, true_and, and_true, false_and, and_false, or_true, true_or, or_false, false_or, not_true_eq_false, not_false_eq_true, ite_not, z_b0, z_b1, z_b01, ho, hl, hz, h0, hm, e]
theorem gi178_15 (ho : KD o = 12) (hl : KD l = 9) (hz : znl R = l) (h0 : 0 ≤ R 0 0) (hm : zrow m l 0 = m) (e : ev 113 0 [(2, l)] [] (znR R 8) m = some ((9, 0), Rb, m1)) : ev 178 15 [(2, o)] [] R m = ev 178 26 [(2, o)] [] (zup Rb o 1 l) m1 := by
  simp only [s178_15, s178_16, s178_19, s178_20, s178_23, zps_0, zps_1, zps_2, zps_3, zps_9, Option.bind_some, Option.bind_none, Int.reduceEq, Int.reduceNe, Int.reduceLT, Int.reduceLE, Int.reduceNeg, Int.reduceAdd, Int.reduceSub, Int.reduceMul, reduceIte, if_true, if_false, true_and, and_true, false_and, and_false, or_true, true_or, or_false, false_or, not_true_eq_false, not_false_eq_true, ite_not, z_b0, z_b1, z_b01, ho, hl, hz, h0, hm, e]
theorem gi178_26 (ho : KD o = 12) (hl : KD l = 1) (hz : znl R = l) (h0 : 0 ≤ R 0 0) (hm : zrow m l 0 = m) (e : ev 1 0 [(2, l)] [] (znR R 5) m = some ((9, 0), Rb, m1)) : ev 178 26 [(2, o)] [] R m = ev 178 37 [(2, o)] [] (zup Rb o 2 l) m1 := by
  simp only [s178_26, s178_27, s178_30, s178_31, s178_34, zps_0, zps_1, zps_2, zps_3, zps_9, Option.bind_some, Option.bind_none, Int.reduceEq, Int.reduceNe, Int.reduceLT, Int.reduceLE, Int.reduceNeg, Int.reduceAdd, Int.reduceSub, Int.reduceMul, reduceIte, if_true, if_false, true_and, and_true, false_and, and_false, or_true, true_or, or_false, false_or, not_true_eq_false, not_false_eq_true, ite_not, z_b0, z_b1, z_b01, ho, hl, hz, h0, hm, e]
theorem gi178_37 (ho : KD o = 12) (hl : KD l = 3) (hz : znl R = l) (h0 : 0 ≤ R 0 0) (hm : zrow m l 0 = m) (e : ev 32 0 [(2, l)] [] (znR R 10) m = some ((9, 0), Rb, m1)) : ev 178 37 [(2, o)] [] R m = ev 178 48 [(2, o)] [] (zup Rb o 3 l) m1 := by
  simp only [s178_37, s178_38, s178_41, s178_42, s178_45, zps_0, zps_1, zps_2, zps_3, zps_9, Option.bind_some, Option.bind_none, Int.reduceEq, Int.reduceNe, Int.reduceLT, Int.reduceLE, Int.reduceNeg, Int.reduceAdd, Int.reduceSub, Int.reduceMul, reduceIte, if_true, if_false, true_and, and_true, false_and, and_false, or_true, true_or, or_false, false_or, not_true_eq_false, not_false_eq_true, ite_not, z_b0, z_b1, z_b01, ho, hl, hz, h0, hm, e]
theorem gi178_48 (ho : KD o = 12) (hl : KD l = 4) (hz : znl R = l) (h0 : 0 ≤ R 0 0) (hm : zrow m l 0 = m) (e : ev 59 0 [(2, l)] [] (znR R 2) m = some ((9, 0), Rb, m1)) : ev 178 48 [(2, o)] [] R m = ev 178 59 [(2, o)] [] (zup Rb o 4 l) m1 := by
  simp only [s178_48, s178_49, s178_52, s178_53, s178_56, zps_0, zps_1, zps_2, zps_3, zps_9, Option.bind_some, Option.bind_none, Int.reduceEq, Int.reduceNe, Int.reduceLT, Int.reduceLE, Int.reduceNeg, Int.reduceAdd, Int.reduceSub, Int.reduceMul, reduceIte, if_true, if_false, true_and, and_true, false_and, and_false, or_true, true_or, or_false, false_or, not_true_eq_false, not_false_eq_true, ite_not, z_b0, z_b1, z_b01, ho, hl, hz, h0, hm, e]
theorem gi178_59 (ho : KD o = 12) (hl : KD l = 11) (hz : znl R = l) (h0 : 0 ≤ R 0 0) (hm : zrow m l 0 = m) (g1 : znR R 15 o 0 = 2) (g2 : znR R 15 2 0 = 3) (k2 : KD 2 = 9) (e : ev 146 0 [(2, l), (2, 3)] [] (znR R 15) m = some ((9, 0), Rb, m1)) : ev 178 59 [(2, o)] [] R m = ev 178 77 [(2, o)] [] (zup Rb o 5 l) m1 := by
  simp only [s178_59, s178_60, s178_63, s178_64, s178_65, s178_68, s178_71, s178_74, zps_0, zps_1, zps_2, zps_3, zps_9, Option.bind_some, Option.bind_none, Int.reduceEq, Int.reduceNe, Int.reduceLT, Int.reduceLE, Int.reduceNeg, Int.reduceAdd, Int.reduceSub, Int.reduceMul, reduceIte, if_true, if_false, true_and, and_true, false_and, and_false, or_true, true_or, or_false, false_or, not_true_eq_false, not_false_eq_true, ite_not, z_b0, z_b1, z_b01, ho, hl, hz, h0, hm, g1, g2, k2, e]
theorem gi178_77 (ho : KD o = 12) (hl : KD l = 10) (hz : znl R = l) (h0 : 0 ≤ R 0 0) (hm : zrow m l 0 = m) (g1 : znR R 13 o 5 = 70) (e : ev 131 0 [(2, l), (2, 70)] [] (znR R 13) m = some ((9, 0), Rb, m1)) : ev 178 77 [(2, o)] [] R m = ev 178 92 [(2, o)] [] (zup Rb o 6 l) m1 := by
  simp only [s178_77, s178_78, s178_81, s178_82, s178_83, s178_86, s178_89, zps_0, zps_1, zps_2, zps_3, zps_9, Option.bind_some, Option.bind_none, Int.reduceEq, Int.reduceNe, Int.reduceLT, Int.reduceLE, Int.reduceNeg, Int.reduceAdd, Int.reduceSub, Int.reduceMul, reduceIte, if_true, if_false, true_and, and_true, false_and, and_false, or_true, true_or, or_false, false_or, not_true_eq_false, not_false_eq_true, ite_not, z_b0, z_b1, z_b01, ho, hl, hz, h0, hm, g1, e]
theorem gi178_92 (ho : KD o = 12) (hl : KD l = 6) (hz : znl R = l) (h0 : 0 ≤ R 0 0) (hm : zrow m l 0 = m) (e : ev 74 0 [(2, l)] [] (znR R 7) m = some ((9, 0), Rb, m1)) : ev 178 92 [(2, o)] [] R m = ev 178 103 [(2, o)] [] (zup Rb o 7 l) m1 := by
  simp only [s178_92, s178_93, s178_96, s178_97, s178_100, zps_0, zps_1, zps_2, zps_3, zps_9, Option.bind_some, Option.bind_none, Int.reduceEq, Int.reduceNe, Int.reduceLT, Int.reduceLE, Int.reduceNeg, Int.reduceAdd, Int.reduceSub, Int.reduceMul, reduceIte, if_true, if_false, true_and, and_true, false_and, and_false, or_true, true_or, or_false, false_or, not_true_eq_false, not_false_eq_true, ite_not, z_b0, z_b1, z_b01, ho, hl, hz, h0, hm, e]
theorem gi178_103 (ho : KD o = 12) (hl : KD l = 5) (hz : znl R = l) (h0 : 0 ≤ R 0 0) (hm : zrow m l 0 = m) (e : ev 70 0 [(2, l)] [] (znR R 5) m = some ((9, 0), Rb, m1)) : ev 178 103 [(2, o)] [] R m = ev 178 114 [(2, o)] [] (zup Rb o 8 l) m1 := by
  simp only [s178_103, s178_104, s178_107, s178_108, s178_111, zps_0, zps_1, zps_2, zps_3, zps_9, Option.bind_some, Option.bind_none, Int.reduceEq, Int.reduceNe, Int.reduceLT, Int.reduceLE, Int.reduceNeg, Int.reduceAdd, Int.reduceSub, Int.reduceMul, reduceIte, if_true, if_false, true_and, and_true, false_and, and_false, or_true, true_or, or_false, false_or, not_true_eq_false, not_false_eq_true, ite_not, z_b0, z_b1, z_b01, ho, hl, hz, h0, hm, e]
theorem gi178_114 (ho : KD o = 12) (hl : KD l = 8) (hz : znl R = l) (h0 : 0 ≤ R 0 0) (hm : zrow m l 0 = m) (e : ev 105 0 [(2, l)] [] (znR R 3) m = some ((9, 0), Rb, m1)) : ev 178 114 [(2, o)] [] R m = ev 178 125 [(2, o)] [] (zup Rb o 9 l) m1 := by
  simp only [s178_114, s178_115, s178_118, s178_119, s178_122, zps_0, zps_1, zps_2, zps_3, zps_9, Option.bind_some, Option.bind_none, Int.reduceEq, Int.reduceNe, Int.reduceLT, Int.reduceLE, Int.reduceNeg, Int.reduceAdd, Int.reduceSub, Int.reduceMul, reduceIte, if_true, if_false, true_and, and_true, false_and, and_false, or_true, true_or, or_false, false_or, not_true_eq_false, not_false_eq_true, ite_not, z_b0, z_b1, z_b01, ho, hl, hz, h0, hm, e]
theorem gi113_37 (ho : KD o = 9) (hl : KD l = 20) (hn : LN l = 1536) (hz : znl R = l) (h0 : 0 ≤ R 0 0) (hm : zrow m l 0 = m) : ev 113 37 [(2, o)] [] R m = ev 113 46 [(2, o)] [] (zfa R o 5 1536 l) m := by
  simp only [s113_37, s113_38, s113_41, s113_43, zps_0, zps_1, zps_2, zps_3, zps_9, Option.bind_some, Option.bind_none, Int.reduceEq, Int.reduceNe, Int.reduceLT, Int.reduceLE, Int.reduceNeg, Int.reduceAdd, Int.reduceSub, Int.reduceMul, reduceIte, if_true, if_false, true_and, and_true, false_and, and_false, or_true, true_or, or_false, false_or, not_true_eq_false, not_false_eq_true, ite_not, z_b0, z_b1, z_b01, ho, hl, hn, hz, h0, hm, and_self, zfa]
theorem gi113_46 (ho : KD o = 9) (hl : KD l = 20) (hn : LN l = 96) (hz : znl R = l) (h0 : 0 ≤ R 0 0) (hm : zrow m l 0 = m) : ev 113 46 [(2, o)] [] R m = ev 113 54 [(2, o)] [] (zfa R o 6 96 l) m := by
  simp only [s113_46, s113_47, s113_49, s113_51, zps_0, zps_1, zps_2, zps_3, zps_9, Option.bind_some, Option.bind_none, Int.reduceEq, Int.reduceNe, Int.reduceLT, Int.reduceLE, Int.reduceNeg, Int.reduceAdd, Int.reduceSub, Int.reduceMul, reduceIte, if_true, if_false, true_and, and_true, false_and, and_false, or_true, true_or, or_false, false_or, not_true_eq_false, not_false_eq_true, ite_not, z_b0, z_b1, z_b01, ho, hl, hn, hz, h0, hm, and_self, zfa]
theorem gi113_54 (ho : KD o = 9) (hl : KD l = 20) (hn : LN l = 20) (hz : znl R = l) (h0 : 0 ≤ R 0 0) (hm : zrow m l 0 = m) : ev 113 54 [(2, o)] [] R m = ev 113 62 [(2, o)] [] (zfa R o 7 20 l) m := by
  simp only [s113_54, s113_55, s113_57, s113_59, zps_0, zps_1, zps_2, zps_3, zps_9, Option.bind_some, Option.bind_none, Int.reduceEq, Int.reduceNe, Int.reduceLT, Int.reduceLE, Int.reduceNeg, Int.reduceAdd, Int.reduceSub, Int.reduceMul, reduceIte, if_true, if_false, true_and, and_true, false_and, and_false, or_true, true_or, or_false, false_or, not_true_eq_false, not_false_eq_true, ite_not, z_b0, z_b1, z_b01, ho, hl, hn, hz, h0, hm, and_self, zfa]
theorem gi113_62 : ev 113 62 [(2, o)] [] R m = some ((9, 0), R, m) := by
  simp only [s113_62, zps_0, zps_1, zps_2, zps_3, zps_9, Option.bind_some, Option.bind_none, Int.reduceEq, Int.reduceNe, Int.reduceLT, Int.reduceLE, Int.reduceNeg, Int.reduceAdd, Int.reduceSub, Int.reduceMul, reduceIte, if_true, if_false, true_and, and_true, false_and, and_false, or_true, true_or, or_false, false_or, not_true_eq_false, not_false_eq_true, ite_not, z_b0, z_b1, z_b01]
theorem gi178_125 : ev 178 125 [(2, o)] [] R m = some ((9, 0), R, m) := by
  simp only [s178_125, zps_0, zps_1, zps_2, zps_3, zps_9, Option.bind_some, Option.bind_none, Int.reduceEq, Int.reduceNe, Int.reduceLT, Int.reduceLE, Int.reduceNeg, Int.reduceAdd, Int.reduceSub, Int.reduceMul, reduceIte, if_true, if_false, true_and, and_true, false_and, and_false, or_true, true_or, or_false, false_or, not_true_eq_false, not_false_eq_true, ite_not, z_b0, z_b1, z_b01]
end OSEG
theorem ci113_2 {R m : zM} (h : R 0 0 = 2) (hm : ∀ b, 2 ≤ b → m b = fun _ => 0) : ∃ R1 m1, ev 113 0 [(2, 2)] [] R m = some ((9, 0), R1, m1) ∧ zBe 2 2 29 3528 R R1 ∧ TK R1 2 ∧ zfr [3, 4, 5, 6, 7, 8] m m1 ∧ BN m1 3 4 4 ∧ m1 3 3 = 1 := by
  have e0 : ev 113 0 [(2, 2)] [] R m = ev 113 4 [(2, 2)] [] R m := by
    rw [s113_0, s113_1]
    rw [ik2]; decide
  have r0 : R 0 0 + 1 = 3 := by rw [h]; rfl
  obtain ⟨N0, m1, c0, a0, x1, x2, x3⟩ := ci12_3 (R := znR R 9) (m := m) (by rw [znR_00]; exact r0) (fun b hb => hm b (by omega))
  have e1 := gi113_4 (o := 2) (l := 3) (R := R) (m := m) ik2 ik3 (by unfold znl; exact r0) (by omega) (zrow_z (hm 3 (by decide))) c0
  obtain ⟨Q0, hQ0⟩ : ∃ q, zup N0 2 0 3 = q := ⟨_, rfl⟩
  have B0 : zSb 2 0 3 8 1166 R N0 (zup N0 2 0 3) := zSb_of r0 (zAr_be a0 rfl) (by decide) 0 (by decide)
  rw [hQ0] at e1 B0
  have r1 : Q0 0 0 + 1 = 9 := by rw [B0.1]; rfl
  have g1 : ∀ b, 8 < b → m1 b = fun _ => 0 := fun b hb => by
    rw [x1 b (by simp only [List.mem_cons, List.not_mem_nil, or_false, not_or]; omega)]
    exact hm b (by omega)
  obtain ⟨N1, c1, a1⟩ := ci59_9 (R := znR Q0 2) (m := m1) (by rw [znR_00]; exact r1) (fun b hb => g1 b (by omega))
  have e2 := gi113_15 (o := 2) (l := 9) (R := Q0) (m := m1) ik2 ik9 (by unfold znl; exact r1) (by omega) (zrow_z (g1 9 (by decide))) c1
  obtain ⟨Q1, hQ1⟩ : ∃ q, zup N1 2 1 9 = q := ⟨_, rfl⟩
  have B1 : zSb 2 1 9 10 86 Q0 N1 (zup N1 2 1 9) := zSb_of r1 (zAr_be a1 rfl) (by decide) 1 (by decide)
  rw [hQ1] at e2 B1
  have r2 : Q1 0 0 + 1 = 11 := by rw [B1.1]; rfl
  obtain ⟨N2, c2, a2⟩ := ci86_11 (R := znR Q1 16) (m := m1) (by rw [znR_00]; exact r2) (fun b hb => g1 b (by omega))
  have e3 := gi113_26 (o := 2) (l := 11) (R := Q1) (m := m1) ik2 ik11 (by unfold znl; exact r2) (by omega) (zrow_z (g1 11 (by decide))) c2
  obtain ⟨Q2, hQ2⟩ : ∃ q, zup N2 2 2 11 = q := ⟨_, rfl⟩
  have B2 : zSb 2 2 11 26 624 Q1 N2 (zup N2 2 2 11) := zSb_of r2 (zAr_be a2 rfl) (by decide) 2 (by decide)
  rw [hQ2] at e3 B2
  have A0 : zAr 2 26 0 0 [] Q2 Q2 := zAr_0 B2.1
  have e4 := gi113_37 (o := 2) (l := 27) (R := Q2) (m := m1) ik2 ik27 il27 (zAr_z A0 (by decide)) (zAr_n A0 (by decide)) (zrow_z (g1 27 (by decide)))
  obtain ⟨Q3, hQ3⟩ : ∃ q, zfa Q2 2 5 1536 27 = q := ⟨_, rfl⟩
  have A1 : zAr 2 26 1 1536 [(5, 27)] Q2 (zfa Q2 2 5 1536 27) := zAr_s A0 (by decide) (by decide) (by decide) 5 1536 (by decide) (by decide) (by decide)
  rw [hQ3] at e4 A1
  have e5 := gi113_46 (o := 2) (l := 28) (R := Q3) (m := m1) ik2 ik28 il28 (zAr_z A1 (by decide)) (zAr_n A1 (by decide)) (zrow_z (g1 28 (by decide)))
  obtain ⟨Q4, hQ4⟩ : ∃ q, zfa Q3 2 6 96 28 = q := ⟨_, rfl⟩
  have A2 : zAr 2 26 2 1632 [(6, 28), (5, 27)] Q2 (zfa Q3 2 6 96 28) := zAr_s A1 (by decide) (by decide) (by decide) 6 96 (by decide) (by decide) (by decide)
  rw [hQ4] at e5 A2
  have e6 := gi113_54 (o := 2) (l := 29) (R := Q4) (m := m1) ik2 ik29 il29 (zAr_z A2 (by decide)) (zAr_n A2 (by decide)) (zrow_z (g1 29 (by decide)))
  obtain ⟨Q5, hQ5⟩ : ∃ q, zfa Q4 2 7 20 29 = q := ⟨_, rfl⟩
  have A3 : zAr 2 26 3 1652 [(7, 29), (6, 28), (5, 27)] Q2 (zfa Q4 2 7 20 29) := zAr_s A2 (by decide) (by decide) (by decide) 7 20 (by decide) (by decide) (by decide)
  rw [hQ5] at e6 A3
  have e7 := gi113_62 (o := 2) (R := Q5) (m := m1)
  have T0 : Q5 2 0 = 3 := by rw [A3.2.2.2.2.2.2 0 (by decide), B2.2.2.2.2.1 0 (by decide), B1.2.2.2.2.1 0 (by decide)]; exact B0.2.2.2.1
  have T1 : Q5 2 1 = 9 := by rw [A3.2.2.2.2.2.2 1 (by decide), B2.2.2.2.2.1 1 (by decide)]; exact B1.2.2.2.1
  have T2 : Q5 2 2 = 11 := by rw [A3.2.2.2.2.2.2 2 (by decide)]; exact B2.2.2.2.1
  have Fa := A3.2.2.2.1
  have r1_ : Q5 3 = N0 3 := by rw [A3.2.2.2.2.1 3 (by decide) (by decide) (by decide), B2.2.2.2.2.2.1 3 (by decide) (by decide) (by decide), B1.2.2.2.2.2.1 3 (by decide) (by decide) (by decide), B0.2.2.2.2.2.2 3 (by decide) (by decide)]
  have r7_ : Q5 9 = N1 9 := by rw [A3.2.2.2.2.1 9 (by decide) (by decide) (by decide), B2.2.2.2.2.2.1 9 (by decide) (by decide) (by decide), B1.2.2.2.2.2.2 9 (by decide) (by decide)]
  have r9_ : Q5 11 = N2 11 := by rw [A3.2.2.2.2.1 11 (by decide) (by decide) (by decide), B2.2.2.2.2.2.2 11 (by decide) (by decide)]
  refine ⟨Q5, m1, e0.trans (e1.trans (e2.trans (e3.trans (e4.trans (e5.trans (e6.trans (e7))))))), ⟨by rw [A3.1]; rfl, ?_, fun k k0 k1 => ?_, fun b b0 b1 b2 => ?_⟩, ?_, x1, x2, x3⟩
  · rw [A3.2.1, B2.2.1, B1.2.1, B0.2.1]; omega
  · rw [A3.2.2.1 k k0 k1, B2.2.2.1 k k0 k1, B1.2.2.1 k k0 k1, B0.2.2.1 k k0 k1]
  · rw [A3.2.2.2.2.1 b b0 b1 (by omega), B2.2.2.2.2.2.1 b b0 b1 (by omega), B1.2.2.2.2.2.1 b b0 b1 (by omega), B0.2.2.2.2.2.1 b b0 b1 (by omega)]
  · unfold TK
    simp only [Int.reduceAdd]
    exact ⟨ik2, T0, T1, T2, Fa (5, 27) (by decide), ik27, il27, Fa (6, 28) (by decide), ik28, il28, Fa (7, 29) (by decide), ik29, il29, ik3, (by rw [r1_]; exact a0.2.2.2.1 (4, 4) (by decide)), ik4, il4, (by rw [r1_]; exact a0.2.2.2.1 (5, 5) (by decide)), ik5, il5, (by rw [r1_]; exact a0.2.2.2.1 (6, 6) (by decide)), ik6, il6, (by rw [r1_]; exact a0.2.2.2.1 (7, 7) (by decide)), ik7, il7, (by rw [r1_]; exact a0.2.2.2.1 (8, 8) (by decide)), ik8, il8, ik9, (by rw [r7_]; exact a1.2.2.2.1 (1, 10) (by decide)), ik10, il10, ik11, (by rw [r9_]; exact a2.2.2.2.1 (1, 12) (by decide)), ik12, il12, (by rw [r9_]; exact a2.2.2.2.1 (2, 13) (by decide)), ik13, il13, (by rw [r9_]; exact a2.2.2.2.1 (3, 14) (by decide)), ik14, il14, (by rw [r9_]; exact a2.2.2.2.1 (4, 15) (by decide)), ik15, il15, (by rw [r9_]; exact a2.2.2.2.1 (5, 16) (by decide)), ik16, il16, (by rw [r9_]; exact a2.2.2.2.1 (6, 17) (by decide)), ik17, il17, (by rw [r9_]; exact a2.2.2.2.1 (7, 18) (by decide)), ik18, il18, (by rw [r9_]; exact a2.2.2.2.1 (8, 19) (by decide)), ik19, il19, (by rw [r9_]; exact a2.2.2.2.1 (9, 20) (by decide)), ik20, il20, (by rw [r9_]; exact a2.2.2.2.1 (10, 21) (by decide)), ik21, il21, (by rw [r9_]; exact a2.2.2.2.1 (11, 22) (by decide)), ik22, il22, (by rw [r9_]; exact a2.2.2.2.1 (12, 23) (by decide)), ik23, il23, (by rw [r9_]; exact a2.2.2.2.1 (13, 24) (by decide)), ik24, il24, (by rw [r9_]; exact a2.2.2.2.1 (14, 25) (by decide)), ik25, il25, (by rw [r9_]; exact a2.2.2.2.1 (15, 26) (by decide)), ik26, il26⟩
theorem ci113_30 {R m : zM} (h : R 0 0 = 30) (hm : ∀ b, 30 ≤ b → m b = fun _ => 0) : ∃ R1 m1, ev 113 0 [(2, 30)] [] R m = some ((9, 0), R1, m1) ∧ zBe 30 30 57 3528 R R1 ∧ TK R1 30 ∧ zfr [31, 32, 33, 34, 35, 36] m m1 ∧ BN m1 31 4 4 ∧ m1 31 3 = 1 := by
  have e0 : ev 113 0 [(2, 30)] [] R m = ev 113 4 [(2, 30)] [] R m := by
    rw [s113_0, s113_1]
    rw [ik30]; decide
  have r0 : R 0 0 + 1 = 31 := by rw [h]; rfl
  obtain ⟨N0, m1, c0, a0, x1, x2, x3⟩ := ci12_31 (R := znR R 9) (m := m) (by rw [znR_00]; exact r0) (fun b hb => hm b (by omega))
  have e1 := gi113_4 (o := 30) (l := 31) (R := R) (m := m) ik30 ik31 (by unfold znl; exact r0) (by omega) (zrow_z (hm 31 (by decide))) c0
  obtain ⟨Q0, hQ0⟩ : ∃ q, zup N0 30 0 31 = q := ⟨_, rfl⟩
  have B0 : zSb 30 0 31 36 1166 R N0 (zup N0 30 0 31) := zSb_of r0 (zAr_be a0 rfl) (by decide) 0 (by decide)
  rw [hQ0] at e1 B0
  have r1 : Q0 0 0 + 1 = 37 := by rw [B0.1]; rfl
  have g1 : ∀ b, 36 < b → m1 b = fun _ => 0 := fun b hb => by
    rw [x1 b (by simp only [List.mem_cons, List.not_mem_nil, or_false, not_or]; omega)]
    exact hm b (by omega)
  obtain ⟨N1, c1, a1⟩ := ci59_37 (R := znR Q0 2) (m := m1) (by rw [znR_00]; exact r1) (fun b hb => g1 b (by omega))
  have e2 := gi113_15 (o := 30) (l := 37) (R := Q0) (m := m1) ik30 ik37 (by unfold znl; exact r1) (by omega) (zrow_z (g1 37 (by decide))) c1
  obtain ⟨Q1, hQ1⟩ : ∃ q, zup N1 30 1 37 = q := ⟨_, rfl⟩
  have B1 : zSb 30 1 37 38 86 Q0 N1 (zup N1 30 1 37) := zSb_of r1 (zAr_be a1 rfl) (by decide) 1 (by decide)
  rw [hQ1] at e2 B1
  have r2 : Q1 0 0 + 1 = 39 := by rw [B1.1]; rfl
  obtain ⟨N2, c2, a2⟩ := ci86_39 (R := znR Q1 16) (m := m1) (by rw [znR_00]; exact r2) (fun b hb => g1 b (by omega))
  have e3 := gi113_26 (o := 30) (l := 39) (R := Q1) (m := m1) ik30 ik39 (by unfold znl; exact r2) (by omega) (zrow_z (g1 39 (by decide))) c2
  obtain ⟨Q2, hQ2⟩ : ∃ q, zup N2 30 2 39 = q := ⟨_, rfl⟩
  have B2 : zSb 30 2 39 54 624 Q1 N2 (zup N2 30 2 39) := zSb_of r2 (zAr_be a2 rfl) (by decide) 2 (by decide)
  rw [hQ2] at e3 B2
  have A0 : zAr 30 54 0 0 [] Q2 Q2 := zAr_0 B2.1
  have e4 := gi113_37 (o := 30) (l := 55) (R := Q2) (m := m1) ik30 ik55 il55 (zAr_z A0 (by decide)) (zAr_n A0 (by decide)) (zrow_z (g1 55 (by decide)))
  obtain ⟨Q3, hQ3⟩ : ∃ q, zfa Q2 30 5 1536 55 = q := ⟨_, rfl⟩
  have A1 : zAr 30 54 1 1536 [(5, 55)] Q2 (zfa Q2 30 5 1536 55) := zAr_s A0 (by decide) (by decide) (by decide) 5 1536 (by decide) (by decide) (by decide)
  rw [hQ3] at e4 A1
  have e5 := gi113_46 (o := 30) (l := 56) (R := Q3) (m := m1) ik30 ik56 il56 (zAr_z A1 (by decide)) (zAr_n A1 (by decide)) (zrow_z (g1 56 (by decide)))
  obtain ⟨Q4, hQ4⟩ : ∃ q, zfa Q3 30 6 96 56 = q := ⟨_, rfl⟩
  have A2 : zAr 30 54 2 1632 [(6, 56), (5, 55)] Q2 (zfa Q3 30 6 96 56) := zAr_s A1 (by decide) (by decide) (by decide) 6 96 (by decide) (by decide) (by decide)
  rw [hQ4] at e5 A2
  have e6 := gi113_54 (o := 30) (l := 57) (R := Q4) (m := m1) ik30 ik57 il57 (zAr_z A2 (by decide)) (zAr_n A2 (by decide)) (zrow_z (g1 57 (by decide)))
  obtain ⟨Q5, hQ5⟩ : ∃ q, zfa Q4 30 7 20 57 = q := ⟨_, rfl⟩
  have A3 : zAr 30 54 3 1652 [(7, 57), (6, 56), (5, 55)] Q2 (zfa Q4 30 7 20 57) := zAr_s A2 (by decide) (by decide) (by decide) 7 20 (by decide) (by decide) (by decide)
  rw [hQ5] at e6 A3
  have e7 := gi113_62 (o := 30) (R := Q5) (m := m1)
  have T0 : Q5 30 0 = 31 := by rw [A3.2.2.2.2.2.2 0 (by decide), B2.2.2.2.2.1 0 (by decide), B1.2.2.2.2.1 0 (by decide)]; exact B0.2.2.2.1
  have T1 : Q5 30 1 = 37 := by rw [A3.2.2.2.2.2.2 1 (by decide), B2.2.2.2.2.1 1 (by decide)]; exact B1.2.2.2.1
  have T2 : Q5 30 2 = 39 := by rw [A3.2.2.2.2.2.2 2 (by decide)]; exact B2.2.2.2.1
  have Fa := A3.2.2.2.1
  have r1_ : Q5 31 = N0 31 := by rw [A3.2.2.2.2.1 31 (by decide) (by decide) (by decide), B2.2.2.2.2.2.1 31 (by decide) (by decide) (by decide), B1.2.2.2.2.2.1 31 (by decide) (by decide) (by decide), B0.2.2.2.2.2.2 31 (by decide) (by decide)]
  have r7_ : Q5 37 = N1 37 := by rw [A3.2.2.2.2.1 37 (by decide) (by decide) (by decide), B2.2.2.2.2.2.1 37 (by decide) (by decide) (by decide), B1.2.2.2.2.2.2 37 (by decide) (by decide)]
  have r9_ : Q5 39 = N2 39 := by rw [A3.2.2.2.2.1 39 (by decide) (by decide) (by decide), B2.2.2.2.2.2.2 39 (by decide) (by decide)]
  refine ⟨Q5, m1, e0.trans (e1.trans (e2.trans (e3.trans (e4.trans (e5.trans (e6.trans (e7))))))), ⟨by rw [A3.1]; rfl, ?_, fun k k0 k1 => ?_, fun b b0 b1 b2 => ?_⟩, ?_, x1, x2, x3⟩
  · rw [A3.2.1, B2.2.1, B1.2.1, B0.2.1]; omega
  · rw [A3.2.2.1 k k0 k1, B2.2.2.1 k k0 k1, B1.2.2.1 k k0 k1, B0.2.2.1 k k0 k1]
  · rw [A3.2.2.2.2.1 b b0 b1 (by omega), B2.2.2.2.2.2.1 b b0 b1 (by omega), B1.2.2.2.2.2.1 b b0 b1 (by omega), B0.2.2.2.2.2.1 b b0 b1 (by omega)]
  · unfold TK
    simp only [Int.reduceAdd]
    exact ⟨ik30, T0, T1, T2, Fa (5, 55) (by decide), ik55, il55, Fa (6, 56) (by decide), ik56, il56, Fa (7, 57) (by decide), ik57, il57, ik31, (by rw [r1_]; exact a0.2.2.2.1 (4, 32) (by decide)), ik32, il32, (by rw [r1_]; exact a0.2.2.2.1 (5, 33) (by decide)), ik33, il33, (by rw [r1_]; exact a0.2.2.2.1 (6, 34) (by decide)), ik34, il34, (by rw [r1_]; exact a0.2.2.2.1 (7, 35) (by decide)), ik35, il35, (by rw [r1_]; exact a0.2.2.2.1 (8, 36) (by decide)), ik36, il36, ik37, (by rw [r7_]; exact a1.2.2.2.1 (1, 38) (by decide)), ik38, il38, ik39, (by rw [r9_]; exact a2.2.2.2.1 (1, 40) (by decide)), ik40, il40, (by rw [r9_]; exact a2.2.2.2.1 (2, 41) (by decide)), ik41, il41, (by rw [r9_]; exact a2.2.2.2.1 (3, 42) (by decide)), ik42, il42, (by rw [r9_]; exact a2.2.2.2.1 (4, 43) (by decide)), ik43, il43, (by rw [r9_]; exact a2.2.2.2.1 (5, 44) (by decide)), ik44, il44, (by rw [r9_]; exact a2.2.2.2.1 (6, 45) (by decide)), ik45, il45, (by rw [r9_]; exact a2.2.2.2.1 (7, 46) (by decide)), ik46, il46, (by rw [r9_]; exact a2.2.2.2.1 (8, 47) (by decide)), ik47, il47, (by rw [r9_]; exact a2.2.2.2.1 (9, 48) (by decide)), ik48, il48, (by rw [r9_]; exact a2.2.2.2.1 (10, 49) (by decide)), ik49, il49, (by rw [r9_]; exact a2.2.2.2.1 (11, 50) (by decide)), ik50, il50, (by rw [r9_]; exact a2.2.2.2.1 (12, 51) (by decide)), ik51, il51, (by rw [r9_]; exact a2.2.2.2.1 (13, 52) (by decide)), ik52, il52, (by rw [r9_]; exact a2.2.2.2.1 (14, 53) (by decide)), ik53, il53, (by rw [r9_]; exact a2.2.2.2.1 (15, 54) (by decide)), ik54, il54⟩
