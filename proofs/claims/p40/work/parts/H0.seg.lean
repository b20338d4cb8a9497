/-! the constructors' pieces (printed by a program of mine, gen_init.py) -/
def zfa (R : zM) (o j n l : Int) : zM := zup (znR R n) o j l
/-- rows made in an object o, behind the cells up to l: c cells, sz elements; fs its fields -/
def zAr (o l c sz : Int) (fs : List (Int × Int)) (R R1 : zM) : Prop := R1 0 0 = l + c ∧ R1 0 1 = R 0 1 + sz ∧ (∀ k, k ≠ 0 → k ≠ 1 → R1 0 k = R 0 k) ∧ (∀ p ∈ fs, R1 o p.1 = p.2) ∧ (∀ b, b ≠ 0 → b ≠ o → (b ≤ l ∨ l + c < b) → R1 b = R b) ∧ (∀ b, l < b → b ≤ l + c → ∀ k, R1 b k = 0) ∧ ∀ k, (∀ p ∈ fs, p.1 ≠ k) → R1 o k = R o k
section ARR
variable {R R1 m : zM} {o l c sz q j n : Int} {fs : List (Int × Int)}
theorem zfa_v (b k : Int) : zfa R o j n l b k = if b = o ∧ k = j then l else if b = 0 ∧ k = 1 then R 0 1 + n else if b = 0 ∧ k = 0 then R 0 0 + 1 else if b = R 0 0 + 1 then 0 else R b k := by
  unfold zfa znR znl zup zrow
  rfl
theorem zrow_z {a : Int} (h : m a = fun _ => 0) : zrow m a 0 = m := by
  funext b k
  unfold zrow
  split
  next e => rw [e, h]
  next => rfl
theorem zAr_0 (h : R 0 0 = l) : zAr o l 0 0 [] R R := ⟨by omega, by omega, fun _ _ _ => rfl, fun p hp => absurd hp List.not_mem_nil, fun _ _ _ _ => rfl, fun b b0 b1 => by omega, fun _ _ => rfl⟩
theorem zAr_z (h : zAr o l c sz fs R R1) (hq : l + c + 1 = q) : znl R1 = q := by
  unfold znl
  rw [h.1]
  omega
theorem zAr_n (h : zAr o l c sz fs R R1) (hq : 0 ≤ l + c) : 0 ≤ R1 0 0 := by rw [h.1]; exact hq
theorem zAr_s {c' sz' : Int} (h : zAr o l c sz fs R R1) (ho : 0 < o ∧ o ≤ l) (hc : 0 ≤ c) (hq : l + c + 1 = q) (j n : Int) (hj : ∀ p ∈ fs, p.1 ≠ j) (hc' : c + 1 = c') (hs' : sz + n = sz') : zAr o l c' sz' ((j, q) :: fs) R (zfa R1 o j n q) := by
  obtain ⟨h1, h2, h3, h4, h5, h6, h7⟩ := h
  refine ⟨?_, ?_, fun k k0 k1 => ?_, fun p hp => ?_, fun b b0 b1 b2 => ?_, fun b b0 b1 k => ?_, fun k hk => ?_⟩
  · rw [zfa_v, if_neg (by omega), if_neg (by omega), if_pos (by omega)]; omega
  · rw [zfa_v, if_neg (by omega), if_pos (by omega)]; omega
  · rw [zfa_v, if_neg (by omega), if_neg (by omega), if_neg (by omega), if_neg (by omega)]; exact h3 k k0 k1
  · rcases List.mem_cons.mp hp with e | e
    · rw [e, zfa_v, if_pos ⟨rfl, rfl⟩]
    · have := hj p e
      rw [zfa_v, if_neg (by omega), if_neg (by omega), if_neg (by omega), if_neg (by omega)]; exact h4 p e
  · funext k
    rw [zfa_v, if_neg (by omega), if_neg (by omega), if_neg (by omega), if_neg (by omega), h5 b b0 b1 (by omega)]
  · rw [zfa_v, if_neg (by omega), if_neg (by omega), if_neg (by omega)]
    by_cases e : b = R1 0 0 + 1
    · rw [if_pos e]
    · rw [if_neg e]; exact h6 b b0 (by omega) k
  · have k1 := hk (j, q) List.mem_cons_self
    have k1 : j ≠ k := k1
    rw [zfa_v, if_neg (by omega), if_neg (by omega), if_neg (by omega), if_neg (by omega)]
    exact h7 k (fun p hp => hk p (List.mem_cons_of_mem _ hp))
theorem zAr_p (h : zAr o l c sz fs R R1) (ho : o ≠ 0 ∧ o ≤ l) (j v : Int) (hj : ∀ p ∈ fs, p.1 ≠ j) : zAr o l c sz ((j, v) :: fs) R (zup R1 o j v) := by
  obtain ⟨h1, h2, h3, h4, h5, h6, h7⟩ := h
  have e : ∀ b k, zup R1 o j v b k = if b = o ∧ k = j then v else R1 b k := fun _ _ => rfl
  refine ⟨?_, ?_, fun k k0 k1 => ?_, fun p hp => ?_, fun b b0 b1 b2 => ?_, fun b b0 b1 k => ?_, fun k hk => ?_⟩
  · rw [e, if_neg (by omega)]; exact h1
  · rw [e, if_neg (by omega)]; exact h2
  · rw [e, if_neg (by omega)]; exact h3 k k0 k1
  · rcases List.mem_cons.mp hp with q | q
    · rw [q, e, if_pos ⟨rfl, rfl⟩]
    · have := hj p q
      rw [e, if_neg (by omega)]; exact h4 p q
  · funext k
    rw [e, if_neg (by omega)]
    exact congrFun (h5 b b0 b1 b2) k
  · rw [e, if_neg (by omega)]; exact h6 b b0 b1 k
  · have k1 : j ≠ k := hk (j, v) List.mem_cons_self
    rw [e, if_neg (by omega)]
    exact h7 k (fun p hp => hk p (List.mem_cons_of_mem _ hp))
end ARR
section SEG
variable {R m : zM} {o u l : Int}
theorem gi1_0 (ho : KD o = 1) : ev 1 0 [(2, o)] [] R m = ev 1 4 [(2, o)] [] R m := by
  have h0 : KD o ≠ 0 := by rw [ho]; decide
  rw [s1_0, s1_1]
  exact h0
theorem gi1_4 (ho : KD o = 1) (hl : KD l = 20) (hn : LN l = 60) (hz : znl R = l) (h0 : 0 ≤ R 0 0) (hm : zrow m l 0 = m) : ev 1 4 [(2, o)] [] R m = ev 1 12 [(2, o)] [] (zfa R o 1 60 l) m := by
  simp only [s1_4, s1_5, s1_7, s1_9, zps_0, zps_1, zps_2, zps_3, zps_9, Option.bind_some, Option.bind_none, Int.reduceEq, Int.reduceNe, Int.reduceLT, Int.reduceLE, Int.reduceNeg, Int.reduceAdd, Int.reduceSub, Int.reduceMul, reduceIte, if_true, if_false, true_and, and_true, false_and, and_false, or_true, true_or, or_false, false_or, not_true_eq_false, not_false_eq_true, ite_not, z_b0, z_b1, z_b01, ho, hl, hn, hz, h0, hm, and_self, zfa]
theorem gi1_12 (ho : KD o = 1) (hl : KD l = 20) (hn : LN l = 60) (hz : znl R = l) (h0 : 0 ≤ R 0 0) (hm : zrow m l 0 = m) : ev 1 12 [(2, o)] [] R m = ev 1 20 [(2, o)] [] (zfa R o 2 60 l) m := by
  simp only [s1_12, s1_13, s1_15, s1_17, zps_0, zps_1, zps_2, zps_3, zps_9, Option.bind_some, Option.bind_none, Int.reduceEq, Int.reduceNe, Int.reduceLT, Int.reduceLE, Int.reduceNeg, Int.reduceAdd, Int.reduceSub, Int.reduceMul, reduceIte, if_true, if_false, true_and, and_true, false_and, and_false, or_true, true_or, or_false, false_or, not_true_eq_false, not_false_eq_true, ite_not, z_b0, z_b1, z_b01, ho, hl, hn, hz, h0, hm, and_self, zfa]
theorem gi1_20 (ho : KD o = 1) (hl : KD l = 20) (hn : LN l = 240) (hz : znl R = l) (h0 : 0 ≤ R 0 0) (hm : zrow m l 0 = m) : ev 1 20 [(2, o)] [] R m = ev 1 29 [(2, o)] [] (zfa R o 3 240 l) m := by
  simp only [s1_20, s1_21, s1_24, s1_26, zps_0, zps_1, zps_2, zps_3, zps_9, Option.bind_some, Option.bind_none, Int.reduceEq, Int.reduceNe, Int.reduceLT, Int.reduceLE, Int.reduceNeg, Int.reduceAdd, Int.reduceSub, Int.reduceMul, reduceIte, if_true, if_false, true_and, and_true, false_and, and_false, or_true, true_or, or_false, false_or, not_true_eq_false, not_false_eq_true, ite_not, z_b0, z_b1, z_b01, ho, hl, hn, hz, h0, hm, and_self, zfa]
theorem gi1_29 (ho : KD o = 1) (hl : KD l = 23) (hn : LN l = 60) (hz : znl R = l) (h0 : 0 ≤ R 0 0) (hm : zrow m l 0 = m) : ev 1 29 [(2, o)] [] R m = ev 1 38 [(2, o)] [] (zfa R o 4 60 l) m := by
  simp only [s1_29, s1_30, s1_32, s1_35, zps_0, zps_1, zps_2, zps_3, zps_9, Option.bind_some, Option.bind_none, Int.reduceEq, Int.reduceNe, Int.reduceLT, Int.reduceLE, Int.reduceNeg, Int.reduceAdd, Int.reduceSub, Int.reduceMul, reduceIte, if_true, if_false, true_and, and_true, false_and, and_false, or_true, true_or, or_false, false_or, not_true_eq_false, not_false_eq_true, ite_not, z_b0, z_b1, z_b01, ho, hl, hn, hz, h0, hm, and_self, zfa]
theorem gi1_38 : ev 1 38 [(2, o)] [] R m = some ((9, 0), R, m) := by
  simp only [s1_38, zps_0, zps_1, zps_2, zps_3, zps_9, Option.bind_some, Option.bind_none, Int.reduceEq, Int.reduceNe, Int.reduceLT, Int.reduceLE, Int.reduceNeg, Int.reduceAdd, Int.reduceSub, Int.reduceMul, reduceIte, if_true, if_false, true_and, and_true, false_and, and_false, or_true, true_or, or_false, false_or, not_true_eq_false, not_false_eq_true, ite_not, z_b0, z_b1, z_b01]
theorem gi12_0 (ho : KD o = 2) : ev 12 0 [(2, o)] [] R m = ev 12 4 [(2, o)] [] R m := by
  have h0 : KD o ≠ 0 := by rw [ho]; decide
  rw [s12_0, s12_1]
  exact h0
theorem gi12_4 (ho : KD o = 2) (hl : KD l = 20) (hn : LN l = 64) (hz : znl R = l) (h0 : 0 ≤ R 0 0) (hm : zrow m l 0 = m) : ev 12 4 [(2, o)] [] R m = ev 12 12 [(2, o)] [] (zfa R o 4 64 l) m := by
  simp only [s12_4, s12_5, s12_7, s12_9, zps_0, zps_1, zps_2, zps_3, zps_9, Option.bind_some, Option.bind_none, Int.reduceEq, Int.reduceNe, Int.reduceLT, Int.reduceLE, Int.reduceNeg, Int.reduceAdd, Int.reduceSub, Int.reduceMul, reduceIte, if_true, if_false, true_and, and_true, false_and, and_false, or_true, true_or, or_false, false_or, not_true_eq_false, not_false_eq_true, ite_not, z_b0, z_b1, z_b01, ho, hl, hn, hz, h0, hm, and_self, zfa]
theorem gi12_12 (ho : KD o = 2) (hl : KD l = 20) (hn : LN l = 64) (hz : znl R = l) (h0 : 0 ≤ R 0 0) (hm : zrow m l 0 = m) : ev 12 12 [(2, o)] [] R m = ev 12 20 [(2, o)] [] (zfa R o 5 64 l) m := by
  simp only [s12_12, s12_13, s12_15, s12_17, zps_0, zps_1, zps_2, zps_3, zps_9, Option.bind_some, Option.bind_none, Int.reduceEq, Int.reduceNe, Int.reduceLT, Int.reduceLE, Int.reduceNeg, Int.reduceAdd, Int.reduceSub, Int.reduceMul, reduceIte, if_true, if_false, true_and, and_true, false_and, and_false, or_true, true_or, or_false, false_or, not_true_eq_false, not_false_eq_true, ite_not, z_b0, z_b1, z_b01, ho, hl, hn, hz, h0, hm, and_self, zfa]
theorem gi12_20 (ho : KD o = 2) (hl : KD l = 20) (hn : LN l = 64) (hz : znl R = l) (h0 : 0 ≤ R 0 0) (hm : zrow m l 0 = m) : ev 12 20 [(2, o)] [] R m = ev 12 28 [(2, o)] [] (zfa R o 6 64 l) m := by
  simp only [s12_20, s12_21, s12_23, s12_25, zps_0, zps_1, zps_2, zps_3, zps_9, Option.bind_some, Option.bind_none, Int.reduceEq, Int.reduceNe, Int.reduceLT, Int.reduceLE, Int.reduceNeg, Int.reduceAdd, Int.reduceSub, Int.reduceMul, reduceIte, if_true, if_false, true_and, and_true, false_and, and_false, or_true, true_or, or_false, false_or, not_true_eq_false, not_false_eq_true, ite_not, z_b0, z_b1, z_b01, ho, hl, hn, hz, h0, hm, and_self, zfa]
theorem gi12_28 (ho : KD o = 2) (hl : KD l = 21) (hn : LN l = 5) (hz : znl R = l) (h0 : 0 ≤ R 0 0) (hm : zrow m l 0 = m) : ev 12 28 [(2, o)] [] R m = ev 12 35 [(2, o)] [] (zfa R o 7 5 l) m := by
  simp only [s12_28, s12_29, s12_30, s12_32, zps_0, zps_1, zps_2, zps_3, zps_9, Option.bind_some, Option.bind_none, Int.reduceEq, Int.reduceNe, Int.reduceLT, Int.reduceLE, Int.reduceNeg, Int.reduceAdd, Int.reduceSub, Int.reduceMul, reduceIte, if_true, if_false, true_and, and_true, false_and, and_false, or_true, true_or, or_false, false_or, not_true_eq_false, not_false_eq_true, ite_not, z_b0, z_b1, z_b01, ho, hl, hn, hz, h0, hm, and_self, zfa]
theorem gi12_35 (ho : KD o = 2) (hl : KD l = 21) (hn : LN l = 960) (hz : znl R = l) (h0 : 0 ≤ R 0 0) (hm : zrow m l 0 = m) : ev 12 35 [(2, o)] [] R m = ev 12 44 [(2, o)] [] (zfa R o 8 960 l) m := by
  simp only [s12_35, s12_36, s12_39, s12_41, zps_0, zps_1, zps_2, zps_3, zps_9, Option.bind_some, Option.bind_none, Int.reduceEq, Int.reduceNe, Int.reduceLT, Int.reduceLE, Int.reduceNeg, Int.reduceAdd, Int.reduceSub, Int.reduceMul, reduceIte, if_true, if_false, true_and, and_true, false_and, and_false, or_true, true_or, or_false, false_or, not_true_eq_false, not_false_eq_true, ite_not, z_b0, z_b1, z_b01, ho, hl, hn, hz, h0, hm, and_self, zfa]
theorem gi12_50 : ev 12 50 [(2, o)] [] R m = some ((9, 0), R, m) := by
  simp only [s12_50, zps_0, zps_1, zps_2, zps_3, zps_9, Option.bind_some, Option.bind_none, Int.reduceEq, Int.reduceNe, Int.reduceLT, Int.reduceLE, Int.reduceNeg, Int.reduceAdd, Int.reduceSub, Int.reduceMul, reduceIte, if_true, if_false, true_and, and_true, false_and, and_false, or_true, true_or, or_false, false_or, not_true_eq_false, not_false_eq_true, ite_not, z_b0, z_b1, z_b01]
theorem gi32_0 (ho : KD o = 3) : ev 32 0 [(2, o)] [] R m = ev 32 4 [(2, o)] [] R m := by
  have h0 : KD o ≠ 0 := by rw [ho]; decide
  rw [s32_0, s32_1]
  exact h0
theorem gi32_4 (ho : KD o = 3) (hl : KD l = 20) (hn : LN l = 320) (hz : znl R = l) (h0 : 0 ≤ R 0 0) (hm : zrow m l 0 = m) : ev 32 4 [(2, o)] [] R m = ev 32 13 [(2, o)] [] (zfa R o 3 320 l) m := by
  simp only [s32_4, s32_5, s32_8, s32_10, zps_0, zps_1, zps_2, zps_3, zps_9, Option.bind_some, Option.bind_none, Int.reduceEq, Int.reduceNe, Int.reduceLT, Int.reduceLE, Int.reduceNeg, Int.reduceAdd, Int.reduceSub, Int.reduceMul, reduceIte, if_true, if_false, true_and, and_true, false_and, and_false, or_true, true_or, or_false, false_or, not_true_eq_false, not_false_eq_true, ite_not, z_b0, z_b1, z_b01, ho, hl, hn, hz, h0, hm, and_self, zfa]
theorem gi32_13 (ho : KD o = 3) (hl : KD l = 20) (hn : LN l = 321) (hz : znl R = l) (h0 : 0 ≤ R 0 0) (hm : zrow m l 0 = m) : ev 32 13 [(2, o)] [] R m = ev 32 22 [(2, o)] [] (zfa R o 5 321 l) m := by
  simp only [s32_13, s32_14, s32_17, s32_19, zps_0, zps_1, zps_2, zps_3, zps_9, Option.bind_some, Option.bind_none, Int.reduceEq, Int.reduceNe, Int.reduceLT, Int.reduceLE, Int.reduceNeg, Int.reduceAdd, Int.reduceSub, Int.reduceMul, reduceIte, if_true, if_false, true_and, and_true, false_and, and_false, or_true, true_or, or_false, false_or, not_true_eq_false, not_false_eq_true, ite_not, z_b0, z_b1, z_b01, ho, hl, hn, hz, h0, hm, and_self, zfa]
theorem gi32_22 (ho : KD o = 3) (hl : KD l = 20) (hn : LN l = 321) (hz : znl R = l) (h0 : 0 ≤ R 0 0) (hm : zrow m l 0 = m) : ev 32 22 [(2, o)] [] R m = ev 32 31 [(2, o)] [] (zfa R o 6 321 l) m := by
  simp only [s32_22, s32_23, s32_26, s32_28, zps_0, zps_1, zps_2, zps_3, zps_9, Option.bind_some, Option.bind_none, Int.reduceEq, Int.reduceNe, Int.reduceLT, Int.reduceLE, Int.reduceNeg, Int.reduceAdd, Int.reduceSub, Int.reduceMul, reduceIte, if_true, if_false, true_and, and_true, false_and, and_false, or_true, true_or, or_false, false_or, not_true_eq_false, not_false_eq_true, ite_not, z_b0, z_b1, z_b01, ho, hl, hn, hz, h0, hm, and_self, zfa]
theorem gi32_31 (ho : KD o = 3) (hl : KD l = 20) (hn : LN l = 321) (hz : znl R = l) (h0 : 0 ≤ R 0 0) (hm : zrow m l 0 = m) : ev 32 31 [(2, o)] [] R m = ev 32 40 [(2, o)] [] (zfa R o 7 321 l) m := by
  simp only [s32_31, s32_32, s32_35, s32_37, zps_0, zps_1, zps_2, zps_3, zps_9, Option.bind_some, Option.bind_none, Int.reduceEq, Int.reduceNe, Int.reduceLT, Int.reduceLE, Int.reduceNeg, Int.reduceAdd, Int.reduceSub, Int.reduceMul, reduceIte, if_true, if_false, true_and, and_true, false_and, and_false, or_true, true_or, or_false, false_or, not_true_eq_false, not_false_eq_true, ite_not, z_b0, z_b1, z_b01, ho, hl, hn, hz, h0, hm, and_self, zfa]
theorem gi32_40 : ev 32 40 [(2, o)] [] R m = some ((9, 0), R, m) := by
  simp only [s32_40, zps_0, zps_1, zps_2, zps_3, zps_9, Option.bind_some, Option.bind_none, Int.reduceEq, Int.reduceNe, Int.reduceLT, Int.reduceLE, Int.reduceNeg, Int.reduceAdd, Int.reduceSub, Int.reduceMul, reduceIte, if_true, if_false, true_and, and_true, false_and, and_false, or_true, true_or, or_false, false_or, not_true_eq_false, not_false_eq_true, ite_not, z_b0, z_b1, z_b01]
theorem gi59_0 (ho : KD o = 4) : ev 59 0 [(2, o)] [] R m = ev 59 4 [(2, o)] [] R m := by
  have h0 : KD o ≠ 0 := by rw [ho]; decide
  rw [s59_0, s59_1]
  exact h0
theorem gi59_4 (ho : KD o = 4) (hl : KD l = 20) (hn : LN l = 84) (hz : znl R = l) (h0 : 0 ≤ R 0 0) (hm : zrow m l 0 = m) : ev 59 4 [(2, o)] [] R m = ev 59 12 [(2, o)] [] (zfa R o 1 84 l) m := by
  simp only [s59_4, s59_5, s59_7, s59_9, zps_0, zps_1, zps_2, zps_3, zps_9, Option.bind_some, Option.bind_none, Int.reduceEq, Int.reduceNe, Int.reduceLT, Int.reduceLE, Int.reduceNeg, Int.reduceAdd, Int.reduceSub, Int.reduceMul, reduceIte, if_true, if_false, true_and, and_true, false_and, and_false, or_true, true_or, or_false, false_or, not_true_eq_false, not_false_eq_true, ite_not, z_b0, z_b1, z_b01, ho, hl, hn, hz, h0, hm, and_self, zfa]
theorem gi59_12 : ev 59 12 [(2, o)] [] R m = some ((9, 0), R, m) := by
  simp only [s59_12, zps_0, zps_1, zps_2, zps_3, zps_9, Option.bind_some, Option.bind_none, Int.reduceEq, Int.reduceNe, Int.reduceLT, Int.reduceLE, Int.reduceNeg, Int.reduceAdd, Int.reduceSub, Int.reduceMul, reduceIte, if_true, if_false, true_and, and_true, false_and, and_false, or_true, true_or, or_false, false_or, not_true_eq_false, not_false_eq_true, ite_not, z_b0, z_b1, z_b01]
theorem gi70_0 (ho : KD o = 5) : ev 70 0 [(2, o)] [] R m = ev 70 4 [(2, o)] [] R m := by
  have h0 : KD o ≠ 0 := by rw [ho]; decide
  rw [s70_0, s70_1]
  exact h0
theorem gi70_4 (ho : KD o = 5) (hl : KD l = 20) (hn : LN l = 16) (hz : znl R = l) (h0 : 0 ≤ R 0 0) (hm : zrow m l 0 = m) : ev 70 4 [(2, o)] [] R m = ev 70 12 [(2, o)] [] (zfa R o 1 16 l) m := by
  simp only [s70_4, s70_5, s70_7, s70_9, zps_0, zps_1, zps_2, zps_3, zps_9, Option.bind_some, Option.bind_none, Int.reduceEq, Int.reduceNe, Int.reduceLT, Int.reduceLE, Int.reduceNeg, Int.reduceAdd, Int.reduceSub, Int.reduceMul, reduceIte, if_true, if_false, true_and, and_true, false_and, and_false, or_true, true_or, or_false, false_or, not_true_eq_false, not_false_eq_true, ite_not, z_b0, z_b1, z_b01, ho, hl, hn, hz, h0, hm, and_self, zfa]
theorem gi70_12 (ho : KD o = 5) (hl : KD l = 20) (hn : LN l = 16) (hz : znl R = l) (h0 : 0 ≤ R 0 0) (hm : zrow m l 0 = m) : ev 70 12 [(2, o)] [] R m = ev 70 20 [(2, o)] [] (zfa R o 2 16 l) m := by
  simp only [s70_12, s70_13, s70_15, s70_17, zps_0, zps_1, zps_2, zps_3, zps_9, Option.bind_some, Option.bind_none, Int.reduceEq, Int.reduceNe, Int.reduceLT, Int.reduceLE, Int.reduceNeg, Int.reduceAdd, Int.reduceSub, Int.reduceMul, reduceIte, if_true, if_false, true_and, and_true, false_and, and_false, or_true, true_or, or_false, false_or, not_true_eq_false, not_false_eq_true, ite_not, z_b0, z_b1, z_b01, ho, hl, hn, hz, h0, hm, and_self, zfa]
theorem gi70_20 (ho : KD o = 5) (hl : KD l = 20) (hn : LN l = 16) (hz : znl R = l) (h0 : 0 ≤ R 0 0) (hm : zrow m l 0 = m) : ev 70 20 [(2, o)] [] R m = ev 70 28 [(2, o)] [] (zfa R o 3 16 l) m := by
  simp only [s70_20, s70_21, s70_23, s70_25, zps_0, zps_1, zps_2, zps_3, zps_9, Option.bind_some, Option.bind_none, Int.reduceEq, Int.reduceNe, Int.reduceLT, Int.reduceLE, Int.reduceNeg, Int.reduceAdd, Int.reduceSub, Int.reduceMul, reduceIte, if_true, if_false, true_and, and_true, false_and, and_false, or_true, true_or, or_false, false_or, not_true_eq_false, not_false_eq_true, ite_not, z_b0, z_b1, z_b01, ho, hl, hn, hz, h0, hm, and_self, zfa]
theorem gi70_28 (ho : KD o = 5) (hl : KD l = 20) (hn : LN l = 16) (hz : znl R = l) (h0 : 0 ≤ R 0 0) (hm : zrow m l 0 = m) : ev 70 28 [(2, o)] [] R m = ev 70 36 [(2, o)] [] (zfa R o 4 16 l) m := by
  simp only [s70_28, s70_29, s70_31, s70_33, zps_0, zps_1, zps_2, zps_3, zps_9, Option.bind_some, Option.bind_none, Int.reduceEq, Int.reduceNe, Int.reduceLT, Int.reduceLE, Int.reduceNeg, Int.reduceAdd, Int.reduceSub, Int.reduceMul, reduceIte, if_true, if_false, true_and, and_true, false_and, and_false, or_true, true_or, or_false, false_or, not_true_eq_false, not_false_eq_true, ite_not, z_b0, z_b1, z_b01, ho, hl, hn, hz, h0, hm, and_self, zfa]
theorem gi70_36 : ev 70 36 [(2, o)] [] R m = some ((9, 0), R, m) := by
  simp only [s70_36, zps_0, zps_1, zps_2, zps_3, zps_9, Option.bind_some, Option.bind_none, Int.reduceEq, Int.reduceNe, Int.reduceLT, Int.reduceLE, Int.reduceNeg, Int.reduceAdd, Int.reduceSub, Int.reduceMul, reduceIte, if_true, if_false, true_and, and_true, false_and, and_false, or_true, true_or, or_false, false_or, not_true_eq_false, not_false_eq_true, ite_not, z_b0, z_b1, z_b01]
theorem gi74_0 (ho : KD o = 6) : ev 74 0 [(2, o)] [] R m = ev 74 4 [(2, o)] [] R m := by
  have h0 : KD o ≠ 0 := by rw [ho]; decide
  rw [s74_0, s74_1]
  exact h0
theorem gi74_4 (ho : KD o = 6) (hl : KD l = 20) (hn : LN l = 6) (hz : znl R = l) (h0 : 0 ≤ R 0 0) (hm : zrow m l 0 = m) : ev 74 4 [(2, o)] [] R m = ev 74 12 [(2, o)] [] (zfa R o 4 6 l) m := by
  simp only [s74_4, s74_5, s74_7, s74_9, zps_0, zps_1, zps_2, zps_3, zps_9, Option.bind_some, Option.bind_none, Int.reduceEq, Int.reduceNe, Int.reduceLT, Int.reduceLE, Int.reduceNeg, Int.reduceAdd, Int.reduceSub, Int.reduceMul, reduceIte, if_true, if_false, true_and, and_true, false_and, and_false, or_true, true_or, or_false, false_or, not_true_eq_false, not_false_eq_true, ite_not, z_b0, z_b1, z_b01, ho, hl, hn, hz, h0, hm, and_self, zfa]
theorem gi74_12 (ho : KD o = 6) (hl : KD l = 20) (hn : LN l = 6) (hz : znl R = l) (h0 : 0 ≤ R 0 0) (hm : zrow m l 0 = m) : ev 74 12 [(2, o)] [] R m = ev 74 20 [(2, o)] [] (zfa R o 5 6 l) m := by
  simp only [s74_12, s74_13, s74_15, s74_17, zps_0, zps_1, zps_2, zps_3, zps_9, Option.bind_some, Option.bind_none, Int.reduceEq, Int.reduceNe, Int.reduceLT, Int.reduceLE, Int.reduceNeg, Int.reduceAdd, Int.reduceSub, Int.reduceMul, reduceIte, if_true, if_false, true_and, and_true, false_and, and_false, or_true, true_or, or_false, false_or, not_true_eq_false, not_false_eq_true, ite_not, z_b0, z_b1, z_b01, ho, hl, hn, hz, h0, hm, and_self, zfa]
theorem gi74_20 (ho : KD o = 6) (hl : KD l = 20) (hn : LN l = 6) (hz : znl R = l) (h0 : 0 ≤ R 0 0) (hm : zrow m l 0 = m) : ev 74 20 [(2, o)] [] R m = ev 74 28 [(2, o)] [] (zfa R o 6 6 l) m := by
  simp only [s74_20, s74_21, s74_23, s74_25, zps_0, zps_1, zps_2, zps_3, zps_9, Option.bind_some, Option.bind_none, Int.reduceEq, Int.reduceNe, Int.reduceLT, Int.reduceLE, Int.reduceNeg, Int.reduceAdd, Int.reduceSub, Int.reduceMul, reduceIte, if_true, if_false, true_and, and_true, false_and, and_false, or_true, true_or, or_false, false_or, not_true_eq_false, not_false_eq_true, ite_not, z_b0, z_b1, z_b01, ho, hl, hn, hz, h0, hm, and_self, zfa]
theorem gi74_28 : ev 74 28 [(2, o)] [] R m = some ((9, 0), R, m) := by
  simp only [s74_28, zps_0, zps_1, zps_2, zps_3, zps_9, Option.bind_some, Option.bind_none, Int.reduceEq, Int.reduceNe, Int.reduceLT, Int.reduceLE, Int.reduceNeg, Int.reduceAdd, Int.reduceSub, Int.reduceMul, reduceIte, if_true, if_false, true_and, and_true, false_and, and_false, or_true, true_or, or_false, false_or, not_true_eq_false, not_false_eq_true, ite_not, z_b0, z_b1, z_b01]
theorem gi86_0 (ho : KD o = 7) : ev 86 0 [(2, o)] [] R m = ev 86 4 [(2, o)] [] R m := by
  have h0 : KD o ≠ 0 := by rw [ho]; decide
  rw [s86_0, s86_1]
  exact h0
theorem gi86_4 (ho : KD o = 7) (hl : KD l = 20) (hn : LN l = 20) (hz : znl R = l) (h0 : 0 ≤ R 0 0) (hm : zrow m l 0 = m) : ev 86 4 [(2, o)] [] R m = ev 86 12 [(2, o)] [] (zfa R o 1 20 l) m := by
  simp only [s86_4, s86_5, s86_7, s86_9, zps_0, zps_1, zps_2, zps_3, zps_9, Option.bind_some, Option.bind_none, Int.reduceEq, Int.reduceNe, Int.reduceLT, Int.reduceLE, Int.reduceNeg, Int.reduceAdd, Int.reduceSub, Int.reduceMul, reduceIte, if_true, if_false, true_and, and_true, false_and, and_false, or_true, true_or, or_false, false_or, not_true_eq_false, not_false_eq_true, ite_not, z_b0, z_b1, z_b01, ho, hl, hn, hz, h0, hm, and_self, zfa]
theorem gi86_12 (ho : KD o = 7) (hl : KD l = 20) (hn : LN l = 20) (hz : znl R = l) (h0 : 0 ≤ R 0 0) (hm : zrow m l 0 = m) : ev 86 12 [(2, o)] [] R m = ev 86 20 [(2, o)] [] (zfa R o 2 20 l) m := by
  simp only [s86_12, s86_13, s86_15, s86_17, zps_0, zps_1, zps_2, zps_3, zps_9, Option.bind_some, Option.bind_none, Int.reduceEq, Int.reduceNe, Int.reduceLT, Int.reduceLE, Int.reduceNeg, Int.reduceAdd, Int.reduceSub, Int.reduceMul, reduceIte, if_true, if_false, true_and, and_true, false_and, and_false, or_true, true_or, or_false, false_or, not_true_eq_false, not_false_eq_true, ite_not, z_b0, z_b1, z_b01, ho, hl, hn, hz, h0, hm, and_self, zfa]
theorem gi86_20 (ho : KD o = 7) (hl : KD l = 20) (hn : LN l = 20) (hz : znl R = l) (h0 : 0 ≤ R 0 0) (hm : zrow m l 0 = m) : ev 86 20 [(2, o)] [] R m = ev 86 28 [(2, o)] [] (zfa R o 3 20 l) m := by
  simp only [s86_20, s86_21, s86_23, s86_25, zps_0, zps_1, zps_2, zps_3, zps_9, Option.bind_some, Option.bind_none, Int.reduceEq, Int.reduceNe, Int.reduceLT, Int.reduceLE, Int.reduceNeg, Int.reduceAdd, Int.reduceSub, Int.reduceMul, reduceIte, if_true, if_false, true_and, and_true, false_and, and_false, or_true, true_or, or_false, false_or, not_true_eq_false, not_false_eq_true, ite_not, z_b0, z_b1, z_b01, ho, hl, hn, hz, h0, hm, and_self, zfa]
theorem gi86_28 (ho : KD o = 7) (hl : KD l = 20) (hn : LN l = 20) (hz : znl R = l) (h0 : 0 ≤ R 0 0) (hm : zrow m l 0 = m) : ev 86 28 [(2, o)] [] R m = ev 86 36 [(2, o)] [] (zfa R o 4 20 l) m := by
  simp only [s86_28, s86_29, s86_31, s86_33, zps_0, zps_1, zps_2, zps_3, zps_9, Option.bind_some, Option.bind_none, Int.reduceEq, Int.reduceNe, Int.reduceLT, Int.reduceLE, Int.reduceNeg, Int.reduceAdd, Int.reduceSub, Int.reduceMul, reduceIte, if_true, if_false, true_and, and_true, false_and, and_false, or_true, true_or, or_false, false_or, not_true_eq_false, not_false_eq_true, ite_not, z_b0, z_b1, z_b01, ho, hl, hn, hz, h0, hm, and_self, zfa]
theorem gi86_36 (ho : KD o = 7) (hl : KD l = 20) (hn : LN l = 20) (hz : znl R = l) (h0 : 0 ≤ R 0 0) (hm : zrow m l 0 = m) : ev 86 36 [(2, o)] [] R m = ev 86 44 [(2, o)] [] (zfa R o 5 20 l) m := by
  simp only [s86_36, s86_37, s86_39, s86_41, zps_0, zps_1, zps_2, zps_3, zps_9, Option.bind_some, Option.bind_none, Int.reduceEq, Int.reduceNe, Int.reduceLT, Int.reduceLE, Int.reduceNeg, Int.reduceAdd, Int.reduceSub, Int.reduceMul, reduceIte, if_true, if_false, true_and, and_true, false_and, and_false, or_true, true_or, or_false, false_or, not_true_eq_false, not_false_eq_true, ite_not, z_b0, z_b1, z_b01, ho, hl, hn, hz, h0, hm, and_self, zfa]
theorem gi86_44 (ho : KD o = 7) (hl : KD l = 20) (hn : LN l = 20) (hz : znl R = l) (h0 : 0 ≤ R 0 0) (hm : zrow m l 0 = m) : ev 86 44 [(2, o)] [] R m = ev 86 52 [(2, o)] [] (zfa R o 6 20 l) m := by
  simp only [s86_44, s86_45, s86_47, s86_49, zps_0, zps_1, zps_2, zps_3, zps_9, Option.bind_some, Option.bind_none, Int.reduceEq, Int.reduceNe, Int.reduceLT, Int.reduceLE, Int.reduceNeg, Int.reduceAdd, Int.reduceSub, Int.reduceMul, reduceIte, if_true, if_false, true_and, and_true, false_and, and_false, or_true, true_or, or_false, false_or, not_true_eq_false, not_false_eq_true, ite_not, z_b0, z_b1, z_b01, ho, hl, hn, hz, h0, hm, and_self, zfa]
theorem gi86_52 (ho : KD o = 7) (hl : KD l = 20) (hn : LN l = 20) (hz : znl R = l) (h0 : 0 ≤ R 0 0) (hm : zrow m l 0 = m) : ev 86 52 [(2, o)] [] R m = ev 86 60 [(2, o)] [] (zfa R o 7 20 l) m := by
  simp only [s86_52, s86_53, s86_55, s86_57, zps_0, zps_1, zps_2, zps_3, zps_9, Option.bind_some, Option.bind_none, Int.reduceEq, Int.reduceNe, Int.reduceLT, Int.reduceLE, Int.reduceNeg, Int.reduceAdd, Int.reduceSub, Int.reduceMul, reduceIte, if_true, if_false, true_and, and_true, false_and, and_false, or_true, true_or, or_false, false_or, not_true_eq_false, not_false_eq_true, ite_not, z_b0, z_b1, z_b01, ho, hl, hn, hz, h0, hm, and_self, zfa]
theorem gi86_60 (ho : KD o = 7) (hl : KD l = 20) (hn : LN l = 20) (hz : znl R = l) (h0 : 0 ≤ R 0 0) (hm : zrow m l 0 = m) : ev 86 60 [(2, o)] [] R m = ev 86 68 [(2, o)] [] (zfa R o 8 20 l) m := by
  simp only [s86_60, s86_61, s86_63, s86_65, zps_0, zps_1, zps_2, zps_3, zps_9, Option.bind_some, Option.bind_none, Int.reduceEq, Int.reduceNe, Int.reduceLT, Int.reduceLE, Int.reduceNeg, Int.reduceAdd, Int.reduceSub, Int.reduceMul, reduceIte, if_true, if_false, true_and, and_true, false_and, and_false, or_true, true_or, or_false, false_or, not_true_eq_false, not_false_eq_true, ite_not, z_b0, z_b1, z_b01, ho, hl, hn, hz, h0, hm, and_self, zfa]
theorem gi86_68 (ho : KD o = 7) (hl : KD l = 20) (hn : LN l = 20) (hz : znl R = l) (h0 : 0 ≤ R 0 0) (hm : zrow m l 0 = m) : ev 86 68 [(2, o)] [] R m = ev 86 76 [(2, o)] [] (zfa R o 9 20 l) m := by
  simp only [s86_68, s86_69, s86_71, s86_73, zps_0, zps_1, zps_2, zps_3, zps_9, Option.bind_some, Option.bind_none, Int.reduceEq, Int.reduceNe, Int.reduceLT, Int.reduceLE, Int.reduceNeg, Int.reduceAdd, Int.reduceSub, Int.reduceMul, reduceIte, if_true, if_false, true_and, and_true, false_and, and_false, or_true, true_or, or_false, false_or, not_true_eq_false, not_false_eq_true, ite_not, z_b0, z_b1, z_b01, ho, hl, hn, hz, h0, hm, and_self, zfa]
theorem gi86_76 (ho : KD o = 7) (hl : KD l = 20) (hn : LN l = 20) (hz : znl R = l) (h0 : 0 ≤ R 0 0) (hm : zrow m l 0 = m) : ev 86 76 [(2, o)] [] R m = ev 86 84 [(2, o)] [] (zfa R o 10 20 l) m := by
  simp only [s86_76, s86_77, s86_79, s86_81, zps_0, zps_1, zps_2, zps_3, zps_9, Option.bind_some, Option.bind_none, Int.reduceEq, Int.reduceNe, Int.reduceLT, Int.reduceLE, Int.reduceNeg, Int.reduceAdd, Int.reduceSub, Int.reduceMul, reduceIte, if_true, if_false, true_and, and_true, false_and, and_false, or_true, true_or, or_false, false_or, not_true_eq_false, not_false_eq_true, ite_not, z_b0, z_b1, z_b01, ho, hl, hn, hz, h0, hm, and_self, zfa]
theorem gi86_84 (ho : KD o = 7) (hl : KD l = 21) (hn : LN l = 20) (hz : znl R = l) (h0 : 0 ≤ R 0 0) (hm : zrow m l 0 = m) : ev 86 84 [(2, o)] [] R m = ev 86 92 [(2, o)] [] (zfa R o 11 20 l) m := by
  simp only [s86_84, s86_85, s86_87, s86_89, zps_0, zps_1, zps_2, zps_3, zps_9, Option.bind_some, Option.bind_none, Int.reduceEq, Int.reduceNe, Int.reduceLT, Int.reduceLE, Int.reduceNeg, Int.reduceAdd, Int.reduceSub, Int.reduceMul, reduceIte, if_true, if_false, true_and, and_true, false_and, and_false, or_true, true_or, or_false, false_or, not_true_eq_false, not_false_eq_true, ite_not, z_b0, z_b1, z_b01, ho, hl, hn, hz, h0, hm, and_self, zfa]
theorem gi86_92 (ho : KD o = 7) (hl : KD l = 20) (hn : LN l = 64) (hz : znl R = l) (h0 : 0 ≤ R 0 0) (hm : zrow m l 0 = m) : ev 86 92 [(2, o)] [] R m = ev 86 100 [(2, o)] [] (zfa R o 12 64 l) m := by
  simp only [s86_92, s86_93, s86_95, s86_97, zps_0, zps_1, zps_2, zps_3, zps_9, Option.bind_some, Option.bind_none, Int.reduceEq, Int.reduceNe, Int.reduceLT, Int.reduceLE, Int.reduceNeg, Int.reduceAdd, Int.reduceSub, Int.reduceMul, reduceIte, if_true, if_false, true_and, and_true, false_and, and_false, or_true, true_or, or_false, false_or, not_true_eq_false, not_false_eq_true, ite_not, z_b0, z_b1, z_b01, ho, hl, hn, hz, h0, hm, and_self, zfa]
theorem gi86_100 (ho : KD o = 7) (hl : KD l = 21) (hn : LN l = 4) (hz : znl R = l) (h0 : 0 ≤ R 0 0) (hm : zrow m l 0 = m) : ev 86 100 [(2, o)] [] R m = ev 86 107 [(2, o)] [] (zfa R o 13 4 l) m := by
  simp only [s86_100, s86_101, s86_102, s86_104, zps_0, zps_1, zps_2, zps_3, zps_9, Option.bind_some, Option.bind_none, Int.reduceEq, Int.reduceNe, Int.reduceLT, Int.reduceLE, Int.reduceNeg, Int.reduceAdd, Int.reduceSub, Int.reduceMul, reduceIte, if_true, if_false, true_and, and_true, false_and, and_false, or_true, true_or, or_false, false_or, not_true_eq_false, not_false_eq_true, ite_not, z_b0, z_b1, z_b01, ho, hl, hn, hz, h0, hm, and_self, zfa]
theorem gi86_107 (ho : KD o = 7) (hl : KD l = 20) (hn : LN l = 256) (hz : znl R = l) (h0 : 0 ≤ R 0 0) (hm : zrow m l 0 = m) : ev 86 107 [(2, o)] [] R m = ev 86 116 [(2, o)] [] (zfa R o 14 256 l) m := by
  simp only [s86_107, s86_108, s86_111, s86_113, zps_0, zps_1, zps_2, zps_3, zps_9, Option.bind_some, Option.bind_none, Int.reduceEq, Int.reduceNe, Int.reduceLT, Int.reduceLE, Int.reduceNeg, Int.reduceAdd, Int.reduceSub, Int.reduceMul, reduceIte, if_true, if_false, true_and, and_true, false_and, and_false, or_true, true_or, or_false, false_or, not_true_eq_false, not_false_eq_true, ite_not, z_b0, z_b1, z_b01, ho, hl, hn, hz, h0, hm, and_self, zfa]
theorem gi86_116 (ho : KD o = 7) (hl : KD l = 20) (hn : LN l = 64) (hz : znl R = l) (h0 : 0 ≤ R 0 0) (hm : zrow m l 0 = m) : ev 86 116 [(2, o)] [] R m = ev 86 124 [(2, o)] [] (zfa R o 15 64 l) m := by
  simp only [s86_116, s86_117, s86_119, s86_121, zps_0, zps_1, zps_2, zps_3, zps_9, Option.bind_some, Option.bind_none, Int.reduceEq, Int.reduceNe, Int.reduceLT, Int.reduceLE, Int.reduceNeg, Int.reduceAdd, Int.reduceSub, Int.reduceMul, reduceIte, if_true, if_false, true_and, and_true, false_and, and_false, or_true, true_or, or_false, false_or, not_true_eq_false, not_false_eq_true, ite_not, z_b0, z_b1, z_b01, ho, hl, hn, hz, h0, hm, and_self, zfa]
theorem gi86_124 : ev 86 124 [(2, o)] [] R m = some ((9, 0), R, m) := by
  simp only [s86_124, zps_0, zps_1, zps_2, zps_3, zps_9, Option.bind_some, Option.bind_none, Int.reduceEq, Int.reduceNe, Int.reduceLT, Int.reduceLE, Int.reduceNeg, Int.reduceAdd, Int.reduceSub, Int.reduceMul, reduceIte, if_true, if_false, true_and, and_true, false_and, and_false, or_true, true_or, or_false, false_or, not_true_eq_false, not_false_eq_true, ite_not, z_b0, z_b1, z_b01]
theorem gi105_0 (ho : KD o = 8) : ev 105 0 [(2, o)] [] R m = ev 105 4 [(2, o)] [] R m := by
  have h0 : KD o ≠ 0 := by rw [ho]; decide
  rw [s105_0, s105_1]
  exact h0
theorem gi105_4 (ho : KD o = 8) (hl : KD l = 20) (hn : LN l = 4) (hz : znl R = l) (h0 : 0 ≤ R 0 0) (hm : zrow m l 0 = m) : ev 105 4 [(2, o)] [] R m = ev 105 11 [(2, o)] [] (zfa R o 0 4 l) m := by
  simp only [s105_4, s105_5, s105_6, s105_8, zps_0, zps_1, zps_2, zps_3, zps_9, Option.bind_some, Option.bind_none, Int.reduceEq, Int.reduceNe, Int.reduceLT, Int.reduceLE, Int.reduceNeg, Int.reduceAdd, Int.reduceSub, Int.reduceMul, reduceIte, if_true, if_false, true_and, and_true, false_and, and_false, or_true, true_or, or_false, false_or, not_true_eq_false, not_false_eq_true, ite_not, z_b0, z_b1, z_b01, ho, hl, hn, hz, h0, hm, and_self, zfa]
theorem gi105_11 (ho : KD o = 8) (hl : KD l = 20) (hn : LN l = 4) (hz : znl R = l) (h0 : 0 ≤ R 0 0) (hm : zrow m l 0 = m) : ev 105 11 [(2, o)] [] R m = ev 105 18 [(2, o)] [] (zfa R o 1 4 l) m := by
  simp only [s105_11, s105_12, s105_13, s105_15, zps_0, zps_1, zps_2, zps_3, zps_9, Option.bind_some, Option.bind_none, Int.reduceEq, Int.reduceNe, Int.reduceLT, Int.reduceLE, Int.reduceNeg, Int.reduceAdd, Int.reduceSub, Int.reduceMul, reduceIte, if_true, if_false, true_and, and_true, false_and, and_false, or_true, true_or, or_false, false_or, not_true_eq_false, not_false_eq_true, ite_not, z_b0, z_b1, z_b01, ho, hl, hn, hz, h0, hm, and_self, zfa]
theorem gi105_18 (ho : KD o = 8) (hl : KD l = 20) (hn : LN l = 512) (hz : znl R = l) (h0 : 0 ≤ R 0 0) (hm : zrow m l 0 = m) : ev 105 18 [(2, o)] [] R m = ev 105 27 [(2, o)] [] (zfa R o 2 512 l) m := by
  simp only [s105_18, s105_19, s105_22, s105_24, zps_0, zps_1, zps_2, zps_3, zps_9, Option.bind_some, Option.bind_none, Int.reduceEq, Int.reduceNe, Int.reduceLT, Int.reduceLE, Int.reduceNeg, Int.reduceAdd, Int.reduceSub, Int.reduceMul, reduceIte, if_true, if_false, true_and, and_true, false_and, and_false, or_true, true_or, or_false, false_or, not_true_eq_false, not_false_eq_true, ite_not, z_b0, z_b1, z_b01, ho, hl, hn, hz, h0, hm, and_self, zfa]
theorem gi105_35 : ev 105 35 [(2, o)] [] R m = some ((9, 0), R, m) := by
  simp only [s105_35, zps_0, zps_1, zps_2, zps_3, zps_9, Option.bind_some, Option.bind_none, Int.reduceEq, Int.reduceNe, Int.reduceLT, Int.reduceLE, Int.reduceNeg, Int.reduceAdd, Int.reduceSub, Int.reduceMul, reduceIte, if_true, if_false, true_and, and_true, false_and, and_false, or_true, true_or, or_false, false_or, not_true_eq_false, not_false_eq_true, ite_not, z_b0, z_b1, z_b01]
theorem gi131_0 (ho : KD o = 10) : ev 131 0 [(2, o), (2, u)] [] R m = ev 131 4 [(2, o), (2, u)] [] R m := by
  have h0 : KD o ≠ 0 := by rw [ho]; decide
  rw [s131_0, s131_1]
  exact h0
theorem gi131_4 (ho : KD o = 10) : ev 131 4 [(2, o), (2, u)] [] R m = ev 131 9 [(2, o), (2, u)] [] R (zup m o 4 (-1)) := by
  simp only [s131_4, s131_5, s131_6, zps_0, zps_1, zps_2, zps_3, zps_9, Option.bind_some, Option.bind_none, Int.reduceEq, Int.reduceNe, Int.reduceLT, Int.reduceLE, Int.reduceNeg, Int.reduceAdd, Int.reduceSub, Int.reduceMul, reduceIte, if_true, if_false, true_and, and_true, false_and, and_false, or_true, true_or, or_false, false_or, not_true_eq_false, not_false_eq_true, ite_not, z_b0, z_b1, z_b01, ho]
theorem gi131_9 (ho : KD o = 10) (hl : KD l = 20) (hn : LN l = 8) (hz : znl R = l) (h0 : 0 ≤ R 0 0) (hm : zrow m l 0 = m) : ev 131 9 [(2, o), (2, u)] [] R m = ev 131 17 [(2, o), (2, u)] [] (zfa R o 6 8 l) m := by
  simp only [s131_9, s131_10, s131_12, s131_14, zps_0, zps_1, zps_2, zps_3, zps_9, Option.bind_some, Option.bind_none, Int.reduceEq, Int.reduceNe, Int.reduceLT, Int.reduceLE, Int.reduceNeg, Int.reduceAdd, Int.reduceSub, Int.reduceMul, reduceIte, if_true, if_false, true_and, and_true, false_and, and_false, or_true, true_or, or_false, false_or, not_true_eq_false, not_false_eq_true, ite_not, z_b0, z_b1, z_b01, ho, hl, hn, hz, h0, hm, and_self, zfa]
theorem gi131_17 (ho : KD o = 10) (hl : KD l = 20) (hn : LN l = 8) (hz : znl R = l) (h0 : 0 ≤ R 0 0) (hm : zrow m l 0 = m) : ev 131 17 [(2, o), (2, u)] [] R m = ev 131 25 [(2, o), (2, u)] [] (zfa R o 7 8 l) m := by
  simp only [s131_17, s131_18, s131_20, s131_22, zps_0, zps_1, zps_2, zps_3, zps_9, Option.bind_some, Option.bind_none, Int.reduceEq, Int.reduceNe, Int.reduceLT, Int.reduceLE, Int.reduceNeg, Int.reduceAdd, Int.reduceSub, Int.reduceMul, reduceIte, if_true, if_false, true_and, and_true, false_and, and_false, or_true, true_or, or_false, false_or, not_true_eq_false, not_false_eq_true, ite_not, z_b0, z_b1, z_b01, ho, hl, hn, hz, h0, hm, and_self, zfa]
theorem gi131_25 (ho : KD o = 10) (hl : KD l = 20) (hn : LN l = 8) (hz : znl R = l) (h0 : 0 ≤ R 0 0) (hm : zrow m l 0 = m) : ev 131 25 [(2, o), (2, u)] [] R m = ev 131 33 [(2, o), (2, u)] [] (zfa R o 8 8 l) m := by
  simp only [s131_25, s131_26, s131_28, s131_30, zps_0, zps_1, zps_2, zps_3, zps_9, Option.bind_some, Option.bind_none, Int.reduceEq, Int.reduceNe, Int.reduceLT, Int.reduceLE, Int.reduceNeg, Int.reduceAdd, Int.reduceSub, Int.reduceMul, reduceIte, if_true, if_false, true_and, and_true, false_and, and_false, or_true, true_or, or_false, false_or, not_true_eq_false, not_false_eq_true, ite_not, z_b0, z_b1, z_b01, ho, hl, hn, hz, h0, hm, and_self, zfa]
theorem gi131_33 (ho : KD o = 10) (hl : KD l = 20) (hn : LN l = 8) (hz : znl R = l) (h0 : 0 ≤ R 0 0) (hm : zrow m l 0 = m) : ev 131 33 [(2, o), (2, u)] [] R m = ev 131 41 [(2, o), (2, u)] [] (zfa R o 9 8 l) m := by
  simp only [s131_33, s131_34, s131_36, s131_38, zps_0, zps_1, zps_2, zps_3, zps_9, Option.bind_some, Option.bind_none, Int.reduceEq, Int.reduceNe, Int.reduceLT, Int.reduceLE, Int.reduceNeg, Int.reduceAdd, Int.reduceSub, Int.reduceMul, reduceIte, if_true, if_false, true_and, and_true, false_and, and_false, or_true, true_or, or_false, false_or, not_true_eq_false, not_false_eq_true, ite_not, z_b0, z_b1, z_b01, ho, hl, hn, hz, h0, hm, and_self, zfa]
theorem gi131_41 (ho : KD o = 10) (hl : KD l = 20) (hn : LN l = 8) (hz : znl R = l) (h0 : 0 ≤ R 0 0) (hm : zrow m l 0 = m) : ev 131 41 [(2, o), (2, u)] [] R m = ev 131 49 [(2, o), (2, u)] [] (zfa R o 10 8 l) m := by
  simp only [s131_41, s131_42, s131_44, s131_46, zps_0, zps_1, zps_2, zps_3, zps_9, Option.bind_some, Option.bind_none, Int.reduceEq, Int.reduceNe, Int.reduceLT, Int.reduceLE, Int.reduceNeg, Int.reduceAdd, Int.reduceSub, Int.reduceMul, reduceIte, if_true, if_false, true_and, and_true, false_and, and_false, or_true, true_or, or_false, false_or, not_true_eq_false, not_false_eq_true, ite_not, z_b0, z_b1, z_b01, ho, hl, hn, hz, h0, hm, and_self, zfa]
theorem gi131_49 (ho : KD o = 10) (hl : KD l = 20) (hn : LN l = 8) (hz : znl R = l) (h0 : 0 ≤ R 0 0) (hm : zrow m l 0 = m) : ev 131 49 [(2, o), (2, u)] [] R m = ev 131 57 [(2, o), (2, u)] [] (zfa R o 11 8 l) m := by
  simp only [s131_49, s131_50, s131_52, s131_54, zps_0, zps_1, zps_2, zps_3, zps_9, Option.bind_some, Option.bind_none, Int.reduceEq, Int.reduceNe, Int.reduceLT, Int.reduceLE, Int.reduceNeg, Int.reduceAdd, Int.reduceSub, Int.reduceMul, reduceIte, if_true, if_false, true_and, and_true, false_and, and_false, or_true, true_or, or_false, false_or, not_true_eq_false, not_false_eq_true, ite_not, z_b0, z_b1, z_b01, ho, hl, hn, hz, h0, hm, and_self, zfa]
theorem gi131_57 (ho : KD o = 10) (hl : KD l = 20) (hn : LN l = 512) (hz : znl R = l) (h0 : 0 ≤ R 0 0) (hm : zrow m l 0 = m) : ev 131 57 [(2, o), (2, u)] [] R m = ev 131 66 [(2, o), (2, u)] [] (zfa R o 12 512 l) m := by
  simp only [s131_57, s131_58, s131_61, s131_63, zps_0, zps_1, zps_2, zps_3, zps_9, Option.bind_some, Option.bind_none, Int.reduceEq, Int.reduceNe, Int.reduceLT, Int.reduceLE, Int.reduceNeg, Int.reduceAdd, Int.reduceSub, Int.reduceMul, reduceIte, if_true, if_false, true_and, and_true, false_and, and_false, or_true, true_or, or_false, false_or, not_true_eq_false, not_false_eq_true, ite_not, z_b0, z_b1, z_b01, ho, hl, hn, hz, h0, hm, and_self, zfa]
theorem gi131_66 (ho : KD o = 10) : ev 131 66 [(2, o), (2, u)] [] R m = ev 131 71 [(2, o), (2, u)] [] (zup R o 0 u) m := by
  simp only [s131_66, s131_67, s131_68, zps_0, zps_1, zps_2, zps_3, zps_9, Option.bind_some, Option.bind_none, Int.reduceEq, Int.reduceNe, Int.reduceLT, Int.reduceLE, Int.reduceNeg, Int.reduceAdd, Int.reduceSub, Int.reduceMul, reduceIte, if_true, if_false, true_and, and_true, false_and, and_false, or_true, true_or, or_false, false_or, not_true_eq_false, not_false_eq_true, ite_not, z_b0, z_b1, z_b01, ho]
theorem gi131_71 : ev 131 71 [(2, o), (2, u)] [] R m = some ((9, 0), R, m) := by
  simp only [s131_71, zps_0, zps_1, zps_2, zps_3, zps_9, Option.bind_some, Option.bind_none, Int.reduceEq, Int.reduceNe, Int.reduceLT, Int.reduceLE, Int.reduceNeg, Int.reduceAdd, Int.reduceSub, Int.reduceMul, reduceIte, if_true, if_false, true_and, and_true, false_and, and_false, or_true, true_or, or_false, false_or, not_true_eq_false, not_false_eq_true, ite_not, z_b0, z_b1, z_b01]
theorem gi146_0 (ho : KD o = 11) : ev 146 0 [(2, o), (2, u)] [] R m = ev 146 4 [(2, o), (2, u)] [] R m := by
  have h0 : KD o ≠ 0 := by rw [ho]; decide
  rw [s146_0, s146_1]
  exact h0
theorem gi146_4 (ho : KD o = 11) (hl : KD l = 20) (hn : LN l = 24) (hz : znl R = l) (h0 : 0 ≤ R 0 0) (hm : zrow m l 0 = m) : ev 146 4 [(2, o), (2, u)] [] R m = ev 146 12 [(2, o), (2, u)] [] (zfa R o 2 24 l) m := by
  simp only [s146_4, s146_5, s146_7, s146_9, zps_0, zps_1, zps_2, zps_3, zps_9, Option.bind_some, Option.bind_none, Int.reduceEq, Int.reduceNe, Int.reduceLT, Int.reduceLE, Int.reduceNeg, Int.reduceAdd, Int.reduceSub, Int.reduceMul, reduceIte, if_true, if_false, true_and, and_true, false_and, and_false, or_true, true_or, or_false, false_or, not_true_eq_false, not_false_eq_true, ite_not, z_b0, z_b1, z_b01, ho, hl, hn, hz, h0, hm, and_self, zfa]
theorem gi146_12 (ho : KD o = 11) (hl : KD l = 20) (hn : LN l = 4) (hz : znl R = l) (h0 : 0 ≤ R 0 0) (hm : zrow m l 0 = m) : ev 146 12 [(2, o), (2, u)] [] R m = ev 146 19 [(2, o), (2, u)] [] (zfa R o 3 4 l) m := by
  simp only [s146_12, s146_13, s146_14, s146_16, zps_0, zps_1, zps_2, zps_3, zps_9, Option.bind_some, Option.bind_none, Int.reduceEq, Int.reduceNe, Int.reduceLT, Int.reduceLE, Int.reduceNeg, Int.reduceAdd, Int.reduceSub, Int.reduceMul, reduceIte, if_true, if_false, true_and, and_true, false_and, and_false, or_true, true_or, or_false, false_or, not_true_eq_false, not_false_eq_true, ite_not, z_b0, z_b1, z_b01, ho, hl, hn, hz, h0, hm, and_self, zfa]
theorem gi146_19 (ho : KD o = 11) (hl : KD l = 20) (hn : LN l = 256) (hz : znl R = l) (h0 : 0 ≤ R 0 0) (hm : zrow m l 0 = m) : ev 146 19 [(2, o), (2, u)] [] R m = ev 146 28 [(2, o), (2, u)] [] (zfa R o 4 256 l) m := by
  simp only [s146_19, s146_20, s146_23, s146_25, zps_0, zps_1, zps_2, zps_3, zps_9, Option.bind_some, Option.bind_none, Int.reduceEq, Int.reduceNe, Int.reduceLT, Int.reduceLE, Int.reduceNeg, Int.reduceAdd, Int.reduceSub, Int.reduceMul, reduceIte, if_true, if_false, true_and, and_true, false_and, and_false, or_true, true_or, or_false, false_or, not_true_eq_false, not_false_eq_true, ite_not, z_b0, z_b1, z_b01, ho, hl, hn, hz, h0, hm, and_self, zfa]
theorem gi146_28 (ho : KD o = 11) (hl : KD l = 20) (hn : LN l = 256) (hz : znl R = l) (h0 : 0 ≤ R 0 0) (hm : zrow m l 0 = m) : ev 146 28 [(2, o), (2, u)] [] R m = ev 146 37 [(2, o), (2, u)] [] (zfa R o 5 256 l) m := by
  simp only [s146_28, s146_29, s146_32, s146_34, zps_0, zps_1, zps_2, zps_3, zps_9, Option.bind_some, Option.bind_none, Int.reduceEq, Int.reduceNe, Int.reduceLT, Int.reduceLE, Int.reduceNeg, Int.reduceAdd, Int.reduceSub, Int.reduceMul, reduceIte, if_true, if_false, true_and, and_true, false_and, and_false, or_true, true_or, or_false, false_or, not_true_eq_false, not_false_eq_true, ite_not, z_b0, z_b1, z_b01, ho, hl, hn, hz, h0, hm, and_self, zfa]
theorem gi146_37 (ho : KD o = 11) (hl : KD l = 20) (hn : LN l = 256) (hz : znl R = l) (h0 : 0 ≤ R 0 0) (hm : zrow m l 0 = m) : ev 146 37 [(2, o), (2, u)] [] R m = ev 146 46 [(2, o), (2, u)] [] (zfa R o 6 256 l) m := by
  simp only [s146_37, s146_38, s146_41, s146_43, zps_0, zps_1, zps_2, zps_3, zps_9, Option.bind_some, Option.bind_none, Int.reduceEq, Int.reduceNe, Int.reduceLT, Int.reduceLE, Int.reduceNeg, Int.reduceAdd, Int.reduceSub, Int.reduceMul, reduceIte, if_true, if_false, true_and, and_true, false_and, and_false, or_true, true_or, or_false, false_or, not_true_eq_false, not_false_eq_true, ite_not, z_b0, z_b1, z_b01, ho, hl, hn, hz, h0, hm, and_self, zfa]
theorem gi146_46 (ho : KD o = 11) : ev 146 46 [(2, o), (2, u)] [] R m = ev 146 51 [(2, o), (2, u)] [] R (zup m o 7 (-1)) := by
  simp only [s146_46, s146_47, s146_48, zps_0, zps_1, zps_2, zps_3, zps_9, Option.bind_some, Option.bind_none, Int.reduceEq, Int.reduceNe, Int.reduceLT, Int.reduceLE, Int.reduceNeg, Int.reduceAdd, Int.reduceSub, Int.reduceMul, reduceIte, if_true, if_false, true_and, and_true, false_and, and_false, or_true, true_or, or_false, false_or, not_true_eq_false, not_false_eq_true, ite_not, z_b0, z_b1, z_b01, ho]
theorem gi146_51 (ho : KD o = 11) (hl : KD l = 20) (hn : LN l = 88) (hz : znl R = l) (h0 : 0 ≤ R 0 0) (hm : zrow m l 0 = m) : ev 146 51 [(2, o), (2, u)] [] R m = ev 146 59 [(2, o), (2, u)] [] (zfa R o 8 88 l) m := by
  simp only [s146_51, s146_52, s146_54, s146_56, zps_0, zps_1, zps_2, zps_3, zps_9, Option.bind_some, Option.bind_none, Int.reduceEq, Int.reduceNe, Int.reduceLT, Int.reduceLE, Int.reduceNeg, Int.reduceAdd, Int.reduceSub, Int.reduceMul, reduceIte, if_true, if_false, true_and, and_true, false_and, and_false, or_true, true_or, or_false, false_or, not_true_eq_false, not_false_eq_true, ite_not, z_b0, z_b1, z_b01, ho, hl, hn, hz, h0, hm, and_self, zfa]
theorem gi146_59 (ho : KD o = 11) (hl : KD l = 20) (hn : LN l = 88) (hz : znl R = l) (h0 : 0 ≤ R 0 0) (hm : zrow m l 0 = m) : ev 146 59 [(2, o), (2, u)] [] R m = ev 146 67 [(2, o), (2, u)] [] (zfa R o 9 88 l) m := by
  simp only [s146_59, s146_60, s146_62, s146_64, zps_0, zps_1, zps_2, zps_3, zps_9, Option.bind_some, Option.bind_none, Int.reduceEq, Int.reduceNe, Int.reduceLT, Int.reduceLE, Int.reduceNeg, Int.reduceAdd, Int.reduceSub, Int.reduceMul, reduceIte, if_true, if_false, true_and, and_true, false_and, and_false, or_true, true_or, or_false, false_or, not_true_eq_false, not_false_eq_true, ite_not, z_b0, z_b1, z_b01, ho, hl, hn, hz, h0, hm, and_self, zfa]
theorem gi146_67 (ho : KD o = 11) (hl : KD l = 20) (hn : LN l = 88) (hz : znl R = l) (h0 : 0 ≤ R 0 0) (hm : zrow m l 0 = m) : ev 146 67 [(2, o), (2, u)] [] R m = ev 146 75 [(2, o), (2, u)] [] (zfa R o 12 88 l) m := by
  simp only [s146_67, s146_68, s146_70, s146_72, zps_0, zps_1, zps_2, zps_3, zps_9, Option.bind_some, Option.bind_none, Int.reduceEq, Int.reduceNe, Int.reduceLT, Int.reduceLE, Int.reduceNeg, Int.reduceAdd, Int.reduceSub, Int.reduceMul, reduceIte, if_true, if_false, true_and, and_true, false_and, and_false, or_true, true_or, or_false, false_or, not_true_eq_false, not_false_eq_true, ite_not, z_b0, z_b1, z_b01, ho, hl, hn, hz, h0, hm, and_self, zfa]
theorem gi146_75 (ho : KD o = 11) : ev 146 75 [(2, o), (2, u)] [] R m = ev 146 80 [(2, o), (2, u)] [] (zup R o 0 u) m := by
  simp only [s146_75, s146_76, s146_77, zps_0, zps_1, zps_2, zps_3, zps_9, Option.bind_some, Option.bind_none, Int.reduceEq, Int.reduceNe, Int.reduceLT, Int.reduceLE, Int.reduceNeg, Int.reduceAdd, Int.reduceSub, Int.reduceMul, reduceIte, if_true, if_false, true_and, and_true, false_and, and_false, or_true, true_or, or_false, false_or, not_true_eq_false, not_false_eq_true, ite_not, z_b0, z_b1, z_b01, ho]
theorem gi146_80 : ev 146 80 [(2, o), (2, u)] [] R m = some ((9, 0), R, m) := by
  simp only [s146_80, zps_0, zps_1, zps_2, zps_3, zps_9, Option.bind_some, Option.bind_none, Int.reduceEq, Int.reduceNe, Int.reduceLT, Int.reduceLE, Int.reduceNeg, Int.reduceAdd, Int.reduceSub, Int.reduceMul, reduceIte, if_true, if_false, true_and, and_true, false_and, and_false, or_true, true_or, or_false, false_or, not_true_eq_false, not_false_eq_true, ite_not, z_b0, z_b1, z_b01]
end SEG
