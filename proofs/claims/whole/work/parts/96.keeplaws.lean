/-! the class keeps laws: rows made when they are first needed -/
def zny (R : zM) : Int := zcnt (fun a => decide (R 62 a ≠ 0)) 60
/-- what holds of the references -/
def RT (R : zM) (S0 : Int) : Prop := RK R ∧ R 0 0 = 152 + 2 * zny R ∧ R 0 1 = S0 + 86 * zny R ∧ (∀ a, 0 ≤ a → a < 60 → R 62 a = 0 ∨ (153 ≤ R 62 a ∧ R 62 a + 1 ≤ R 0 0 ∧ (R 62 a - 153) % 2 = 0 ∧ R (R 62 a) 1 = R 62 a + 1)) ∧ ∀ a b, 0 ≤ a → a < 60 → 0 ≤ b → b < 60 → a ≠ b → R 62 a ≠ 0 → R 62 a ≠ R 62 b
theorem KD_la {l : Int} (h : 153 ≤ l) (h2 : (l - 153) % 2 = 0) : KD l = 4 ∧ KD (l + 1) = 20 ∧ LN (l + 1) = 84 := by
  unfold KD LN
  refine ⟨?_, ?_, ?_⟩
  · rw [if_neg (by omega), if_neg (by omega), if_pos h2]
  · rw [if_neg (by omega), if_neg (by omega), if_neg (by omega)]
  · rw [if_neg (by omega)]
theorem LK_la {R : zM} {l : Int} (h : 153 ≤ l) (h2 : (l - 153) % 2 = 0) (h3 : R l 1 = l + 1) : LK R l := by
  obtain ⟨a, b, c⟩ := KD_la h h2
  exact ⟨a, h3, b, c⟩
theorem RK_c {R R' : zM} (h : ∀ b, 1 ≤ b → b ≤ 152 → b ≠ 62 → R' b = R b) (hR : RK R) : RK R' := by
  unfold RK TK LK GK AK XK WK PK QK NK CK MK at *
  simp only [Int.reduceAdd] at *
  rw [h 1 (by decide) (by decide) (by decide), h 2 (by decide) (by decide) (by decide), h 3 (by decide) (by decide) (by decide), h 9 (by decide) (by decide) (by decide), h 11 (by decide) (by decide) (by decide), h 30 (by decide) (by decide) (by decide), h 31 (by decide) (by decide) (by decide), h 37 (by decide) (by decide) (by decide), h 39 (by decide) (by decide) (by decide), h 58 (by decide) (by decide) (by decide), h 63 (by decide) (by decide) (by decide), h 68 (by decide) (by decide) (by decide), h 70 (by decide) (by decide) (by decide), h 79 (by decide) (by decide) (by decide), h 87 (by decide) (by decide) (by decide), h 91 (by decide) (by decide) (by decide), h 96 (by decide) (by decide) (by decide), h 100 (by decide) (by decide) (by decide)]
  exact hR
section KEEPL
variable {R m : zM} {S0 : Int}
theorem RT_n (h : RT R S0) : 0 ≤ zny R ∧ zny R ≤ 60 := zcnt_bd _ _
/-- the rows made for an act's laws -/
def RAl (R : zM) (a : Int) : zM := zup (zup (znR (znR R 2) 84) (R 0 0 + 1) 1 (R 0 0 + 2)) 62 a (R 0 0 + 1)
theorem RAl_v (h : RT R S0) {a : Int} (ha : 0 ≤ a ∧ a < 60) (h0 : R 62 a = 0) : RT (RAl R a) S0 ∧ RAl R a 62 a = R 0 0 + 1 ∧ (∀ b, b ≠ 0 → b ≠ 62 → b ≠ R 0 0 + 1 → b ≠ R 0 0 + 2 → RAl R a b = R b) ∧ (∀ k, k ≠ 0 → k ≠ 1 → RAl R a 0 k = R 0 k) ∧ ∀ b, b ≠ a → RAl R a 62 b = R 62 b := by
  obtain ⟨hK, hc, hs, hl, hd⟩ := h
  have hn : 0 ≤ zny R ∧ zny R ≤ 60 := zcnt_bd _ _
  obtain ⟨l, hl'⟩ : ∃ l, R 0 0 + 1 = l := ⟨_, rfl⟩
  have lb : 153 ≤ l := by omega
  have v0 : RAl R a 0 0 = l + 1 := by unfold RAl znR znl zup zrow; simp; omega
  have v1 : RAl R a 0 1 = R 0 1 + 86 := by unfold RAl znR znl zup zrow; simp (disch := omega); omega
  have v62 : ∀ k, RAl R a 62 k = if k = a then l else R 62 k := by
    intro k
    unfold RAl znR znl zup zrow
    by_cases q : k = a
    · subst q; simp; omega
    · have e1 : ¬ (62 = R 0 0 + 1) := by omega
      have e2 : ¬ (62 = R 0 0 + 1 + 1) := by omega
      simp [q, e1, e2]
  have vl : RAl R a l 1 = l + 1 := by
    unfold RAl znR znl zup zrow
    rw [hl']
    have e1 : ¬ l = 62 := by omega
    simp [e1]
    omega
  have vo : ∀ b, b ≠ 0 → b ≠ 62 → b ≠ l → b ≠ l + 1 → RAl R a b = R b := by
    intro b b0 b62 bl bl1
    funext k
    unfold RAl znR znl zup zrow
    rw [hl']
    simp [b0, b62, bl, bl1]
  have v0k : ∀ k, k ≠ 0 → k ≠ 1 → RAl R a 0 k = R 0 k := by
    intro k k0 k1
    unfold RAl znR znl zup zrow
    rw [hl']
    have e1 : ¬ (0 = l) := by omega
    have e2 : ¬ (0 = l + 1) := by omega
    simp [k0, k1, e1, e2]
  have cn : zny (RAl R a) = zny R + 1 := by
    unfold zny
    rw [zcnt_sum, zcnt_sum]
    have : zsum (fun k => if decide (RAl R a 62 k ≠ 0) = true then 1 else 0) 60 = zsum (fun k => (if decide (R 62 k ≠ 0) = true then 1 else 0) + if k = a then 1 else 0) 60 := by
      apply zsum_congr
      intro k k0 k1
      rw [v62 k]
      by_cases q : k = a
      · subst q
        rw [if_pos rfl, if_pos rfl, h0]
        simp
        omega
      · rw [if_neg q, if_neg q, Int.add_zero]
    rw [this, zsum_plus, zsum_one, if_pos (by omega)]
  refine ⟨⟨RK_c (fun b b0 b1 b2 => vo b (by omega) b2 (by omega) (by omega)) hK, by rw [v0, cn]; omega, by rw [v1, cn, hs]; omega, ?_, ?_⟩, by rw [v62, if_pos rfl, hl'], fun b b0 b1 b2 b3 => vo b b0 b1 (by omega) (by omega), v0k, fun b hb => by rw [v62, if_neg hb]⟩
  · intro b b0 b1
    rw [v62 b]
    by_cases q : b = a
    · rw [if_pos q]
      right
      rw [vl, v0]
      refine ⟨lb, Int.le_refl _, by omega, rfl⟩
    · rw [if_neg q]
      rcases hl b b0 b1 with z | ⟨z1, z2, z3, z4⟩
      · left; exact z
      · right
        refine ⟨z1, by rw [v0]; omega, z3, ?_⟩
        rw [vo _ (by omega) (by omega) (by omega) (by omega)]
        exact z4
  · intro x y x0 x1 y0 y1 xy
    rw [v62 x, v62 y]
    by_cases qx : x = a
    · rw [if_pos qx, if_neg (by omega)]
      intro _
      rcases hl y y0 y1 with z | ⟨z1, z2, z3, z4⟩ <;> omega
    · rw [if_neg qx]
      by_cases qy : y = a
      · rw [if_pos qy]
        intro _
        rcases hl x x0 x1 with z | ⟨z1, z2, z3, z4⟩ <;> omega
      · rw [if_neg qy]
        exact hd x y x0 x1 y0 y1 xy
theorem tz_linit {l : Int} (h0 : KD l = 4) (h1 : KD (znl R) = 20 ∧ LN (znl R) = 84 ∧ 0 ≤ R 0 0) : ev 59 0 [(2, l)] [] R m = some ((9, 0), zup (znR R 84) l 1 (znl R), zrow m (znl R) 0) := by
  have c : KD l ≠ 0 := by rw [h0]; decide
  rw [s59_0, s59_1 l l R m c]
  simp only [s59_0, s59_1, s59_4, s59_5, s59_7, s59_9, s59_12, zps_0, zps_1, zps_2, zps_3, zps_9, Option.bind_some, Option.bind_none, Int.reduceEq, Int.reduceNe, Int.reduceLT, Int.reduceLE, Int.reduceNeg, Int.reduceAdd, Int.reduceSub, Int.reduceMul, reduceIte, if_true, if_false, true_and, and_true, false_and, and_false, or_true, true_or, or_false, false_or, not_true_eq_false, not_false_eq_true, ite_not, z_b0, z_b1, z_b01, h0, h1, and_self]
/-- the laws of an act, kept -/
theorem tz_keepLaws (hT : RT R S0) {a n y : Int} (ha : m 58 0 = a) (ha2 : 0 ≤ a ∧ a < 60) (hn : m 68 0 = n) (hn2 : 0 ≤ n ∧ n ≤ 12) : ∃ (R' m' : zM) (la : Int), ev 6 0 [(2, 58), (0, y), (2, 68)] [] R m = some ((9, 0), R', m') ∧ RT R' S0 ∧ R' 62 a = la ∧ (∀ b, b ≠ a → R' 62 b = R 62 b) ∧ (∀ k, k ≠ 0 → k ≠ 1 → R' 0 k = R 0 k) ∧ (∀ b, b ≠ 0 → b ≠ 62 → b ≤ R 0 0 → R' b = R b) ∧ (153 ≤ la ∧ LK R' la) ∧ (∀ b, 0 ≤ b → b < 60 → b ≠ a → R 62 b ≠ 0 → R 62 b ≠ la ∧ R 62 b + 1 ≠ la ∧ R 62 b ≠ la + 1) ∧ m' la 0 = n ∧ (∀ j i, 0 ≤ j → j < n → 0 ≤ i → i < 7 → m' (la + 1) (7 * j + i) = m 69 (7 * j + i)) ∧ (∀ b, b ≠ la → b ≠ la + 1 → m' b = zkeep m 4 y 0 0 b) := by
  have hAK : AK R := hT.1.2.2.2.2.1
  have F := tz_afull (m := m) hAK
  rw [ha] at F
  have f60 : ¬ 60 ≤ a := by omega
  have f0 : 0 ≤ a := ha2.1
  -- rows for the laws, made or there
  have st : ∃ (R' : zM) (m1 : zM) (la : Int), ev 6 0 [(2, 58), (0, y), (2, 68)] [] R m = ev 6 43 [(2, 58), (0, y), (2, 68)] [] R' m1 ∧ RT R' S0 ∧ R' 62 a = la ∧ (∀ b, b ≠ a → R' 62 b = R 62 b) ∧ (∀ k, k ≠ 0 → k ≠ 1 → R' 0 k = R 0 k) ∧ (∀ b, b ≠ 0 → b ≠ 62 → b ≤ R 0 0 → R' b = R b) ∧ (153 ≤ la ∧ (la - 153) % 2 = 0 ∧ R' la 1 = la + 1) ∧ ∀ b, b ≠ la → b ≠ la + 1 → m1 b = m b := by
    rcases hT.2.2.2.1 a ha2.1 ha2.2 with h0 | ⟨l1, l2, l3, l4⟩
    · obtain ⟨t1, t2, t3, t4, t5⟩ := RAl_v hT ha2 h0
      have hn : 0 ≤ zny R ∧ zny R ≤ 60 := zcnt_bd _ _
      have r00 := hT.2.1
      obtain ⟨kd1, kd2, kd3⟩ := KD_la (l := R 0 0 + 1) (by omega) (by omega)
      have e1 : znl R = R 0 0 + 1 := rfl
      have e2 : znl (znR R 2) = R 0 0 + 1 + 1 := by unfold znR znl zup zrow; simp
      have e3 : 0 ≤ znR R 2 0 0 := by unfold znR znl zup zrow; simp; omega
      have LI := tz_linit (R := znR R 2) (m := zrow m (R 0 0 + 1) 0) (l := R 0 0 + 1) kd1 ⟨by rw [e2]; exact kd2, by rw [e2]; exact kd3, e3⟩
      rw [e2] at LI
      have r0 : 0 ≤ R 0 0 := by omega
      have n58 : zrow m (R 0 0 + 1) 0 58 0 = a := by unfold zrow; rw [if_neg (by omega), ha]
      have ge : zup (zup (znR (znR R 2) 84) (R 0 0 + 1) 1 (R 0 0 + 1 + 1)) 62 a (R 0 0 + 1) = RAl R a := by unfold RAl; rw [show R 0 0 + 1 + 1 = R 0 0 + 2 by omega]
      refine ⟨RAl R a, zrow (zrow m (R 0 0 + 1) 0) (R 0 0 + 1 + 1) 0, R 0 0 + 1, ?_, t1, t2, t5, t4, fun b b0 b1 b2 => t3 b b0 b1 (by omega) (by omega), ⟨by omega, by omega, ?_⟩, fun b b0 b1 => ?_⟩
      · simp only [s6_0, s6_1, s6_4, s6_7, s6_8, s6_11, s6_14, s6_15, s6_16, s6_19, s6_20, s6_23, s6_24, s6_27, s6_28, s6_31, s6_32, s6_35, s6_38, s6_39, s6_42, s6_44, s6_47, s6_48, s6_51, s6_52, s6_53, s6_54, s6_57, s6_58, s6_59, s6_60, s6_61, s6_62, s6_65, zps_0, zps_1, zps_2, zps_3, zps_9, Option.bind_some, Option.bind_none, Int.reduceEq, Int.reduceNe, Int.reduceLT, Int.reduceLE, Int.reduceNeg, Int.reduceAdd, Int.reduceSub, Int.reduceMul, reduceIte, if_true, if_false, true_and, and_true, false_and, and_false, or_true, true_or, or_false, false_or, not_true_eq_false, not_false_eq_true, ite_not, z_b0, z_b1, z_b01, rAK0 hAK, rAK1 hAK, rAK2 hAK, rAK3 hAK, kAK0, kAK1, kAK2, kAK3, kAK4, kAK5, kAK6, kAK7, kAK8, F, ha, f60, f0, h0, e1, kd1, r0, LI, n58, ha2, and_self, if_true, if_false, ge]
      · have := t1.2.2.2.1 a ha2.1 ha2.2
        rw [t2] at this
        rcases this with q | q
        · omega
        · exact q.2.2.2
      · funext k
        unfold zrow
        rw [if_neg b1, if_neg b0]
    · have h0 : ¬ R 62 a = 0 := by omega
      refine ⟨R, m, R 62 a, ?_, hT, rfl, fun _ _ => rfl, fun _ _ _ => rfl, fun _ _ _ _ => rfl, ⟨l1, l3, l4⟩, fun _ _ _ => rfl⟩
      simp only [s6_0, s6_1, s6_4, s6_7, s6_8, s6_11, s6_14, s6_15, s6_16, s6_19, s6_20, s6_23, s6_24, s6_27, s6_28, s6_31, s6_32, s6_35, s6_38, s6_39, s6_42, s6_44, s6_47, s6_48, s6_51, s6_52, s6_53, s6_54, s6_57, s6_58, s6_59, s6_60, s6_61, s6_62, s6_65, zps_0, zps_1, zps_2, zps_3, zps_9, Option.bind_some, Option.bind_none, Int.reduceEq, Int.reduceNe, Int.reduceLT, Int.reduceLE, Int.reduceNeg, Int.reduceAdd, Int.reduceSub, Int.reduceMul, reduceIte, if_true, if_false, true_and, and_true, false_and, and_false, or_true, true_or, or_false, false_or, not_true_eq_false, not_false_eq_true, ite_not, z_b0, z_b1, z_b01, rAK0 hAK, rAK1 hAK, rAK2 hAK, rAK3 hAK, kAK0, kAK1, kAK2, kAK3, kAK4, kAK5, kAK6, kAK7, kAK8, F, ha, f60, f0, h0, ha2, and_self, if_true, if_false]
  obtain ⟨R', m1, la, L0, hT', h62, hb62, h0k, hRb, ⟨l1, l2, l3⟩, hm1⟩ := st
  have hLK : LK R' la := LK_la l1 l2 l3
  have hLK68 : LK R' 68 := hT'.1.2.2.1
  have hAK' : AK R' := hT'.1.2.2.2.2.1
  obtain ⟨f, S, hf⟩ := tz_ltake (R := R') (m := m1) (o := la) (q := 68) hLK hLK68 (by omega) (by rw [hm1 68 (by omega) (by omega), hn]; exact hn2) (-1)
  rw [hm1 68 (by omega) (by omega), hn, if_neg (by omega), Int.sub_zero] at S hf
  obtain ⟨m2, hm2⟩ : ∃ m2, zpr (zpr m1 la (zrw (m1 la) 0 n)) (la + 1) f = m2 := ⟨_, rfl⟩
  rw [hm2] at S
  have h2 : ∀ b, b ≠ la → b ≠ la + 1 → m2 b = m b := fun b b0 b1 => by rw [← hm2, zpr_ne b1, zpr_ne b0, hm1 b b0 b1]
  have K := tz_keep (R := R') (m := m2) hAK' (by rw [h2 58 (by omega) (by omega), ha]; exact ha2) 4 y 0 0
  have r58 : m1 58 0 = a := by rw [hm1 58 (by omega) (by omega), ha]
  have kla := hLK.1
  have zk : ∀ b, b ≠ 58 → b ≠ 59 → b ≠ 60 → b ≠ 61 → zkeep m2 4 y 0 0 b = m2 b := fun b b0 b1 b2 b3 => by unfold zkeep; rw [zpr_ne b3, zpr_ne b0, zpr_ne b2, zpr_ne b1]
  refine ⟨R', zkeep m2 4 y 0 0, la, ?_, hT', h62, hb62, h0k, hRb, ⟨l1, hLK⟩, ?_, ?_, ?_, ?_⟩
  · rw [L0]
    clear L0 F hAK
    have hAK := hAK'
    simp only [s6_0, s6_1, s6_4, s6_7, s6_8, s6_11, s6_14, s6_15, s6_16, s6_19, s6_20, s6_23, s6_24, s6_27, s6_28, s6_31, s6_32, s6_35, s6_38, s6_39, s6_42, s6_43, s6_44, s6_47, s6_48, s6_51, s6_52, s6_53, s6_54, s6_57, s6_58, s6_59, s6_60, s6_61, s6_62, s6_65, zps_0, zps_1, zps_2, zps_3, zps_9, Option.bind_some, Option.bind_none, Int.reduceEq, Int.reduceNe, Int.reduceLT, Int.reduceLE, Int.reduceNeg, Int.reduceAdd, Int.reduceSub, Int.reduceMul, reduceIte, if_true, if_false, true_and, and_true, false_and, and_false, or_true, true_or, or_false, false_or, not_true_eq_false, not_false_eq_true, ite_not, z_b0, z_b1, z_b01, rAK0 hAK, rAK1 hAK, rAK2 hAK, rAK3 hAK, kAK0, kAK1, kAK2, kAK3, kAK4, kAK5, kAK6, kAK7, kAK8, r58, ha2, h62, kla, S, K, and_self, if_true]
  · intro b b0 b1 ba hb
    have d := hT'.2.2.2.2 b a b0 b1 ha2.1 ha2.2 ba (by rw [hb62 b ba]; exact hb)
    rw [hb62 b ba, h62] at d
    rcases hT.2.2.2.1 b b0 b1 with q | ⟨q1, q2, q3, q4⟩
    · exact absurd q hb
    · refine ⟨d, by omega, by omega⟩
  · rw [zk la (by omega) (by omega) (by omega) (by omega), ← hm2, zpr_ne (by omega), zpr_at, zrw_at]
  · intro j i j0 j1 i0 i1
    rw [zk (la + 1) (by omega) (by omega) (by omega) (by omega), ← hm2, zpr_at, hf j i j0 j1 i0 i1, show (68 : Int) + 1 = 69 by decide, hm1 69 (by omega) (by omega)]
    unfold zlo
    rw [if_neg (by omega)]
  · intro b b0 b1
    unfold zkeep
    rw [h2 58 (by omega) (by omega), h2 59 (by omega) (by omega), h2 60 (by omega) (by omega), h2 61 (by omega) (by omega)]
    by_cases q1 : b = 61
    · subst q1; rw [zpr_at, zpr_at]
    · rw [zpr_ne q1, zpr_ne q1]
      by_cases q2 : b = 58
      · subst q2; rw [zpr_at, zpr_at]
      · rw [zpr_ne q2, zpr_ne q2]
        by_cases q3 : b = 60
        · subst q3; rw [zpr_at, zpr_at]
        · rw [zpr_ne q3, zpr_ne q3]
          by_cases q4 : b = 59
          · subst q4; rw [zpr_at, zpr_at]
          · rw [zpr_ne q4, zpr_ne q4, h2 b b0 b1]
end KEEPL
