/-! a seeker comes; laws are taken -/
section LTAKE
variable {R m : zM} {o q : Int}
theorem tz_ltake (hB : LK R o) (hQ : LK R q) (hd : q ≠ o ∧ q ≠ o + 1 ∧ q + 1 ≠ o) (hV : 0 ≤ m q 0 ∧ m q 0 ≤ 12) (lo : Int) : ∃ f : Int → Int, ev 65 0 [(2, o), (2, q), (0, lo), (9, 0), (9, 0), (9, 0)] [] R m = some ((9, 0), R, zpr (zpr m o (zrw (m o) 0 (m q 0 - if 0 ≤ lo ∧ lo < m q 0 then 1 else 0))) (o + 1) f) ∧ ∀ j i, 0 ≤ j → j < (m q 0 - if 0 ≤ lo ∧ lo < m q 0 then 1 else 0) → 0 ≤ i → i < 7 → f (7 * j + i) = m (q + 1) (7 * zlo lo j + i) := by
  obtain ⟨W, hW⟩ : ∃ W : Int → (Int → Int) → zM, ∀ j f, W j f = zpr (zpr m o (zrw (m o) 0 j)) (o + 1) f := ⟨_, fun _ _ => rfl⟩
  have eo : ∀ j f, W j f o = zrw (m o) 0 j := fun j f => by rw [hW, zpr_ne (by omega), zpr_at]
  have e1 : ∀ j f, W j f (o + 1) = f := fun j f => by rw [hW, zpr_at]
  have eq : ∀ j f a, a ≠ o → a ≠ o + 1 → W j f a = m a := fun j f a h1 h2 => by rw [hW, zpr_ne h2, zpr_ne h1]
  have eqq : ∀ j f, W j f q = m q := fun j f => eq j f q hd.1 hd.2.1
  have eq1 : ∀ j f, W j f (q + 1) = m (q + 1) := fun j f => eq j f (q + 1) hd.2.2 (by omega)
  have AT : ∀ j f k i, 0 ≤ k → k < m q 0 → 0 ≤ i → i < 7 → ev 62 0 [(2, q), (0, k), (0, i)] [] R (W j f) = some ((0, m (q + 1) (7 * k + i)), R, W j f) := by
    intro j f k i k0 k1 i0 i1
    rw [tz_at hQ (by rw [eqq]; exact hV.2) k0 (by rw [eqq]; exact k1) i0 i1, eq1]
  have AD : ∀ j f a b, 0 ≤ j → j < 12 → ev 63 0 [(2, o), (0, a), (0, b), (9, 0), (9, 0)] [] R (W j f) = some ((0, j), R, W (j + 1) (zr7 f j (fun i => if i = 0 then a else if i = 1 then b else 0))) := by
    intro j f a b j0 j1
    have K : ∀ g, zpr (zpr (W j f) o (zrw (zrw (m o) 0 j) 0 (j + 1))) (o + 1) g = W (j + 1) g := by
      intro g
      rw [hW, hW]
      funext c
      by_cases h : c = o + 1
      · subst h; rw [zpr_at, zpr_at]
      · rw [zpr_ne h, zpr_ne h]
        by_cases h2 : c = o
        · subst h2
          rw [zpr_at, zpr_at]
          funext k
          rw [zrw_if, zrw_if, zrw_if]
          split <;> rfl
        · rw [zpr_ne h2, zpr_ne h, zpr_ne h2, zpr_ne h2]
    rw [tz_ladd hB (by rw [eo, zrw_at]; omega), eo, zrw_at, e1, K]
  have PT : ∀ j f k i v, j ≤ 12 → 0 ≤ k → k < j → 0 ≤ i → i < 7 → ev 64 0 [(2, o), (0, k), (0, i), (0, v)] [] R (W j f) = some ((9, 0), R, W j (zrw f (7 * k + i) v)) := by
    intro j f k i v j1 k0 k1 i0 i1
    rw [tz_lput hB (by rw [eo, zrw_at]; exact j1) k0 (by rw [eo, zrw_at]; exact k1) i0 i1, e1, hW, hW, zpr_zpr]
  have L65 : ∀ (k j : Int) (f : Int → Int) (l4 l5 : zV), 0 ≤ k → k < m q 0 → k ≠ lo → 0 ≤ j → j < 12 → ev 65 7 [(2, o), (2, q), (0, lo), (0, k), l4, l5] [] R (W j f) = ev 65 7 [(2, o), (2, q), (0, lo), (0, k + 1), (0, j), (0, 7)] [] R (W (j + 1) (zrw (zrw (zrw (zrw (zrw (zr7 f j (fun i => if i = 0 then m (q + 1) (7 * k + 0) else if i = 1 then m (q + 1) (7 * k + 1) else 0)) (7 * j + 2) (m (q + 1) (7 * k + 2))) (7 * j + 3) (m (q + 1) (7 * k + 3))) (7 * j + 4) (m (q + 1) (7 * k + 4))) (7 * j + 5) (m (q + 1) (7 * k + 5))) (7 * j + 6) (m (q + 1) (7 * k + 6)))) := by
    intro k j f l4 l5 k0 k1 kl j0 j1
    have c1 : ¬ m q 0 ≤ k := by omega
    have A := fun j f i i0 i1 => AT j f k i k0 k1 i0 i1
    have A0 := fun j f => A j f 0 (by omega) (by omega)
    have A1 := fun j f => A j f 1 (by omega) (by omega)
    have A2 := fun j f => A j f 2 (by omega) (by omega)
    have A3 := fun j f => A j f 3 (by omega) (by omega)
    have A4 := fun j f => A j f 4 (by omega) (by omega)
    have A5 := fun j f => A j f 5 (by omega) (by omega)
    have A6 := fun j f => A j f 6 (by omega) (by omega)
    have P := fun f i v i0 i1 => PT (j + 1) f j i v (by omega) j0 (by omega) i0 i1
    have P2 := fun f v => P f 2 v (by omega) (by omega)
    have P3 := fun f v => P f 3 v (by omega) (by omega)
    have P4 := fun f v => P f 4 v (by omega) (by omega)
    have P5 := fun f v => P f 5 v (by omega) (by omega)
    have P6 := fun f v => P f 6 v (by omega) (by omega)
    have D := AD j f (m (q + 1) (7 * k + 0)) (m (q + 1) (7 * k + 1)) j0 j1
    have z1 : zw (k + 1) = k + 1 := zw_i (by omega) (by omega)
    have w3 : zw 3 = 3 := zw_i (by omega) (by omega)
    have w4 : zw 4 = 4 := zw_i (by omega) (by omega)
    have w5 : zw 5 = 5 := zw_i (by omega) (by omega)
    have w6 : zw 6 = 6 := zw_i (by omega) (by omega)
    have w7 : zw 7 = 7 := zw_i (by omega) (by omega)
    clear AT PT AD A P
    obtain ⟨hLK0, hLK1, hLK2, hLK3⟩ := hB
    obtain ⟨hQ0, -⟩ := hQ
    rw [s65_7]
    simp only [s65_0, s65_1, s65_2, s65_5, s65_6, s65_8, s65_9, s65_12, s65_15, s65_16, s65_17, s65_20, s65_23, s65_24, s65_25, s65_26, s65_27, s65_30, s65_31, s65_32, s65_33, s65_36, s65_39, s65_41, s65_42, s65_44, s65_46, s65_48, s65_51, s65_52, s65_54, s65_56, s65_57, s65_58, s65_60, s65_63, s65_66, s65_69, s65_72, s65_75, s65_78, zps_0, zps_1, zps_2, zps_3, zps_9, Option.bind_some, Option.bind_none, Int.reduceEq, Int.reduceNe, Int.reduceLT, Int.reduceLE, Int.reduceNeg, Int.reduceAdd, Int.reduceSub, Int.reduceMul, reduceIte, if_true, if_false, true_and, and_true, false_and, and_false, or_true, true_or, or_false, false_or, not_true_eq_false, not_false_eq_true, ite_not, z_b0, z_b1, z_b01, hLK0, hLK1, hLK2, hLK3, hQ0, eqq, c1, kl, A0, A1, A2, A3, A4, A5, A6, P2, P3, P4, P5, P6, D, z1, w3, w4, w5, w6, w7]
  have L65b : ∀ (j : Int) (f : Int → Int) (l4 l5 : zV), 0 ≤ lo → lo < m q 0 → ev 65 7 [(2, o), (2, q), (0, lo), (0, lo), l4, l5] [] R (W j f) = ev 65 7 [(2, o), (2, q), (0, lo), (0, lo + 1), l4, l5] [] R (W j f) := by
    intro j f l4 l5 k0 k1
    have c1 : ¬ m q 0 ≤ lo := by omega
    have z1 : zw (lo + 1) = lo + 1 := zw_i (by omega) (by omega)
    obtain ⟨hQ0, -⟩ := hQ
    rw [s65_7]
    simp only [s65_0, s65_1, s65_2, s65_5, s65_6, s65_8, s65_9, s65_12, s65_15, s65_16, s65_17, s65_20, s65_23, s65_24, s65_25, s65_26, s65_27, s65_30, s65_31, s65_32, s65_33, s65_36, s65_39, s65_41, s65_42, s65_46, s65_48, s65_51, s65_52, s65_54, s65_56, s65_57, s65_58, s65_60, s65_63, s65_66, s65_69, s65_72, s65_75, s65_78, zps_0, zps_1, zps_2, zps_3, zps_9, Option.bind_some, Option.bind_none, Int.reduceEq, Int.reduceNe, Int.reduceLT, Int.reduceLE, Int.reduceNeg, Int.reduceAdd, Int.reduceSub, Int.reduceMul, reduceIte, if_true, if_false, true_and, and_true, false_and, and_false, or_true, true_or, or_false, false_or, not_true_eq_false, not_false_eq_true, ite_not, z_b0, z_b1, z_b01, hQ0, eqq, c1, z1]
  have L65c : ∀ (j : Int) (f : Int → Int) (l4 l5 : zV), ev 65 7 [(2, o), (2, q), (0, lo), (0, m q 0), l4, l5] [] R (W j f) = some ((9, 0), R, W j f) := by
    intro j f l4 l5
    have c1 : m q 0 ≤ m q 0 := by omega
    obtain ⟨hQ0, -⟩ := hQ
    rw [s65_7]
    simp only [s65_0, s65_1, s65_2, s65_5, s65_6, s65_8, s65_9, s65_12, s65_15, s65_16, s65_17, s65_20, s65_23, s65_24, s65_25, s65_26, s65_27, s65_30, s65_31, s65_32, s65_33, s65_36, s65_39, s65_41, s65_42, s65_46, s65_48, s65_51, s65_52, s65_54, s65_56, s65_57, s65_58, s65_60, s65_63, s65_66, s65_69, s65_72, s65_75, s65_78, zps_0, zps_1, zps_2, zps_3, zps_9, Option.bind_some, Option.bind_none, Int.reduceEq, Int.reduceNe, Int.reduceLT, Int.reduceLE, Int.reduceNeg, Int.reduceAdd, Int.reduceSub, Int.reduceMul, reduceIte, if_true, if_false, true_and, and_true, false_and, and_false, or_true, true_or, or_false, false_or, not_true_eq_false, not_false_eq_true, ite_not, z_b0, z_b1, z_b01, hQ0, eqq, c1]
  have L0 : ev 65 0 [(2, o), (2, q), (0, lo), (9, 0), (9, 0), (9, 0)] [] R m = ev 65 7 [(2, o), (2, q), (0, lo), (0, 0), (9, 0), (9, 0)] [] R (W 0 (m (o + 1))) := by
    have : W 0 (m (o + 1)) = zpr m o (zrw (m o) 0 0) := by
      rw [hW, show m (o + 1) = zpr m o (zrw (m o) 0 0) (o + 1) from (zpr_ne (by omega)).symm, zpr_self]
    rw [this]
    obtain ⟨hLK0, hLK1, hLK2, hLK3⟩ := hB
    simp only [s65_0, s65_1, s65_2, s65_5, s65_6, s65_8, s65_9, s65_12, s65_15, s65_16, s65_17, s65_20, s65_23, s65_24, s65_25, s65_26, s65_27, s65_30, s65_31, s65_32, s65_33, s65_36, s65_39, s65_41, s65_42, s65_46, s65_48, s65_51, s65_52, s65_54, s65_56, s65_57, s65_58, s65_60, s65_63, s65_66, s65_69, s65_72, s65_75, s65_78, zps_0, zps_1, zps_2, zps_3, zps_9, Option.bind_some, Option.bind_none, Int.reduceEq, Int.reduceNe, Int.reduceLT, Int.reduceLE, Int.reduceNeg, Int.reduceAdd, Int.reduceSub, Int.reduceMul, reduceIte, if_true, if_false, true_and, and_true, false_and, and_false, or_true, true_or, or_false, false_or, not_true_eq_false, not_false_eq_true, ite_not, z_b0, z_b1, z_b01, hLK0, hLK1, hLK2, hLK3, zup_zpr]
  rw [L0]
  simp only [← hW]
  rw [show W 0 (m (o + 1)) = W (0 - if 0 ≤ lo ∧ lo < 0 then 1 else 0) (m (o + 1)) by rw [if_neg (show ¬ (0 ≤ lo ∧ lo < 0) by omega)]; rfl]
  refine zloop (fun r => ∃ f : Int → Int, r = some ((9, 0), R, W (m q 0 - if 0 ≤ lo ∧ lo < m q 0 then 1 else 0) f) ∧ ∀ j i, 0 ≤ j → j < (m q 0 - if 0 ≤ lo ∧ lo < m q 0 then 1 else 0) → 0 ≤ i → i < 7 → f (7 * j + i) = m (q + 1) (7 * zlo lo j + i)) (fun k (a : (Int → Int) × zV × zV) => ev 65 7 [(2, o), (2, q), (0, lo), (0, k), a.2.1, a.2.2] [] R (W (k - if 0 ≤ lo ∧ lo < k then 1 else 0) a.1)) (m q 0) (fun k a => 0 ≤ k ∧ ∀ j i, 0 ≤ j → j < (k - if 0 ≤ lo ∧ lo < k then 1 else 0) → 0 ≤ i → i < 7 → a.1 (7 * j + i) = m (q + 1) (7 * zlo lo j + i)) ?_ ?_ 0 (m (o + 1), (9, 0), (9, 0)) hV.1 ⟨by omega, ?_⟩
  · rintro k ⟨f, l4, l5⟩ hk ⟨k0, hI⟩ ih
    dsimp only at hI ih ⊢
    by_cases c : k = lo
    · subst c
      rw [L65b _ _ _ _ k0 hk]
      have := ih (f, l4, l5) ⟨by omega, fun j i j0 j1 i0 i1 => hI j i j0 (by split <;> split at j1 <;> omega) i0 i1⟩
      rw [if_neg (by omega)]
      rw [if_pos (by omega)] at this
      rw [show k + 1 - 1 = k - 0 by omega] at this
      exact this
    · have hj : 0 ≤ (k - if 0 ≤ lo ∧ lo < k then 1 else 0) ∧ (k - if 0 ≤ lo ∧ lo < k then 1 else 0) < 12 := by split <;> omega
      rw [L65 _ _ _ _ _ k0 hk c hj.1 hj.2]
      have ej : (k + 1 - if 0 ≤ lo ∧ lo < k + 1 then 1 else 0) = (k - if 0 ≤ lo ∧ lo < k then 1 else 0) + 1 := by split <;> split <;> omega
      have ez : zlo lo (k - if 0 ≤ lo ∧ lo < k then 1 else 0) = k := by
        unfold zlo
        split <;> split <;> omega
      generalize (k - if 0 ≤ lo ∧ lo < k then 1 else 0) = J at *
      rw [← ej]
      generalize hF : zrw (zrw (zrw (zrw (zrw (zr7 f J _) _ _) _ _) _ _) _ _) _ _ = F
      refine ih (F, (0, J), (0, 7)) ⟨by omega, ?_⟩
      dsimp only
      intro j i j0 j1 i0 i1
      rw [← hF]
      clear hF ih
      rw [ej] at j1
      simp only [zrw_if]
      by_cases e : j = J
      · subst e
        rw [ez]
        unfold zr7
        have : i = 0 ∨ i = 1 ∨ i = 2 ∨ i = 3 ∨ i = 4 ∨ i = 5 ∨ i = 6 := by omega
        rcases this with rfl | rfl | rfl | rfl | rfl | rfl | rfl
        all_goals simp (disch := omega) only [if_pos, if_neg, if_true, if_false]
      · have := hI j i j0 (by omega) i0 i1
        rw [← this]
        unfold zr7
        simp (disch := omega) only [if_neg]
  · rintro ⟨f, l4, l5⟩ ⟨k0, hI⟩
    dsimp only at hI ⊢
    rw [L65c]
    exact ⟨f, rfl, hI⟩
  · intro j i j0 j1
    split at j1 <;> omega
end LTAKE
