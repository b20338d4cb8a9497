/-! all laws read by the class; what was read is well formed -/
theorem pNums_ok {f : Int → Int} {n act j j' : Int} {r : Int → Int} (h : pNums f n act j = .ok (j', r)) (ha : 0 ≤ act ∧ act ≤ 4) : j < j' ∧ (act = 1 → (0 ≤ r 3 ∧ r 3 < 5) ∧ (1 ≤ r 4 ∧ r 4 ≤ 14) ∧ (-99 ≤ r 5 ∧ r 5 ≤ 99)) ∧ (2 ≤ act → 0 ≤ r 3 ∧ r 3 ≤ 999) ∧ (act = 2 → r 3 ≤ 100) := by
  unfold pNums at h
  by_cases a0 : act = 0
  · rw [if_pos a0] at h
    cases h1 : pN f n j 0 7 with
    | error e => rw [h1] at h; cases h
    | ok a =>
      rw [h1] at h
      dsimp only at h
      cases h2 : pN f n (j + 1) 0 7 with
      | error e => rw [h2] at h; cases h
      | ok b =>
        rw [h2] at h
        dsimp only at h
        cases h3 : pN f n (j + 2) a 7 with
        | error e => rw [h3] at h; cases h
        | ok c =>
          rw [h3] at h
          dsimp only at h
          cases h4 : pN f n (j + 3) b 7 with
          | error e => rw [h4] at h; cases h
          | ok d =>
            rw [h4] at h
            cases h
            omega
  · rw [if_neg a0] at h
    by_cases a1 : act = 1
    · rw [if_pos a1] at h
      cases h1 : pW f n j 6 10 with
      | error e => rw [h1] at h; cases h
      | ok a =>
        rw [h1] at h
        dsimp only at h
        cases h2 : pN f n (j + 1) 1 14 with
        | error e => rw [h2] at h; cases h
        | ok b =>
          rw [h2] at h
          dsimp only at h
          cases h3 : pN f n (j + 2) (-99) 99 with
          | error e => rw [h3] at h; cases h
          | ok c =>
            rw [h3] at h
            cases h
            have p1 := pW_ok h1
            have p2 := pN_ok h2
            have p3 := pN_ok h3
            refine ⟨by omega, fun _ => ⟨?_, ?_, ?_⟩, fun _ => by omega, fun _ => by omega⟩
            · show 0 ≤ a - 6 ∧ a - 6 < 5; omega
            · show 1 ≤ b ∧ b ≤ 14; omega
            · show -99 ≤ c ∧ c ≤ 99; omega
    · rw [if_neg a1] at h
      cases h1 : pN f n j 0 (if act = 2 then 100 else if act = 3 then 64 else 999) with
      | error e => rw [h1] at h; cases h
      | ok a =>
        rw [h1] at h
        cases h
        have p1 := pN_ok h1
        refine ⟨by omega, fun z => absurd z a1, fun _ => ?_, fun z => ?_⟩
        · show 0 ≤ a ∧ a ≤ 999
          have := p1.2.2
          (repeat' split at this) <;> omega
        · show a ≤ 100
          have := p1.2.2
          rw [if_pos z] at this
          omega
def RWo (nl : Int) (L row : Int → Int) : Prop := (0 ≤ row 0 ∧ row 0 ≤ 4) ∧ (0 ≤ row 1 ∧ row 1 ≤ 99) ∧ (1 ≤ row 2 ∧ row 2 ≤ 3) ∧ (row 0 = 1 → (0 ≤ row 3 ∧ row 3 < 5) ∧ (1 ≤ row 4 ∧ row 4 ≤ 14) ∧ (-99 ≤ row 5 ∧ row 5 ≤ 99)) ∧ (2 ≤ row 0 → 0 ≤ row 3 ∧ row 3 ≤ 999) ∧ (row 0 = 2 → row 3 ≤ 100) ∧ (2 ≤ row 0 → pTold nl L (row 0) (row 2) (row 1) = false)
theorem pTl_ok {f : Int → Int} {n nl act fr j j' : Int} {L row : Int → Int} (h : pTl f n nl L act fr j = .ok (j', row)) (ha : 0 ≤ act ∧ act ≤ 4) (hf : 0 ≤ fr ∧ fr ≤ 99) : j < j' ∧ RWo nl L row := by
  unfold pTl at h
  by_cases c : zkd f n j = 1 ∧ 6 ≤ zva f n j ∧ zva f n j ≤ 8
  · rw [if_pos c] at h
    by_cases t : 2 ≤ act ∧ pTold nl L act (zva f n j - 5) fr = true
    · rw [if_pos t] at h; cases h
    · rw [if_neg t] at h
      cases h1 : pNums f n act (j + 1) with
      | error e => rw [h1] at h; cases h
      | ok p =>
        obtain ⟨j2, r⟩ := p
        rw [h1] at h
        dsimp only at h
        have p1 := pNums_ok h1 ha
        by_cases k3 : zkd f n j2 = 3
        · rw [if_pos k3] at h
          cases h
          refine ⟨by omega, ha, hf, ?_, p1.2.1, p1.2.2.1, p1.2.2.2, fun z => ?_⟩
          · show 1 ≤ zva f n j - 5 ∧ zva f n j - 5 ≤ 3; omega
          · show pTold nl L act (zva f n j - 5) fr = false
            cases h : pTold nl L act (zva f n j - 5) fr with
            | false => rfl
            | true => exact absurd ⟨z, h⟩ t
        · rw [if_neg k3] at h; cases h
  · rw [if_neg c] at h; cases h
theorem pLaw_ok {f : Int → Int} {n nl j j' : Int} {L row : Int → Int} (h : pLaw f n j nl L = .ok (j', row)) : j < j' ∧ RWo nl L row ∧ nl ≠ 12 := by
  unfold pLaw at h
  by_cases c : zkd f n j = 1 ∧ 0 ≤ zva f n j ∧ zva f n j ≤ 5
  · rw [if_pos c] at h
    by_cases c12 : nl = 12
    · rw [if_pos c12] at h; cases h
    · rw [if_neg c12] at h
      cases h1 : pHd f n j with
      | error e => rw [h1] at h; cases h
      | ok p =>
        obtain ⟨j1, fr⟩ := p
        rw [h1] at h
        dsimp only at h
        have q1 : j ≤ j1 ∧ 0 ≤ fr ∧ fr ≤ 99 := by
          unfold pHd at h1
          by_cases c5 : zva f n j = 5
          · rw [if_pos c5] at h1
            cases h2 : pN f n (j + 1) 0 99 with
            | error e => rw [h2] at h1; cases h1
            | ok v =>
              rw [h2] at h1
              cases h1
              have := pN_ok h2
              omega
          · rw [if_neg c5] at h1
            cases h1
            omega
        cases h3 : pW f n j1 0 4 with
        | error e => rw [h3] at h; cases h
        | ok act =>
          rw [h3] at h
          dsimp only at h
          have p3 := pW_ok h3
          have := pTl_ok h (by omega) q1.2
          exact ⟨by omega, this.2, c12⟩
  · rw [if_neg c] at h; cases h
theorem zr7_r {L row : Int → Int} {nl i : Int} (h0 : 0 ≤ i) (h1 : i < 7) : zr7 L nl row (7 * nl + i) = row i := by
  unfold zr7
  rw [if_pos (by omega), show 7 * nl + i - 7 * nl = i by omega]
theorem zr7_o {L row : Int → Int} {nl k i : Int} (h0 : 0 ≤ i) (h1 : i < 7) (hk : k < nl) : zr7 L nl row (7 * k + i) = L (7 * k + i) := by
  unfold zr7
  rw [if_neg (by omega)]
theorem LW_add {nl : Int} {L row : Int → Int} (h : LW nl L) (h12 : nl ≠ 12) (hr : RWo nl L row) : LW (nl + 1) (zr7 L nl row) := by
  obtain ⟨h0, h1, h2⟩ := h
  obtain ⟨r0, r1, r2, r3, r4, r5, r6⟩ := hr
  have z0 : ∀ k, k < nl → zr7 L nl row (7 * k) = L (7 * k) := fun k hk => by have := zr7_o (L := L) (row := row) (i := 0) (by omega) (by omega) hk; rw [Int.add_zero] at this; exact this
  have y0 : zr7 L nl row (7 * nl) = row 0 := by have := zr7_r (L := L) (row := row) (nl := nl) (i := 0) (by omega) (by omega); rw [Int.add_zero] at this; exact this
  refine ⟨by omega, fun k k0 k1 => ?_, fun j k j0 jk k1 => ?_⟩
  · by_cases e : k = nl
    · subst e
      rw [y0, zr7_r (i := 1) (by omega) (by omega), zr7_r (i := 2) (by omega) (by omega), zr7_r (i := 3) (by omega) (by omega), zr7_r (i := 4) (by omega) (by omega), zr7_r (i := 5) (by omega) (by omega)]
      exact ⟨r0, r1, r2, r3, r4, r5⟩
    · have hk : k < nl := by omega
      rw [z0 k hk, zr7_o (i := 1) (by omega) (by omega) hk, zr7_o (i := 2) (by omega) (by omega) hk, zr7_o (i := 3) (by omega) (by omega) hk, zr7_o (i := 4) (by omega) (by omega) hk, zr7_o (i := 5) (by omega) (by omega) hk]
      exact h1 k k0 hk
  · have hj : j < nl := by omega
    rw [z0 j hj, zr7_o (i := 1) (by omega) (by omega) hj, zr7_o (i := 2) (by omega) (by omega) hj]
    by_cases e : k = nl
    · subst e
      rw [y0, zr7_r (i := 1) (by omega) (by omega), zr7_r (i := 2) (by omega) (by omega)]
      intro hk ⟨q1, q2, q3⟩
      have := r6 hk
      have an : pTold k L (row 0) (row 2) (row 1) = true := (zany_iff _ _).2 ⟨j, j0, by omega, decide_eq_true ⟨q1, q3, q2⟩⟩
      rw [this] at an; cases an
    · have hk : k < nl := by omega
      rw [z0 k hk, zr7_o (i := 1) (by omega) (by omega) hk, zr7_o (i := 2) (by omega) (by omega) hk]
      exact h2 j k j0 jk hk
theorem pAll_LW {f : Int → Int} {n : Int} (k : Nat) : ∀ (j nl : Int) (L : Int → Int) (nl' : Int) (L' : Int → Int), LW nl L → pAll f n k j nl L = .ok (nl', L') → LW nl' L' := by
  induction k with
  | zero => intro j nl L nl' L' h e; simp only [pAll] at e; cases e; exact h
  | succ k ih =>
    intro j nl L nl' L' h e
    simp only [pAll] at e
    by_cases c : zkd f n j = 0
    · rw [if_pos c] at e; cases e; exact h
    · rw [if_neg c] at e
      cases h1 : pLaw f n j nl L with
      | error q => rw [h1] at e; cases e
      | ok p =>
        obtain ⟨j', row⟩ := p
        rw [h1] at e
        have p1 := pLaw_ok h1
        exact ih _ _ _ _ _ (LW_add h p1.2.2 p1.2.1) e
section READ
variable {R m0 : zM} {f : Int → Int} {n N : Int}
theorem tz_rAll (hXK : XK R) (hLK : LK R 68) (hn0 : 0 ≤ n) (hT : Tk m0 f n N) (k : Nat) : ∀ (i j nl : Int) (G H L : Int → Int), 0 ≤ i → i ≤ j → j < N → N - j ≤ k → G 4 = N → G 8 = j → H 0 = nl → 0 ≤ nl → nl ≤ 12 → match pAll f n k j nl L with | .ok (nl', L') => ∃ G' H' : Int → Int, ev 34 21 [(2, 63), (2, 68), (0, i)] [] R (PM m0 G H L) = some ((0, 1), R, PM m0 G' H' L') ∧ H' 0 = nl' ∧ ∀ q, q ≠ 8 → q ≠ 9 → G' q = G q | .error e => ∃ G' H' L' : Int → Int, ev 34 21 [(2, 63), (2, 68), (0, i)] [] R (PM m0 G H L) = some ((0, 0), R, PM m0 G' H' L') ∧ G' 1 = e.1 ∧ G' 2 = e.2 := by
  induction k with
  | zero => intro i j nl G H L i0 ij jN hk; omega
  | succ k ih =>
    intro i j nl G H L i0 ij jN hk h4 h8 hH n0 n12
    have hN := hT.1
    have K := tz_nk (H := H) (L := L) hXK hT h4 h8 ⟨by omega, jN⟩
    have c1 : ¬ N ≤ i := by omega
    have c2 : i < N := by omega
    have z : zw (i + 1) = i + 1 := zw_i (by omega) (by omega)
    simp only [pAll]
    by_cases c : zkd f n j = 0
    · rw [if_pos c]
      dsimp only
      refine ⟨G, H, ?_, hH, fun _ _ _ => rfl⟩
      rw [s34_21]
      simp only [s34_0, s34_1, s34_2, s34_5, s34_6, s34_7, s34_10, s34_11, s34_14, s34_15, s34_16, s34_19, s34_20, s34_22, s34_23, s34_26, s34_29, s34_30, s34_33, s34_36, s34_37, s34_38, s34_39, s34_40, s34_43, s34_46, s34_47, s34_48, s34_51, s34_54, s34_55, s34_58, s34_61, s34_62, s34_65, s34_66, zps_0, zps_1, zps_2, zps_3, zps_9, Option.bind_some, Option.bind_none, Int.reduceEq, Int.reduceNe, Int.reduceLT, Int.reduceLE, Int.reduceNeg, Int.reduceAdd, Int.reduceSub, Int.reduceMul, reduceIte, if_true, if_false, true_and, and_true, false_and, and_false, or_true, true_or, or_false, false_or, not_true_eq_false, not_false_eq_true, ite_not, z_b0, z_b1, z_b01, rXK0 hXK, rXK1 hXK, rXK2 hXK, rXK3 hXK, kXK0, kXK1, kXK2, kXK3, kXK4, kXK5, kXK6, kXK7, kXK8, PM_63, h4, c1, c2, K, c, true_or, or_true, if_true, if_false]
    · rw [if_neg c]
      have RL := tz_rLaw (H := H) (L := L) hXK hLK hn0 hT h4 h8 ⟨by omega, jN⟩ hH ⟨n0, n12⟩
      cases h1 : pLaw f n j nl L with
      | error e =>
        rw [h1] at RL
        dsimp only at RL ⊢
        obtain ⟨G', H', L', e1, e2⟩ := RL
        refine ⟨G', H', L', ?_, e2⟩
        rw [s34_21]
        simp only [s34_0, s34_1, s34_2, s34_5, s34_6, s34_7, s34_10, s34_11, s34_14, s34_15, s34_16, s34_19, s34_20, s34_22, s34_23, s34_26, s34_29, s34_30, s34_33, s34_36, s34_37, s34_38, s34_39, s34_40, s34_43, s34_46, s34_47, s34_48, s34_51, s34_54, s34_55, s34_58, s34_61, s34_62, s34_65, s34_66, zps_0, zps_1, zps_2, zps_3, zps_9, Option.bind_some, Option.bind_none, Int.reduceEq, Int.reduceNe, Int.reduceLT, Int.reduceLE, Int.reduceNeg, Int.reduceAdd, Int.reduceSub, Int.reduceMul, reduceIte, if_true, if_false, true_and, and_true, false_and, and_false, or_true, true_or, or_false, false_or, not_true_eq_false, not_false_eq_true, ite_not, z_b0, z_b1, z_b01, rXK0 hXK, rXK1 hXK, rXK2 hXK, rXK3 hXK, kXK0, kXK1, kXK2, kXK3, kXK4, kXK5, kXK6, kXK7, kXK8, PM_63, h4, c1, c2, K, c, e1, true_or, or_true, if_true, if_false]
      | ok p =>
        obtain ⟨j', row⟩ := p
        rw [h1] at RL
        dsimp only at RL ⊢
        obtain ⟨G', e1, c3⟩ := RL
        have p1 := pLaw_ok h1
        have := ih (i + 1) j' (nl + 1) G' (zrw H 0 (nl + 1)) (zr7 L nl row) (by omega) (by omega) c3.2.2.1.2 (by omega) c3.2.1 c3.1 (zrw_at _ _ _) (by omega) (by omega)
        have L1 : ev 34 21 [(2, 63), (2, 68), (0, i)] [] R (PM m0 G H L) = ev 34 21 [(2, 63), (2, 68), (0, i + 1)] [] R (PM m0 G' (zrw H 0 (nl + 1)) (zr7 L nl row)) := by
          rw [s34_21]
          simp only [s34_0, s34_1, s34_2, s34_5, s34_6, s34_7, s34_10, s34_11, s34_14, s34_15, s34_16, s34_19, s34_20, s34_22, s34_23, s34_26, s34_29, s34_30, s34_33, s34_36, s34_37, s34_38, s34_39, s34_40, s34_43, s34_46, s34_47, s34_48, s34_51, s34_54, s34_55, s34_58, s34_61, s34_62, s34_65, s34_66, zps_0, zps_1, zps_2, zps_3, zps_9, Option.bind_some, Option.bind_none, Int.reduceEq, Int.reduceNe, Int.reduceLT, Int.reduceLE, Int.reduceNeg, Int.reduceAdd, Int.reduceSub, Int.reduceMul, reduceIte, if_true, if_false, true_and, and_true, false_and, and_false, or_true, true_or, or_false, false_or, not_true_eq_false, not_false_eq_true, ite_not, z_b0, z_b1, z_b01, rXK0 hXK, rXK1 hXK, rXK2 hXK, rXK3 hXK, kXK0, kXK1, kXK2, kXK3, kXK4, kXK5, kXK6, kXK7, kXK8, PM_63, h4, c1, c2, K, c, e1, z, true_or, or_true, if_true, if_false]
        rw [L1]
        cases h2 : pAll f n k j' (nl + 1) (zr7 L nl row) with
        | error e => rw [h2] at this; exact this
        | ok p2 =>
          obtain ⟨nl', L'⟩ := p2
          rw [h2] at this
          dsimp only at this ⊢
          obtain ⟨G'', H'', a1, a2, a3⟩ := this
          exact ⟨G'', H'', a1, a2, fun q q8 q9 => (a3 q q8 q9).trans (c3.2.2.2 q q8 q9)⟩
theorem tz_readInto (hXK : XK R) (hLK : LK R 68) {m : zM} (hf : m 64 = f) (hn : m 63 0 = n) (h320 : 0 ≤ n ∧ n ≤ 320) : match pAll f n 322 0 0 (m 69) with | .ok (nl, L) => ∃ m1 : zM, ev 34 0 [(2, 63), (2, 68), (9, 0)] [] R m = some ((0, 1), R, m1) ∧ (∀ a, a < 63 ∨ a = 64 ∨ 69 < a → m1 a = m a) ∧ m1 63 1 = 0 ∧ m1 68 0 = nl ∧ m1 69 = L | .error e => ∃ m1 : zM, ev 34 0 [(2, 63), (2, 68), (9, 0)] [] R m = some ((0, 0), R, m1) ∧ (∀ a, a < 63 ∨ a = 64 ∨ 69 < a → m1 a = m a) ∧ m1 63 1 = e.1 ∧ m1 63 2 = e.2 := by
  have k68 : KD 68 = 4 := by decide +kernel
  have n1 : zpr m 68 (zrw (m 68) 0 0) 63 = m 63 := zpr_ne (by decide)
  obtain ⟨m0, N, s1, s2, s3, s4⟩ := tz_split (R := R) (m := zpr (zpr m 68 (zrw (m 68) 0 0)) 63 (zrw (m 63) 1 0)) (f := f) (n := n) hXK (by rw [zpr_ne (by decide), zpr_ne (by decide), hf]) (by rw [zpr_at, zrw_ne (by decide), hn]) h320
  have hT : Tk m0 f n N := ⟨s4.2.1, s4.2.2.1, s4.2.2.2.1, s4.2.2.2.2⟩
  have e68 : m0 68 = zrw (m 68) 0 0 := by rw [s2 68 (by decide) (by decide) (by decide) (by decide), zpr_ne (by decide), zpr_at]
  have e69 : m0 69 = m 69 := by rw [s2 69 (by decide) (by decide) (by decide) (by decide), zpr_ne (by decide), zpr_ne (by decide)]
  have eP : zpr m0 63 (zrw (m0 63) 8 0) = PM m0 (zrw (m0 63) 8 0) (zrw (m 68) 0 0) (m 69) := by
    rw [← e68, ← e69]
    funext q
    by_cases q1 : q = 63
    · subst q1; rw [zpr_at, PM_63]
    · rw [zpr_ne q1]
      by_cases q2 : q = 68
      · subst q2; rw [PM_68]
      · by_cases q3 : q = 69
        · subst q3; rw [PM_69]
        · rw [PM_ne _ _ _ _ q1 q2 q3]
  have L0 : ev 34 0 [(2, 63), (2, 68), (9, 0)] [] R m = ev 34 21 [(2, 63), (2, 68), (0, 0)] [] R (PM m0 (zrw (m0 63) 8 0) (zrw (m 68) 0 0) (m 69)) := by
    rw [← eP]
    simp only [s34_0, s34_1, s34_2, s34_5, s34_6, s34_7, s34_10, s34_11, s34_14, s34_15, s34_16, s34_19, s34_20, s34_22, s34_23, s34_26, s34_29, s34_30, s34_33, s34_36, s34_37, s34_38, s34_39, s34_40, s34_43, s34_46, s34_47, s34_48, s34_51, s34_54, s34_55, s34_58, s34_61, s34_62, s34_65, s34_66, zps_0, zps_1, zps_2, zps_3, zps_9, Option.bind_some, Option.bind_none, Int.reduceEq, Int.reduceNe, Int.reduceLT, Int.reduceLE, Int.reduceNeg, Int.reduceAdd, Int.reduceSub, Int.reduceMul, reduceIte, if_true, if_false, true_and, and_true, false_and, and_false, or_true, true_or, or_false, false_or, not_true_eq_false, not_false_eq_true, ite_not, z_b0, z_b1, z_b01, rXK0 hXK, rXK1 hXK, rXK2 hXK, rXK3 hXK, kXK0, kXK1, kXK2, kXK3, kXK4, kXK5, kXK6, kXK7, kXK8, k68, zup_zpr, n1, s1]
  have RA := tz_rAll hXK hLK h320.1 hT 322 0 0 0 (zrw (m0 63) 8 0) (zrw (m 68) 0 0) (m 69) (by omega) (by omega) (by have := hT.1; omega) (by have := hT.1; omega) (by rw [zrw_ne (by decide)]; exact s4.1) (zrw_at _ _ _) (zrw_at _ _ _) (by omega) (by omega)
  have g1 : zrw (m0 63) 8 0 1 = 0 := by rw [zrw_ne (by decide), s3 1 (by decide), zpr_at, zrw_at]
  have fr : ∀ G H L a, a < 63 ∨ a = 64 ∨ 69 < a → PM m0 G H L a = m a := by
    intro G H L a ha
    rw [PM_ne _ _ _ _ (by omega) (by omega) (by omega), s2 a (by omega) (by omega) (by omega) (by omega), zpr_ne (by omega), zpr_ne (by omega)]
  rw [L0]
  cases h : pAll f n 322 0 0 (m 69) with
  | error e =>
    rw [h] at RA
    dsimp only at RA ⊢
    obtain ⟨G', H', L', a1, a2, a3⟩ := RA
    exact ⟨_, a1, fr G' H' L', by rw [PM_63]; exact a2, by rw [PM_63]; exact a3⟩
  | ok p =>
    obtain ⟨nl, L⟩ := p
    rw [h] at RA
    dsimp only at RA ⊢
    obtain ⟨G', H', a1, a2, a3⟩ := RA
    exact ⟨_, a1, fr G' H' L, by rw [PM_63, a3 1 (by decide) (by decide), g1], by rw [PM_68, a2], PM_69 _ _ _ _⟩
end READ
