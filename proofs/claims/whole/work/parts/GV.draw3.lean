/-! draw: the plots drawn -/
/-- low rows of one memory, high rows of another -/
def zjn (x y : zM) : zM := fun b => if b < 100 then x b else y b
def opG (x : zM) (p g : Int) : zM := mG (cG x p g) p g
def opH (x : zM) (p g : Int) : zM := mH (cH2 x p g) p g
def dS (D : Int → Int) (x : zM) (p : Int) : zM := (fun x1 : zM => if D (2 * p + 1) = x1 102 p then x1 else opH x1 p (D (2 * p + 1))) (if D (2 * p) = x 101 p then x else opG x p (D (2 * p)))
def dSeq (D : Int → Int) (m : zM) : Nat → zM
  | 0 => m
  | n + 1 => dS D (dSeq D m n) n
section DRAW3
variable {R m x y c w : zM} {k a f n L p g h : Int} {D G H U : Int → Int}
theorem zjn_lo {b : Int} (hb : b < 100) : zjn x y b = x b := by unfold zjn; rw [if_pos hb]
theorem zjn_hi {b : Int} (hb : ¬ b < 100) : zjn x y b = y b := by unfold zjn; rw [if_neg hb]
theorem zjn_self (x : zM) : zjn x x = x := by funext b; unfold zjn; split <;> rfl
theorem zjn_plo {b : Int} (hb : b < 100) (F : Int → Int) : zpr (zjn x y) b F = zjn (zpr x b F) y := by
  funext q
  by_cases e : q = b
  · subst e; rw [zpr_at, zjn_lo hb, zpr_at]
  · rw [zpr_ne e]
    by_cases d : q < 100
    · rw [zjn_lo d, zjn_lo d, zpr_ne e]
    · rw [zjn_hi d, zjn_hi d]
theorem zjn_phi {b : Int} (hb : ¬ b < 100) (F : Int → Int) : zpr (zjn x y) b F = zjn x (zpr y b F) := by
  funext q
  by_cases e : q = b
  · subst e; rw [zpr_at, zjn_hi hb, zpr_at]
  · rw [zpr_ne e]
    by_cases d : q < 100
    · rw [zjn_lo d, zjn_lo d]
    · rw [zjn_hi d, zjn_hi d, zpr_ne e]
theorem zjn_c (h1 : ∀ b, b < 100 → x b = w b) (h2 : ∀ b, ¬ b < 100 → y b = c b) : zjn x y = zjn w c := by
  funext b
  by_cases d : b < 100
  · rw [zjn_lo d, zjn_lo d, h1 b d]
  · rw [zjn_hi d, zjn_hi d, h2 b d]
theorem cG_A : cG (zjn x m) p g = zjn (cG x p g) m := by
  simp (disch := decide) only [cG, zgput, zkeep, zjn_lo, zjn_plo]
theorem cH_A : cH2 (zjn x m) p g = zjn (cH2 x p g) m := by
  simp (disch := decide) only [cH2, zhput, zkeep, zjn_lo, zjn_plo]
theorem mG_C : mG (zjn y x) p g = zjn y (mG x p g) := by
  simp (disch := decide) only [mG, zmrec, zjn_hi, zjn_phi]
theorem mH_C : mH (zjn y x) p g = zjn y (mH x p g) := by
  simp (disch := decide) only [mH, zmrec, zjn_hi, zjn_phi]
theorem cG_B : zjn y (cG x p g) = zjn y x := by
  obtain ⟨c3, c4, c7, ck, co⟩ := cG_rows x p g
  exact zjn_c (fun _ _ => rfl) (fun b hb => co b (by omega) (by omega) (by omega) (by omega))
theorem cH_B : zjn y (cH2 x p g) = zjn y x := by
  obtain ⟨c3, c4, ck, co⟩ := cH_rows x p g
  exact zjn_c (fun _ _ => rfl) (fun b hb => co b (by omega) (by omega) (by omega))
theorem mG_D : zjn (mG x p g) m = zjn x m := by
  obtain ⟨m101, mk, m100, mo⟩ := mG_rows x p g
  exact zjn_c (fun b hb => mo b (by omega) (by omega) (by omega)) (fun _ _ => rfl)
theorem mH_D : zjn (mH x p g) m = zjn x m := by
  obtain ⟨m101, mk, m100, mo⟩ := mH_rows x p g
  exact zjn_c (fun b hb => mo b (by omega) (by omega) (by omega)) (fun _ _ => rfl)
/-- the class's step, the model's step -/
theorem opG_c : cG (zjn x m) p g = zjn (opG x p g) m := by unfold opG; rw [cG_A, mG_D]
theorem opH_c : cH2 (zjn x m) p g = zjn (opH x p g) m := by unfold opH; rw [cH_A, mH_D]
theorem opG_m : mG (zjn y x) p g = zjn y (opG x p g) := by unfold opG; rw [← mG_C, cG_B]
theorem opH_m : mH (zjn y x) p g = zjn y (opH x p g) := by unfold opH; rw [← mH_C, cH_B]
/-- what has become of the memory when a acts are done -/
def DI (R m x : zM) (a pg ph : Int) : Prop := RA R x ∧ (x 100 19 = m 100 19 + a ∧ x 3 3 = m 3 3 + a) ∧ (∀ q, pg ≤ q → x 101 q = m 101 q) ∧ (∀ q, ph ≤ q → x 102 q = m 102 q) ∧ (∀ b, b ≠ 3 → b ≠ 4 → b ≠ 5 → b ≠ 7 → (b < 58 ∨ 61 < b) → b ≠ 100 → b ≠ 101 → b ≠ 102 → (b < 114 ∨ 116 < b) → x b = m b) ∧ ∀ k, k ≠ 19 → x 100 k = m 100 k
theorem DI_0 (h : RA R m) : DI R m m 0 0 0 := ⟨h, ⟨by omega, by omega⟩, fun _ _ => rfl, fun _ _ => rfl, fun _ _ _ _ _ _ _ _ _ _ => rfl, fun _ _ => rfl⟩
theorem DI_w {pg ph pg' ph' : Int} (h : DI R m x a pg ph) (h1 : pg ≤ pg') (h2 : ph ≤ ph') : DI R m x a pg' ph' := ⟨h.1, h.2.1, fun q hq => h.2.2.1 q (by omega), fun q hq => h.2.2.2.1 q (by omega), h.2.2.2.2⟩
theorem DI_N (h : DI R m x a g p) : mN x = mN m := by
  unfold mN
  rw [h.2.2.2.2.2 0 (by decide), h.2.2.2.2.2 1 (by decide)]
theorem DI_g {pg ph : Int} (h : DI R m x a pg ph) (ha : m 100 19 + a < 60) (hp : 0 ≤ p ∧ p < mN m) (hg : 0 ≤ g ∧ g ≤ 2) (hpg : pg ≤ p) : DI R m (opG x p g) (a + 1) (p + 1) ph := by
  have hN := DI_N h
  obtain ⟨h1, ⟨h2, h3⟩, h4, h5, h6, h7⟩ := h
  obtain ⟨c3, c4, c7, ck, co⟩ := cG_rows x p g
  obtain ⟨m101, mk, m100, mo⟩ := mG_rows (cG x p g) p g
  have e100 : cG x p g 100 = x 100 := co 100 (by decide) (by decide) (by decide) (by omega)
  refine ⟨RA_g h1 (by omega) (by rw [hN]; exact hp) hg (fun _ => rfl), ⟨?_, ?_⟩, fun q hq => ?_, fun q hq => ?_, fun b b1 b2 b3 b4 b5 b6 b7 b8 b9 => ?_, fun k hk => ?_⟩
  · unfold opG; rw [m100, zrw_at, e100]; omega
  · unfold opG; rw [mo 3 (by decide) (by decide) (by omega), c3, zrw_at]; omega
  · unfold opG; rw [m101, zrw_ne (by omega), co 101 (by decide) (by decide) (by decide) (by omega)]; exact h4 q (by omega)
  · unfold opG; rw [mo 102 (by decide) (by decide) (by omega), co 102 (by decide) (by decide) (by decide) (by omega)]; exact h5 q hq
  · unfold opG; rw [mo b b6 b7 b9, co b b1 b2 b4 b5]; exact h6 b b1 b2 b3 b4 b5 b6 b7 b8 b9
  · unfold opG; rw [m100, zrw_ne hk, e100]; exact h7 k hk
theorem DI_h {pg ph : Int} (h : DI R m x a pg ph) (ha : m 100 19 + a < 60) (hp : 0 ≤ p ∧ p < mN m) (hg : 0 ≤ g ∧ g ≤ 9) (hph : ph ≤ p) : DI R m (opH x p g) (a + 1) pg (p + 1) := by
  have hN := DI_N h
  obtain ⟨h1, ⟨h2, h3⟩, h4, h5, h6, h7⟩ := h
  obtain ⟨c3, c4, ck, co⟩ := cH_rows x p g
  obtain ⟨m101, mk, m100, mo⟩ := mH_rows (cH2 x p g) p g
  have e100 : cH2 x p g 100 = x 100 := co 100 (by decide) (by decide) (by omega)
  refine ⟨RA_h h1 (by omega) (by rw [hN]; exact hp) hg (fun _ => rfl), ⟨?_, ?_⟩, fun q hq => ?_, fun q hq => ?_, fun b b1 b2 b3 b4 b5 b6 b7 b8 b9 => ?_, fun k hk => ?_⟩
  · unfold opH; rw [m100, zrw_at, e100]; omega
  · unfold opH; rw [mo 3 (by decide) (by decide) (by omega), c3, zrw_at]; omega
  · unfold opH; rw [mo 101 (by decide) (by decide) (by omega), co 101 (by decide) (by decide) (by omega)]; exact h4 q hq
  · unfold opH; rw [m101, zrw_ne (by omega), co 102 (by decide) (by decide) (by omega)]; exact h5 q (by omega)
  · unfold opH; rw [mo b b6 b8 b9, co b b1 b3 b5]; exact h6 b b1 b2 b3 b4 b5 b6 b7 b8 b9
  · unfold opH; rw [m100, zrw_ne hk, e100]; exact h7 k hk
/-- the same acts done by the class, on a memory whose low rows are x's -/
theorem tz_gground2 (hT2 : TK R 2) (hGK : GK R) (hAK : AK R) (hT : TR x x 2) (hc : ∀ b, b < 100 → c b = x b) (ha : 0 ≤ x 58 0 ∧ x 58 0 < 60) (hp : 0 ≤ p ∧ p < mN x) (hg : 0 ≤ g ∧ g ≤ 2) (hu : x 103 p = 0) (hC : 0 ≤ x 3 3 ∧ x 3 3 < 2000000000) : ev 182 0 [(2, 1), (0, p), (0, g)] [] R c = some ((0, x 101 p), R, cG c p g) := by
  have c3 := hc 3 (by decide)
  have H := tz_has (m := c) (TK_B3 hT2) p
  rw [c3, TR_n3 hT, if_pos hp] at H
  have W := tz_within g 0 2 R c
  rw [if_pos hg] at W
  obtain ⟨g1, g2, g3⟩ := TR_g hT hp
  have hVc : BV c 3 := (BT_fr (m := x) (m' := c) (o := 3) (fun a a0 a1 => hc a (by omega)) (TR_V3 hT) hT.1.1.2.2).1
  have CG : ev 115 0 [(2, 2), (0, p)] [] R c = some ((0, if c 6 p = 0 then 1 else 0), R, c) := tz_canGround hT2 hVc (by show 0 ≤ p ∧ p < c 3 2; rw [c3, TR_n3 hT]; exact hp)
  rw [hc 6 (by decide), g3, if_pos hu] at CG
  have AF := tz_afull (R := R) (m := c) hAK
  rw [hc 58 (by decide), if_neg (by omega)] at AF
  have KP := tz_keep (R := R) (m := c) hAK (by rw [hc 58 (by decide)]; exact ha) 0 (c 2 3) p g
  obtain ⟨y, hy⟩ : ∃ y, zkeep c 0 (c 2 3) p g = y := ⟨_, rfl⟩
  have yo : ∀ b, b < 58 → y b = c b := fun b hb => by rw [← hy]; exact (zkeep_rows c 0 (c 2 3) p g).2.2.2.2 b (by omega)
  have hVy : BV y 3 := (BT_fr (m := x) (m' := y) (o := 3) (fun a a0 a1 => by rw [yo a (by omega), hc a (by omega)]) (TR_V3 hT) hT.1.1.2.2).1
  have PG : ev 20 0 [(2, 3), (0, p), (0, g), (9, 0)] [] R y = some ((0, y 4 p), R, zgput y 3 p g) := tz_putGround (TK_B3 hT2) hVy (by rw [yo 3 (by omega), c3]; exact hC) (by rw [yo 3 (by omega), c3, TR_n3 hT]; exact hp) hg
  rw [yo 4 (by omega), hc 4 (by decide), g1] at PG
  rw [hy] at KP
  unfold cG
  rw [hy]
  simp only [s182_0, s182_1, s182_4, s182_7, s182_8, s182_11, s182_14, s182_15, s182_16, s182_17, s182_20, s182_23, s182_24, s182_25, s182_26, s182_29, s182_30, s182_33, s182_36, s182_38, s182_39, s182_40, s182_43, s182_46, s182_49, s182_51, s182_52, s182_53, s182_56, s182_57, s182_58, s182_61, s182_64, s182_65, s182_66, s182_69, s182_70, s182_73, s182_76, s182_77, s182_78, s182_81, zps_0, zps_1, zps_2, zps_3, zps_9, Option.bind_some, Option.bind_none, Int.reduceEq, Int.reduceNe, Int.reduceLT, Int.reduceLE, Int.reduceNeg, Int.reduceAdd, Int.reduceSub, Int.reduceMul, reduceIte, if_true, if_false, true_and, and_true, false_and, and_false, or_true, true_or, or_false, false_or, not_true_eq_false, not_false_eq_true, ite_not, z_b0, z_b1, z_b01, rGK0 hGK, rGK1 hGK, rGK2 hGK, rGK3 hGK, rGK4 hGK, rGK5 hGK, rGK6 hGK, rGK7 hGK, rGK8 hGK, rGK9 hGK, kGK0, kd2, kd3, kd9, kd11, r2_0 hT2, r2_1 hT2, r2_2 hT2, kAK0, H, W, CG, AF, KP, PG, if_true, if_false]
theorem tz_gheight2 (hT2 : TK R 2) (hGK : GK R) (hAK : AK R) (hT : TR x x 2) (hc : ∀ b, b < 100 → c b = x b) (ha : 0 ≤ x 58 0 ∧ x 58 0 < 60) (hp : 0 ≤ p ∧ p < mN x) (hg : 0 ≤ g ∧ g ≤ 9) (hC : 0 ≤ x 3 3 ∧ x 3 3 < 2000000000) : ev 183 0 [(2, 1), (0, p), (0, g)] [] R c = some ((0, x 102 p), R, cH2 c p g) := by
  have c3 := hc 3 (by decide)
  have H := tz_has (m := c) (TK_B3 hT2) p
  rw [c3, TR_n3 hT, if_pos hp] at H
  have W := tz_within g 0 9 R c
  rw [if_pos hg] at W
  obtain ⟨g1, g2, g3⟩ := TR_g hT hp
  have AF := tz_afull (R := R) (m := c) hAK
  rw [hc 58 (by decide), if_neg (by omega)] at AF
  have KP := tz_keep (R := R) (m := c) hAK (by rw [hc 58 (by decide)]; exact ha) 1 (c 2 3) p g
  obtain ⟨y, hy⟩ : ∃ y, zkeep c 1 (c 2 3) p g = y := ⟨_, rfl⟩
  have yo : ∀ b, b < 58 → y b = c b := fun b hb => by rw [← hy]; exact (zkeep_rows c 1 (c 2 3) p g).2.2.2.2 b (by omega)
  have hVy : BV y 3 := (BT_fr (m := x) (m' := y) (o := 3) (fun a a0 a1 => by rw [yo a (by omega), hc a (by omega)]) (TR_V3 hT) hT.1.1.2.2).1
  have PG : ev 23 0 [(2, 3), (0, p), (0, g), (9, 0)] [] R y = some ((0, y 5 p), R, zhput y 3 p g) := tz_putHeight (TK_B3 hT2) hVy (by rw [yo 3 (by omega), c3]; exact hC) (by rw [yo 3 (by omega), c3, TR_n3 hT]; exact hp) hg
  rw [yo 5 (by omega), hc 5 (by decide), g2] at PG
  rw [hy] at KP
  unfold cH2
  rw [hy]
  simp only [s183_0, s183_1, s183_4, s183_7, s183_8, s183_11, s183_14, s183_15, s183_16, s183_18, s183_21, s183_24, s183_25, s183_26, s183_27, s183_30, s183_33, s183_36, s183_38, s183_39, s183_40, s183_43, s183_44, s183_45, s183_48, s183_51, s183_52, s183_53, s183_56, s183_57, s183_60, s183_63, s183_64, s183_65, s183_68, zps_0, zps_1, zps_2, zps_3, zps_9, Option.bind_some, Option.bind_none, Int.reduceEq, Int.reduceNe, Int.reduceLT, Int.reduceLE, Int.reduceNeg, Int.reduceAdd, Int.reduceSub, Int.reduceMul, reduceIte, if_true, if_false, true_and, and_true, false_and, and_false, or_true, true_or, or_false, false_or, not_true_eq_false, not_false_eq_true, ite_not, z_b0, z_b1, z_b01, rGK0 hGK, rGK1 hGK, rGK2 hGK, rGK3 hGK, rGK4 hGK, rGK5 hGK, rGK6 hGK, rGK7 hGK, rGK8 hGK, rGK9 hGK, kGK0, kd2, kd3, kd9, kd11, r2_0 hT2, r2_1 hT2, r2_2 hT2, kAK0, H, W, AF, KP, PG, if_true, if_false]
/-- the cells, good -/
def dOk (D : Int → Int) (m : zM) (n : Int) : Prop := mN m = n ∧ (∀ j, 0 ≤ j → j < 2 * n → 0 ≤ D j ∧ D j ≤ dLim j) ∧ (¬ dRef D (m 101) (m 103) n) ∧ m 100 19 + zsum (dAct D (m 101) (m 102)) n.toNat ≤ 60
theorem dOk_g (h : dOk D m n) (hp : 0 ≤ p ∧ p < n) : (0 ≤ D (2 * p) ∧ D (2 * p) ≤ 2) ∧ (0 ≤ D (2 * p + 1) ∧ D (2 * p + 1) ≤ 9) := by
  have a := h.2.1 (2 * p) (by omega) (by omega)
  have b := h.2.1 (2 * p + 1) (by omega) (by omega)
  unfold dLim at a b
  rw [if_pos (by omega)] at a
  rw [if_neg (by omega)] at b
  exact ⟨a, b⟩
theorem dOk_lt (h : dOk D m n) (hp : 0 ≤ p ∧ p < n) : m 100 19 + zsum (dAct D (m 101) (m 102)) p.toNat + dAct D (m 101) (m 102) p ≤ 60 := by
  have a := zsum_mono (g := dAct D (m 101) (m 102)) (fun k => (dAct_bd k).1) (a := (p + 1).toNat) (b := n.toNat) (by omega)
  rw [zsum_step _ hp.1] at a
  have := h.2.2.2
  omega
theorem DI_S (h : dOk D m n) (hp : 0 ≤ p ∧ p < n) (hx : DI R m x (zsum (dAct D (m 101) (m 102)) p.toNat) p p) : DI R m (dS D x p) (zsum (dAct D (m 101) (m 102)) (p + 1).toNat) (p + 1) (p + 1) := by
  have lt := dOk_lt h hp
  obtain ⟨g1, g2⟩ := dOk_g h hp
  have hpN : 0 ≤ p ∧ p < mN m := by rw [h.1]; exact hp
  have e1 := hx.2.2.1 p (Int.le_refl _)
  have e2 := hx.2.2.2.1 p (Int.le_refl _)
  rw [zsum_step _ hp.1]
  unfold dS dAct at *
  by_cases c1 : D (2 * p) = m 101 p
  · rw [if_pos c1] at lt ⊢
    rw [e1, if_pos c1]
    dsimp only
    by_cases c2 : D (2 * p + 1) = m 102 p
    · rw [if_pos c2] at lt ⊢
      rw [e2, if_pos c2, Int.add_zero, Int.add_zero]
      exact DI_w hx (by omega) (by omega)
    · rw [if_neg c2] at lt ⊢
      rw [e2, if_neg c2, Int.zero_add]
      exact DI_w (DI_h hx (by omega) hpN g2 (Int.le_refl _)) (by omega) (Int.le_refl _)
  · rw [if_neg c1] at lt ⊢
    rw [e1, if_neg c1]
    dsimp only
    have lt2 : m 100 19 + zsum (fun p => (if D (2 * p) = m 101 p then 0 else 1) + if D (2 * p + 1) = m 102 p then 0 else 1) p.toNat < 60 := by
      have := (dAct_bd (D := D) (G := m 101) (H := m 102) p)
      split at lt <;> omega
    have Y := DI_g hx lt2 hpN g1 (Int.le_refl _)
    have e3 := Y.2.2.2.1 p (Int.le_refl _)
    by_cases c2 : D (2 * p + 1) = m 102 p
    · rw [if_pos c2] at lt ⊢
      rw [e3, if_pos c2, Int.add_zero]
      exact DI_w Y (by omega) (by omega)
    · rw [if_neg c2] at lt ⊢
      rw [e3, if_neg c2, ← Int.add_assoc]
      exact DI_h Y (by omega) hpN g2 (Int.le_refl _)
theorem DI_seq (h : dOk D m n) (hR : RA R m) (q : Nat) : (q : Int) ≤ n → DI R m (dSeq D m q) (zsum (dAct D (m 101) (m 102)) q) q q := by
  induction q with
  | zero => intro _; exact DI_0 hR
  | succ q ih =>
    intro hq
    have A := DI_S h (p := (q : Int)) ⟨by omega, by omega⟩ (ih (by omega))
    exact A
theorem dSeq_id (q : Nat) : zsum (dAct D (m 101) (m 102)) q = 0 → dSeq D m q = m := by
  induction q with
  | zero => intro _; rfl
  | succ q ih =>
    intro h
    simp only [zsum] at h
    have b := dAct_bd (D := D) (G := m 101) (H := m 102) (q : Int)
    have s := (zsum_bd (f := dAct D (m 101) (m 102)) (n := q) (lo := 0) (hi := 2) (fun k _ _ => dAct_bd k)).1
    have e := ih (by omega)
    have z : dAct D (m 101) (m 102) q = 0 := by omega
    unfold dAct at z
    show dS D (dSeq D m q) q = m
    rw [e]
    unfold dS
    have c1 : D (2 * (q : Int)) = m 101 q := by
      by_cases c : D (2 * (q : Int)) = m 101 q
      · exact c
      · rw [if_neg c] at z; split at z <;> omega
    have c2 : D (2 * (q : Int) + 1) = m 102 q := by
      by_cases c : D (2 * (q : Int) + 1) = m 102 q
      · exact c
      · rw [if_neg c] at z; split at z <;> omega
    rw [if_pos c1]
    dsimp only
    rw [if_pos c2]
theorem dSeq_s (D : Int → Int) (m : zM) {p : Int} (hp : 0 ≤ p) : dSeq D m (p + 1).toNat = dS D (dSeq D m p.toNat) p := by
  obtain ⟨q, rfl⟩ := Int.eq_ofNat_of_zero_le hp
  rfl
end DRAW3
