/-! what is pending fed with blanks behind it, the end told, the laws read -/
section TELLS
variable {R m : zM} {lp lw j : Int} {cs : Int → Int}
/-- blanks behind the chars -/
def pad (cs : Int → Int) (j : Int) : Int → Int := fun i => if i < j then cs i else 32
theorem vb_cg {cs cs' : Int → Int} {a : Int} (k : Nat) (h : ∀ i : Nat, i < k → cs' (a + i) = cs (a + i)) : vb cs' a k = vb cs a k := by
  induction k with
  | zero => rfl
  | succ k ih => rw [vb, vb, ih (fun i hi => h i (by omega)), h k (by omega)]
theorem l_pad {a : Int} {n0 lt0 V8 : Int} (hb : ∀ i : Nat, i < 8 → 0 ≤ cs (a + i) ∧ cs (a + i) ≤ 127) (ra : Nat) (hp : ∀ i : Nat, ra ≤ i → i < 8 → cs (a + i) = 32) : ∀ (d r : Nat), r + d = 8 → ra ≤ r → ev 329 15 [(2, 1), (2, lp), (2, lw), (1, vb cs a r), (8, 0), (0, (r : Int))] [] R m = ev 329 37 [(2, 1), (2, lp), (2, lw), (1, vb cs a 8), (8, 0), (0, 8)] [] R m := by
  intro d
  induction d with
  | zero =>
    intro r hr _
    have e : r = 8 := by omega
    subst e
    rw [s329_15]
    have c : (8 : Int) ≤ ((8 : Nat) : Int) := by decide
    simp only [s329_0, s329_1, s329_2, s329_3, s329_6, s329_7, s329_8, s329_9, s329_10, s329_11, s329_12, s329_13, s329_17, s329_19, s329_22, s329_23, s329_25, s329_26, s329_29, s329_30, s329_31, s329_34, s329_38, s329_39, s329_42, s329_43, s329_44, s329_45, s329_46, s329_47, s329_48, s329_49, s329_50, s329_51, s329_52, s329_53, s329_54, s329_55, s329_56, s329_57, s329_58, s329_59, s329_60, s329_61, s329_64, s329_65, s329_68, s329_70, s329_73, s329_74, s329_77, zps_0, zps_1, zps_2, zps_3, zps_9, Option.bind_some, Option.bind_none, Int.reduceEq, Int.reduceNe, Int.reduceLT, Int.reduceLE, Int.reduceNeg, Int.reduceAdd, Int.reduceSub, Int.reduceMul, reduceIte, if_true, if_false, true_and, and_true, false_and, and_false, or_true, true_or, or_false, false_or, not_true_eq_false, not_false_eq_true, ite_not, z_b0, z_b1, z_b01, c, if_true]
    rfl
  | succ d ih =>
    intro r hr ha
    have c : ¬ (8 : Int) ≤ (r : Int) := by omega
    have z : zw ((r : Int) + 1) = ((r + 1 : Nat) : Int) := by rw [zw_i (by omega) (by omega)]; rfl
    have P := vb_pack (cs := cs) (a := a) (k := r) (by omega) (fun i hi => hb i (by omega))
    rw [hp r ha (by omega)] at P
    have ih := ih (r + 1) (by omega) (by omega)
    rw [← ih, s329_15]
    simp only [s329_0, s329_1, s329_2, s329_3, s329_6, s329_7, s329_8, s329_9, s329_10, s329_11, s329_12, s329_13, s329_17, s329_19, s329_22, s329_23, s329_25, s329_26, s329_29, s329_30, s329_31, s329_34, s329_38, s329_39, s329_42, s329_43, s329_44, s329_45, s329_46, s329_47, s329_48, s329_49, s329_50, s329_51, s329_52, s329_53, s329_54, s329_55, s329_56, s329_57, s329_58, s329_59, s329_60, s329_61, s329_64, s329_65, s329_68, s329_70, s329_73, s329_74, s329_77, zps_0, zps_1, zps_2, zps_3, zps_9, Option.bind_some, Option.bind_none, Int.reduceEq, Int.reduceNe, Int.reduceLT, Int.reduceLE, Int.reduceNeg, Int.reduceAdd, Int.reduceSub, Int.reduceMul, reduceIte, if_true, if_false, true_and, and_true, false_and, and_false, or_true, true_or, or_false, false_or, not_true_eq_false, not_false_eq_true, ite_not, z_b0, z_b1, z_b01, c, P, z, if_false]
theorem tl_ar {j a : Int} {r : Nat} (hj : 0 ≤ j ∧ j < 312) (hr : (j % 8).toNat = r) (ha : 8 * (j / 8) = a) : (0 ≤ a ∧ j = a + r ∧ a + 8 ≤ 320 ∧ j % 8 = r ∧ r ≤ 7 ∧ r ≤ 8) ∧ (r ≠ 0 → ¬ (r : Int) ≤ 0 ∧ j ≤ a + 8 ∧ ¬ a + 8 < j) ∧ (r = 0 → (r : Int) ≤ 0 ∧ a = j) ∧ 8 - r + r = 8 := ⟨⟨by omega, by omega, by omega, by omega, by omega, by omega⟩, fun _ => by omega, fun _ => by omega, by omega⟩
theorem tl_pad {j a : Int} {r : Nat} (hja : j = a + r) (a0 : 0 ≤ a) (hc : ∀ i, 0 ≤ i → i < j → 0 ≤ cs i ∧ cs i ≤ 127) : (∀ i : Nat, i < 8 → 0 ≤ pad cs j (a + i) ∧ pad cs j (a + i) ≤ 127) ∧ (∀ i : Nat, r ≤ i → i < 8 → pad cs j (a + i) = 32) ∧ vb (pad cs j) a r = vb cs a r ∧ (∀ i, i < a → pad cs j i = cs i) ∧ ∀ i, i < j → pad cs j i = cs i := by
  refine ⟨fun i hi => ?_, fun i h1 h2 => ?_, vb_cg r (fun i hi => ?_), fun i hi => ?_, fun i hi => ?_⟩
  · unfold pad
    split
    · exact hc _ (by omega) (by omega)
    · omega
  · unfold pad; rw [if_neg (by omega)]
  · unfold pad; rw [if_pos (by omega)]
  · unfold pad; rw [if_pos (by omega)]
  · unfold pad; rw [if_pos (by omega)]
/-- the memory behind the reset -/
def zRs (m : zM) (lp lw : Int) : zM := zpr (zpr m lp (zrw (zrw (m lp) 0 0) 1 0)) lw (zrw (m lw) 0 0)
theorem l_tellsB (hR : RK R) {x : zM} {v L : Int} {R' m' : zM} (p1 : KX R lp = 20) (p2 : LX R lp = 2) (w1 : KX R lw = 21) (w2 : LX R lw = 1) (hne : lp ≠ lw) (h1 : x lp 1 = j) {E : Int} (hE : ev 187 0 [(2, 1), (0, j), (9, 0)] [] R (zRs x lp lw) = some ((0, L), R, m)) (hL : ¬ L < j) (hv : ev 188 0 [(2, 1), (9, 0)] [] R m = some ((0, v), R', m')) (l3 l4 l5 : zV) : ev 329 43 [(2, 1), (2, lp), (2, lw), l3, l4, l5] [] R x = some ((0, v), R', m') := by
  have d01 : (0 : Int) ≤ 0 ∧ (0 : Int) < 1 := by decide
  have d02 : (0 : Int) ≤ 0 ∧ (0 : Int) < 2 := by decide
  have d12 : (0 : Int) ≤ 1 ∧ (1 : Int) < 2 := by decide
  have hne' : lw ≠ lp := fun q => hne q.symm
  have e2 : ∀ F, zpr x lp F lw = x lw := fun F => zpr_ne hne'
  have hz : zpr (zpr x lp (zrw (zrw (x lp) 0 0) 1 0)) lw (zrw (x lw) 0 0) = zRs x lp lw := rfl
  have hL' : j ≤ L := Int.not_lt.mp hL
  simp only [s329_0, s329_1, s329_2, s329_3, s329_6, s329_7, s329_8, s329_9, s329_10, s329_11, s329_12, s329_13, s329_17, s329_19, s329_22, s329_23, s329_25, s329_26, s329_29, s329_30, s329_31, s329_34, s329_37, s329_38, s329_39, s329_42, s329_43, s329_44, s329_45, s329_46, s329_47, s329_48, s329_49, s329_50, s329_51, s329_52, s329_53, s329_54, s329_55, s329_56, s329_57, s329_58, s329_59, s329_60, s329_61, s329_64, s329_65, s329_68, s329_70, s329_73, s329_74, s329_77, zps_0, zps_1, zps_2, zps_3, zps_9, Option.bind_some, Option.bind_none, Int.reduceEq, Int.reduceNe, Int.reduceLT, Int.reduceLE, Int.reduceNeg, Int.reduceAdd, Int.reduceSub, Int.reduceMul, reduceIte, if_true, if_false, true_and, and_true, false_and, and_false, or_true, true_or, or_false, false_or, not_true_eq_false, not_false_eq_true, ite_not, z_b0, z_b1, z_b01, xk1, p1, p2, w1, w2, d01, d02, d12, h1, e2, hz, hE, hL, hL', hv, zup_zpr, zpr_at, zpr_zpr, and_self, if_true, if_false]
theorem l_tells (hR : RK R) (hL : FL R lp lw) (h : FD m lp lw cs j) (hj : 0 ≤ j ∧ j < 312) (hc : ∀ i, 0 ≤ i → i < j → 0 ≤ cs i ∧ cs i ≤ 127) : ∃ m2 : zM, (∀ (v : Int) (R' m' : zM), ev 188 0 [(2, 1), (9, 0)] [] R m2 = some ((0, v), R', m') → ev 329 0 [(2, 1), (2, lp), (2, lw), (9, 0), (9, 0), (9, 0)] [] R m = some ((0, v), R', m')) ∧ m2 63 0 = j ∧ (∀ i, 0 ≤ i → i < j → m2 64 i = cs i) ∧ (m2 lp 0 = 0 ∧ m2 lp 1 = 0 ∧ m2 lw 0 = 0) ∧ ∀ b, b ≠ lp → b ≠ lw → b ≠ 63 → b ≠ 64 → m2 b = m b := by
  have n63p : (63 : Int) ≠ lp := by have := hL.2.2.2.1; omega
  have n63w : (63 : Int) ≠ lw := by have := hL.2.2.2.2; omega
  have n64p : (64 : Int) ≠ lp := by have := hL.2.2.2.1; omega
  have n64w : (64 : Int) ≠ lw := by have := hL.2.2.2.2; omega
  obtain ⟨r, hr⟩ : ∃ r : Nat, (j % 8).toNat = r := ⟨_, rfl⟩
  obtain ⟨a, ha⟩ : ∃ a, 8 * (j / 8) = a := ⟨_, rfl⟩
  obtain ⟨⟨a0, hja, a8, hjr, r7, r8⟩, rp, rz, r88⟩ := tl_ar hj hr ha
  obtain ⟨q1, q2, q3, q4, q5⟩ := tl_pad hja a0 hc
  have ej : a + 8 = a + 8 := rfl
  -- the end and the laws, from a tape of L bytes
  have fin : ∀ (x : zM) (L : Int), 0 ≤ j ∧ j ≤ L → x 63 0 = L → x lp 1 = j → (∀ i, 0 ≤ i → i < j → x 64 i = cs i) → (∀ b, b ≠ lp → b ≠ lw → b ≠ 63 → b ≠ 64 → x b = m b) → ∃ m2 : zM, (∀ (v : Int) (R' m' : zM) (l3 l4 l5 : zV), ev 188 0 [(2, 1), (9, 0)] [] R m2 = some ((0, v), R', m') → ev 329 43 [(2, 1), (2, lp), (2, lw), l3, l4, l5] [] R x = some ((0, v), R', m')) ∧ m2 63 0 = j ∧ (∀ i, 0 ≤ i → i < j → m2 64 i = cs i) ∧ (m2 lp 0 = 0 ∧ m2 lp 1 = 0 ∧ m2 lw 0 = 0) ∧ ∀ b, b ≠ lp → b ≠ lw → b ≠ 63 → b ≠ 64 → m2 b = m b := by
    intro x L hL' x63 x1 x64 xo
    obtain ⟨⟨p1, p2⟩, ⟨w1, w2⟩, hne, p99, w99⟩ := hL
    obtain ⟨y, hy⟩ : ∃ y, zRs x lp lw = y := ⟨_, rfl⟩
    have hne' : lw ≠ lp := fun q => hne q.symm
    have yp : y lp = zrw (zrw (x lp) 0 0) 1 0 := by rw [← hy]; unfold zRs; rw [zpr_ne hne, zpr_at]
    have yw : y lw = zrw (x lw) 0 0 := by rw [← hy]; unfold zRs; rw [zpr_at]
    have yo : ∀ b, b ≠ lp → b ≠ lw → y b = x b := fun b b1 b2 => by rw [← hy]; unfold zRs; rw [zpr_ne b2, zpr_ne b1]
    have K := k_end (R := R) (m := y) (L := L) hR (by rw [yo 63 n63p n63w, x63]) hL'
    obtain ⟨z, hz⟩ : ∃ z, zpr y 63 (zrw (y 63) 0 j) = z := ⟨_, rfl⟩
    rw [hz] at K
    have lp63 : lp ≠ 63 := fun q => n63p q.symm
    have lw63 : lw ≠ 63 := fun q => n63w q.symm
    refine ⟨z, fun v R' m' l3 l4 l5 hv => ?_, by rw [← hz, zpr_at, zrw_at], fun i i0 i1 => by rw [← hz, zpr_ne (by decide), yo 64 n64p n64w]; exact x64 i i0 i1, ⟨?_, ?_, ?_⟩, fun b b1 b2 b3 b4 => by rw [← hz, zpr_ne b3, yo b b1 b2, xo b b1 b2 b3 b4]⟩
    · exact l_tellsB (R := R) (E := 0) hR p1 p2 w1 w2 hne x1 (by rw [hy]; exact K) (Int.not_lt.mpr hL'.2) hv l3 l4 l5
    · rw [← hz, zpr_ne lp63, yp, zrw_ne (by decide), zrw_at]
    · rw [← hz, zpr_ne lp63, yp, zrw_at]
    · rw [← hz, zpr_ne lw63, yw, zrw_at]
  obtain ⟨f0, f1, f2, f3, f4⟩ := h
  rw [hr, ha] at f2
  rw [ha] at f3 f4
  rw [hjr] at f0
  have d02 : (0 : Int) ≤ 0 ∧ (0 : Int) < 2 := by decide
  have d01 : (0 : Int) ≤ 0 ∧ (0 : Int) < 1 := by decide
  by_cases c : r = 0
  · obtain ⟨c1, c2⟩ := rz c
    obtain ⟨m2, g1, g2⟩ := fin m j ⟨hj.1, Int.le_refl _⟩ (by rw [f3, c2]) f1 (fun i i0 i1 => f4 i i0 (by rw [c2]; exact i1)) (fun _ _ _ _ _ => rfl)
    refine ⟨m2, fun v R' m' hv => ?_, g2⟩
    have E := g1 v R' m' (9, 0) (9, 0) (9, 0) hv
    obtain ⟨⟨p1, p2⟩, -⟩ := hL
    rw [← E]
    simp only [s329_0, s329_1, s329_2, s329_3, zps_0, zps_1, zps_2, zps_3, zps_9, Option.bind_some, Option.bind_none, Int.reduceEq, Int.reduceNe, Int.reduceLT, Int.reduceLE, Int.reduceNeg, Int.reduceAdd, Int.reduceSub, Int.reduceMul, reduceIte, if_true, if_false, true_and, and_true, false_and, and_false, or_true, true_or, or_false, false_or, not_true_eq_false, not_false_eq_true, ite_not, z_b0, z_b1, z_b01, p1, p2, d02, f0, c1, and_self, if_true]
  · obtain ⟨c1, c2, c3⟩ := rp c
    have q3' := q3
    obtain ⟨m3, F, g63, g64, gk, go⟩ := k_feed (R := R) (m := m) hR (L := a) f3 ⟨a0, a8⟩ (vb (pad cs j) a 8)
    have lp63 : lp ≠ 63 := fun q => n63p q.symm
    have lp64 : lp ≠ 64 := fun q => n64p q.symm
    obtain ⟨m2, g1, g2⟩ := fin m3 (a + 8) ⟨hj.1, c2⟩ g63 (by rw [go lp lp63 lp64, f1]) (fun i i0 i1 => by
      rw [← q5 i i1]
      by_cases e : i < a
      · have : ¬ (a ≤ i ∧ i < a + 8) := fun q => absurd e (Int.not_lt.mpr q.1)
        rw [gk i this, q4 i e]
        exact f4 i i0 e
      · have h1 : 0 ≤ i - a := Int.sub_nonneg.mpr (Int.not_lt.mp e)
        have h2 : i - a < 8 := by clear f0 f1 f2 f3 F g63 hL; omega
        have h3 := g64 (i - a) h1 h2
        have h4 := vb_byte (cs := pad cs j) (a := a) q1 h1 h2
        have h5 : a + (i - a) = i := by clear f0 f1 f2 f3 F g63 hL; omega
        rw [h5] at h3 h4
        rw [h3]
        exact h4) (fun b b1 b2 b3 b4 => go b b3 b4)
    refine ⟨m2, fun v R' m' hv => ?_, g2⟩
    have E := fun l3 l4 l5 => g1 v R' m' l3 l4 l5 hv
    obtain ⟨⟨p1, p2⟩, ⟨w1, w2⟩, -⟩ := hL
    have P := l_pad (R := R) (m := m) (lp := lp) (lw := lw) (cs := pad cs j) (a := a) (n0 := 0) (lt0 := 0) (V8 := 0) q1 r q2 (8 - r) r (by rw [Nat.add_comm]; exact r88) (Nat.le_refl _)
    rw [q3] at P
    have A : ev 329 0 [(2, 1), (2, lp), (2, lw), (9, 0), (9, 0), (9, 0)] [] R m = ev 329 15 [(2, 1), (2, lp), (2, lw), (1, vb cs a r), (8, 0), (0, (r : Int))] [] R m := by
      simp only [s329_0, s329_1, s329_2, s329_3, s329_6, s329_7, s329_8, s329_9, s329_10, s329_11, s329_12, s329_13, zps_0, zps_1, zps_2, zps_3, zps_9, Option.bind_some, Option.bind_none, Int.reduceEq, Int.reduceNe, Int.reduceLT, Int.reduceLE, Int.reduceNeg, Int.reduceAdd, Int.reduceSub, Int.reduceMul, reduceIte, if_true, if_false, true_and, and_true, false_and, and_false, or_true, true_or, or_false, false_or, not_true_eq_false, not_false_eq_true, ite_not, z_b0, z_b1, z_b01, p1, p2, w1, w2, d02, d01, f0, f2, c1, and_self, if_true, if_false]
    rw [A, P]
    have B : ev 329 37 [(2, 1), (2, lp), (2, lw), (1, vb (pad cs j) a 8), (8, 0), (0, 8)] [] R m = ev 329 43 [(2, 1), (2, lp), (2, lw), (1, vb (pad cs j) a 8), (8, 0), (0, 8)] [] R m3 := by
      simp only [s329_37, s329_38, s329_39, s329_42, zps_0, zps_1, zps_2, zps_3, zps_9, Option.bind_some, Option.bind_none, Int.reduceEq, Int.reduceNe, Int.reduceLT, Int.reduceLE, Int.reduceNeg, Int.reduceAdd, Int.reduceSub, Int.reduceMul, reduceIte, if_true, if_false, true_and, and_true, false_and, and_false, or_true, true_or, or_false, false_or, not_true_eq_false, not_false_eq_true, ite_not, z_b0, z_b1, z_b01, xk1, F]
    rw [B, E]
end TELLS
