/-! bytes fed -/
/-- a row of ints of a later time -/
def IR (R : zM) (a n : Int) : Prop := KX R a = 20 ∧ LX R a = n
theorem fd_ar {j a : Int} {r : Nat} (hj : 0 ≤ j ∧ j < 312) (hr : (j % 8).toNat = r) (ha : 8 * (j / 8) = a) : (r ≤ 7 ∧ 0 ≤ a ∧ j = a + r ∧ a + 8 ≤ 320 ∧ j % 8 = r) ∧ (r = 7 → (j + 1) % 8 = 0 ∧ 8 * ((j + 1) / 8) = a + 8) ∧ (r ≠ 7 → (j + 1) % 8 = ((r + 1 : Nat) : Int) ∧ 8 * ((j + 1) / 8) = a) ∧ (r ≠ 7 → ¬ ((r + 1 : Nat) : Int) = 8) ∧ (r = 7 → ((r + 1 : Nat) : Int) = 8) ∧ zw ((r : Int) + 1) = ((r + 1 : Nat) : Int) ∧ zw (j + 1) = j + 1 := by
  refine ⟨⟨by omega, by omega, by omega, by omega, by omega⟩, fun e => by omega, fun e => by omega, fun e => by omega, fun e => by omega, ?_, ?_⟩
  · rw [zw_i (by omega) (by omega)]; rfl
  · exact zw_i (by omega) (by omega)
theorem fd_bd {j a : Int} {r : Nat} {cs : Int → Int} (hja : j = a + r) (a0 : 0 ≤ a) (hc : ∀ i, 0 ≤ i → i ≤ j → 0 ≤ cs i ∧ cs i ≤ 127) : ∀ i : Nat, i ≤ r → 0 ≤ cs (a + i) ∧ cs (a + i) ≤ 127 := fun i hi => hc _ (by omega) (by omega)
theorem fd_row {m3 m2 m : zM} {cs : Int → Int} {a V1 : Int} {r : Nat} (c8 : r = 7) (hV1 : vb cs a (r + 1) = V1) (hbd : ∀ i : Nat, i ≤ r → 0 ≤ cs (a + i) ∧ cs (a + i) ≤ 127) (g64 : ∀ i, 0 ≤ i → i < 8 → m3 64 (a + i) = tByte V1 (56 - 8 * i)) (gk : ∀ j, ¬ (a ≤ j ∧ j < a + 8) → m3 64 j = m2 64 j) (x64 : m2 64 = m 64) (f4 : ∀ i, 0 ≤ i → i < a → m 64 i = cs i) : ∀ i, 0 ≤ i → i < a + 8 → m3 64 i = cs i := by
  subst c8
  intro i i0 i1
  by_cases e : i < a
  · rw [gk i (by omega), x64]; exact f4 i i0 e
  · have h1 := g64 (i - a) (by omega) (by omega)
    have h2 := vb_byte (cs := cs) (a := a) (fun q hq => hbd q (by omega)) (i := i - a) (by omega) (by omega)
    rw [show a + (i - a) = i by omega] at h1 h2
    rw [h1, ← hV1]
    exact h2
section FEED3
variable {R m : zM} {lt lp lw j n : Int} {cs : Int → Int}
theorem l_feed1 (hR : RK R) (hL : FL R lp lw) (ht : IR R lt 64) (h : FD m lp lw cs j) (hj : 0 ≤ j ∧ j < 312) (hc : ∀ i, 0 ≤ i → i ≤ j → 0 ≤ cs i ∧ cs i ≤ 127) {k : Int} (hk : 0 ≤ k ∧ k < n ∧ n ≤ 64) (hb : m lt k = cs j) (hd : lt ≠ lp ∧ lt ≠ lw ∧ 99 < lt) : ∃ m' : zM, ev 328 3 [(2, 1), (2, lt), (0, n), (2, lp), (2, lw), (0, k)] [] R m = ev 328 3 [(2, 1), (2, lt), (0, n), (2, lp), (2, lw), (0, k + 1)] [] R m' ∧ FD m' lp lw cs (j + 1) ∧ ∀ b, b ≠ lp → b ≠ lw → b ≠ 63 → b ≠ 64 → m' b = m b := by
  have n63p : (63 : Int) ≠ lp := by have := hL.2.2.2.1; omega
  have n63w : (63 : Int) ≠ lw := by have := hL.2.2.2.2; omega
  have n64p : (64 : Int) ≠ lp := by have := hL.2.2.2.1; omega
  have n64w : (64 : Int) ≠ lw := by have := hL.2.2.2.2; omega
  have c1 : ¬ n ≤ k := by omega
  have c2 : 0 ≤ k ∧ k < 64 := by omega
  have z1 : zw (k + 1) = k + 1 := zw_i (by omega) (by omega)
  obtain ⟨r, hr⟩ : ∃ r : Nat, (j % 8).toNat = r := ⟨_, rfl⟩
  obtain ⟨a, ha⟩ : ∃ a, 8 * (j / 8) = a := ⟨_, rfl⟩
  obtain ⟨⟨hr8, a0, hja, a8, hjr'⟩, jm, jn, q8', q8, z2, z3⟩ := fd_ar hj hr ha
  have hbd := fd_bd hja a0 hc
  obtain ⟨⟨p1, p2⟩, ⟨w1, w2⟩, hne, p99, w99⟩ := hL
  obtain ⟨f0, f1, f2, f3, f4⟩ := h
  obtain ⟨t1, t2⟩ := ht
  rw [hr, ha] at f2
  rw [ha] at f3 f4
  rw [hjr'] at f0
  have hne' : lw ≠ lp := fun q => hne q.symm
  have hjr : cs j = cs (a + r) := by rw [← hja]
  have PK := vb_pack (cs := cs) (a := a) (k := r) hr8 hbd
  rw [← hjr] at PK
  obtain ⟨V1, hV1⟩ : ∃ V1, vb cs a (r + 1) = V1 := ⟨_, rfl⟩
  rw [hV1] at PK
  obtain ⟨m2, hm2⟩ : ∃ m2, zpr (zpr m lw (zrw (m lw) 0 V1)) lp (zrw (zrw (m lp) 0 ((r + 1 : Nat) : Int)) 1 (j + 1)) = m2 := ⟨_, rfl⟩
  have m2p0 : m2 lp 0 = ((r + 1 : Nat) : Int) := by rw [← hm2, zpr_at, zrw_ne (by decide), zrw_at]
  have m2p1 : m2 lp 1 = j + 1 := by rw [← hm2, zpr_at, zrw_at]
  have m2w0 : m2 lw 0 = V1 := by rw [← hm2, zpr_ne hne', zpr_at, zrw_at]
  have m2o : ∀ b, b ≠ lp → b ≠ lw → m2 b = m b := fun b b1 b2 => by rw [← hm2, zpr_ne b1, zpr_ne b2]
  by_cases c8 : r = 7
  · obtain ⟨jm1, jm2⟩ := jm c8
    have e8 := q8 c8
    obtain ⟨m3, F, g63, g64, gk, go⟩ := k_feed (R := R) (m := m2) hR (L := a) (by rw [m2o 63 n63p n63w, f3]) ⟨a0, a8⟩ V1
    have z2 := z2
    rw [e8] at z2 hm2
    rw [← hm2] at F
    have E := l_feedB (R := R) (m := m) (lt := lt) (lp := lp) (lw := lw) (j := j) (n := n) (k := k) p1 p2 w1 w2 t1 t2 hne f0 f1 f2 hb PK c1 c2 z1 z2 z3 F
    obtain ⟨m4, hm4⟩ : ∃ m4, zpr (zpr m3 lp (zrw (m3 lp) 0 0)) lw (zrw (m3 lw) 0 0) = m4 := ⟨_, rfl⟩
    rw [hm4] at E
    have x64 : m2 64 = m 64 := m2o 64 n64p n64w
    have lp63 : lp ≠ 63 := fun q => n63p q.symm
    have lp64 : lp ≠ 64 := fun q => n64p q.symm
    refine ⟨m4, E, ⟨?_, ?_, ?_, ?_, ?_⟩, fun b b1 b2 b3 b4 => ?_⟩
    · rw [← hm4, zpr_ne hne, zpr_at, zrw_at, jm1]
    · rw [← hm4, zpr_ne hne, zpr_at, zrw_ne (by decide), go lp lp63 lp64, m2p1]
    · rw [jm1, ← hm4, zpr_at, zrw_at]
      rfl
    · rw [← hm4, zpr_ne n63w, zpr_ne n63p, g63, jm2]
    · rw [jm2, ← hm4, zpr_ne n64w, zpr_ne n64p]
      exact fd_row c8 hV1 hbd g64 gk x64 f4
    · rw [← hm4, zpr_ne b2, zpr_ne b1, go b b3 b4, m2o b b1 b2]
  · obtain ⟨jm1, jm2⟩ := jn c8
    have E := l_feedA (R := R) (m := m) (lt := lt) (lp := lp) (lw := lw) (j := j) (n := n) (k := k) p1 p2 w1 w2 t1 t2 hne f0 f1 f2 hb PK c1 c2 z1 z2 z3 (q8' c8)
    rw [hm2] at E
    refine ⟨m2, E, ⟨?_, m2p1, ?_, ?_, ?_⟩, fun b b1 b2 _ _ => m2o b b1 b2⟩
    · rw [m2p0, jm1]
    · rw [jm2, jm1, m2w0, Int.toNat_natCast, hV1]
    · rw [jm2, m2o 63 n63p n63w, f3]
    · rw [jm2, m2o 64 n64p n64w]
      exact f4
theorem l_feeds (hR : RK R) (hL : FL R lp lw) (ht : IR R lt 64) (h : FD m lp lw cs j) (hj : 0 ≤ j) (hn : 0 ≤ n ∧ n ≤ 64 ∧ j + n ≤ 312) (hc : ∀ i, 0 ≤ i → i < j + n → 0 ≤ cs i ∧ cs i ≤ 127) (hb : ∀ k, 0 ≤ k → k < n → m lt k = cs (j + k)) (hd : lt ≠ lp ∧ lt ≠ lw ∧ 99 < lt) : ∃ m' : zM, ev 328 0 [(2, 1), (2, lt), (0, n), (2, lp), (2, lw), (9, 0)] [] R m = some ((9, 0), R, m') ∧ FD m' lp lw cs (j + n) ∧ ∀ b, b ≠ lp → b ≠ lw → b ≠ 63 → b ≠ 64 → m' b = m b := by
  have L0 : ev 328 0 [(2, 1), (2, lt), (0, n), (2, lp), (2, lw), (9, 0)] [] R m = ev 328 3 [(2, 1), (2, lt), (0, n), (2, lp), (2, lw), (0, 0)] [] R m := by
    simp only [s328_0, s328_1]
  rw [L0]
  refine zloop (fun r => ∃ m' : zM, r = some ((9, 0), R, m') ∧ FD m' lp lw cs (j + n) ∧ ∀ b, b ≠ lp → b ≠ lw → b ≠ 63 → b ≠ 64 → m' b = m b) (fun k (x : zM) => ev 328 3 [(2, 1), (2, lt), (0, n), (2, lp), (2, lw), (0, k)] [] R x) n (fun k x => 0 ≤ k ∧ FD x lp lw cs (j + k) ∧ ∀ b, b ≠ lp → b ≠ lw → b ≠ 63 → b ≠ 64 → x b = m b) ?_ ?_ 0 m hn.1 ⟨Int.le_refl _, by rw [Int.add_zero]; exact h, fun _ _ _ _ _ => rfl⟩
  · rintro k x hkn ⟨k0, hF, ho⟩ ih
    obtain ⟨x', e, hF', ho'⟩ := l_feed1 (R := R) (m := x) (n := n) (k := k) hR hL ht hF (by omega) (fun i i0 i1 => hc i i0 (by omega)) ⟨k0, hkn, hn.2.1⟩ (by rw [ho lt hd.1 hd.2.1 (by omega) (by omega)]; exact hb k k0 hkn) hd
    rw [e]
    exact ih x' ⟨by omega, by rw [← Int.add_assoc]; exact hF', fun b b1 b2 b3 b4 => (ho' b b1 b2 b3 b4).trans (ho b b1 b2 b3 b4)⟩
  · rintro x ⟨-, hF, ho⟩
    refine ⟨x, ?_, hF, ho⟩
    rw [s328_3]
    simp only [s328_0, s328_1, s328_5, s328_6, s328_9, s328_11, s328_12, s328_14, s328_15, s328_16, s328_18, s328_19, s328_20, s328_22, s328_23, s328_24, s328_25, s328_26, s328_27, s328_28, s328_29, s328_30, s328_31, s328_32, s328_33, s328_34, s328_35, s328_36, s328_37, s328_38, s328_39, s328_40, s328_41, s328_42, s328_43, s328_45, s328_48, s328_49, s328_51, s328_52, s328_53, s328_56, s328_57, s328_58, s328_59, s328_60, s328_61, s328_63, s328_64, s328_65, s328_66, s328_69, s328_72, zps_0, zps_1, zps_2, zps_3, zps_9, Option.bind_some, Option.bind_none, Int.reduceEq, Int.reduceNe, Int.reduceLT, Int.reduceLE, Int.reduceNeg, Int.reduceAdd, Int.reduceSub, Int.reduceMul, reduceIte, if_true, if_false, true_and, and_true, false_and, and_false, or_true, true_or, or_false, false_or, not_true_eq_false, not_false_eq_true, ite_not, z_b0, z_b1, z_b01, Int.le_refl, if_true]
end FEED3
