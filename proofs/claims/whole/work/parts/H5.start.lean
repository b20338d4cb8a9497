/-! the start: class and model, made, are alike -/
section START
variable {R R1 Rb m x : zM}
theorem zrw_z (k : Int) : zrw (fun _ => 0) k 0 = fun _ => 0 := by
  funext q
  rw [zrw_if]
  split <;> rfl
theorem zfll_z (n : Int) : zfll (fun _ => 0) n 0 = fun _ => 0 := by
  funext q
  unfold zfll
  split <;> rfl
theorem zfll_2 (f : Int → Int) (n v : Int) : zfll (zfll f n v) n v = zfll f n v := by
  funext q
  unfold zfll
  split <;> rfl
/-- the memory when both are made -/
def zMst (m : zM) : Prop := (BN m 3 4 4 ∧ m 3 3 = 1 ∧ BN m 31 4 4 ∧ m 31 3 = 1) ∧ (∀ b, ¬ (3 ≤ b ∧ b ≤ 8) → ¬ (31 ≤ b ∧ b ≤ 36) → b ≠ 70 → b ≠ 79 → b ≠ 97 → b ≠ 100 → b ≠ 104 → b ≠ 122 → b ≠ 123 → b ≠ 150 → m b = fun _ => 0) ∧ m 70 = zrw (fun _ => 0) 7 (-1) ∧ m 79 = zrw (fun _ => 0) 4 (-1) ∧ m 97 = zfll (fun _ => 0) 4 (-1) ∧ m 100 = zrw (zrw (fun _ => 0) 0 4) 1 4 ∧ m 104 = zfll (fun _ => 0) 64 (-4) ∧ m 122 = iTb122 ∧ m 123 = iTb123 ∧ m 150 = zfll (fun _ => 0) 4 (-4)
theorem iTb122_ok : ∀ i : Fin 12, iTb122 (i.val : Int) = zends.getD i.val 0 := by decide +kernel
theorem iTb123_ok : ∀ i : Fin 44, iTb123 (i.val : Int) = zlets.getD i.val 0 := by decide +kernel
theorem TR_start (h : zMst m) : TR m m 2 := by
  obtain ⟨⟨h1, h2, h3, h4⟩, hz, h70, h79, h97, h100, h104, h122, h123, h150⟩ := h
  have z : ∀ b, 9 ≤ b → b ≤ 30 → m b = fun _ => 0 := fun b b0 b1 => hz b (by omega) (by omega) (by omega) (by omega) (by omega) (by omega) (by omega) (by omega) (by omega) (by omega)
  have z2 : m 2 = fun _ => 0 := hz 2 (by omega) (by omega) (by omega) (by omega) (by omega) (by omega) (by omega) (by omega) (by omega) (by omega)
  have y : ∀ b, 101 ≤ b → b ≤ 113 → b ≠ 104 → m b = fun _ => 0 := fun b b0 b1 b2 => hz b (by omega) (by omega) (by omega) (by omega) (by omega) (by omega) b2 (by omega) (by omega) (by omega)
  obtain ⟨u, hu⟩ : ∃ u, zpr m 3 (zrw (m 3) 3 (m 3 3 - 1)) = u := ⟨_, rfl⟩
  have uo : ∀ b, b ≠ 3 → u b = m b := fun b hb => by rw [← hu, zpr_ne hb]
  have T : TR m (zmclr m) 2 := by
    refine TR_begin (m := u) (v := 4) (h := 4) ⟨?_, h1, ?_, ?_, ?_, ?_⟩ (by rw [h100]; rfl) (by rw [h100]; rfl)
    · intro a ha
      rw [uo a (by intro e; apply ha; rw [e]; decide)]
    · show m 3 3 = u 3 3 + 1
      rw [← hu, zpr_at, zrw_at]; omega
    · rw [uo 2 (by decide), z2, zrw_z, zrw_z]
    · show m 9 = zrw (u 9) 0 0
      rw [uo 9 (by decide), z 9 (by decide) (by decide), zrw_z]
    · show m 11 = zrw (u 11) 0 0
      rw [uo 11 (by decide), z 11 (by decide) (by decide), zrw_z]
  have c100 : zmclr m 100 = zrw (zrw (zrw (zrw (m 100) 6 0) 7 0) 8 0) 10 0 := by unfold zmclr; rw [zpr_at]
  refine TR_c (m := m) (w := zmclr m) (fun a a0 a1 => rfl) ⟨fun a a0 a1 => ?_, ?_, ?_, ?_, ?_, ?_, ?_⟩ T
  · unfold zmclr
    rw [zpr_ne (by omega)]
    by_cases e4 : a = 104
    · rw [e4, zpr_at, h104, zfll_2]
    · rw [zpr_ne e4]
      by_cases e3 : a = 103
      · rw [e3, zpr_at, y 103 (by omega) (by omega) (by omega), zfll_z]
      · rw [zpr_ne e3]
        by_cases e2 : a = 102
        · rw [e2, zpr_at, y 102 (by omega) (by omega) (by omega), zfll_z]
        · rw [zpr_ne e2]
          by_cases e1 : a = 101
          · rw [e1, zpr_at, y 101 (by omega) (by omega) (by omega), zfll_z]
          · rw [zpr_ne e1]
  all_goals rw [c100, h100]; rfl
theorem RelB_start (h : zMst m) : RelB m 0 ∧ ARl R m m := by
  have hT := TR_start h
  obtain ⟨⟨h1, h2, h3, h4⟩, hz, h70, h79, h97, h100, h104, h122, h123, h150⟩ := h
  have z : ∀ b, ¬ (3 ≤ b ∧ b ≤ 8) → ¬ (31 ≤ b ∧ b ≤ 36) → b ≠ 70 → b ≠ 79 → b ≠ 97 → b ≠ 100 → b ≠ 104 → b ≠ 122 → b ≠ 123 → b ≠ 150 → ∀ k, m b k = 0 := fun b b0 b1 b2 b3 b4 b5 b6 b7 b8 b9 k => by rw [hz b b0 b1 b2 b3 b4 b5 b6 b7 b8 b9]
  have zz : ∀ b, (b < 3 ∨ (8 < b ∧ b < 31) ∨ (36 < b ∧ b < 70) ∨ (70 < b ∧ b < 79) ∨ (79 < b ∧ b < 97) ∨ b = 98 ∨ b = 99 ∨ (100 < b ∧ b < 104) ∨ (104 < b ∧ b < 122) ∨ (123 < b ∧ b < 150) ∨ 150 < b) → ∀ k, m b k = 0 := fun b hb k => z b (by omega) (by omega) (by omega) (by omega) (by omega) (by omega) (by omega) (by omega) (by omega) (by omega) k
  have k100 : ∀ k, k ≠ 0 → k ≠ 1 → m 100 k = 0 := fun k k0 k1 => by rw [h100, zrw_ne k1, zrw_ne k0]
  refine ⟨⟨hT, ⟨by omega, by omega, h3.2.1, h3.1⟩, ⟨fun y p y0 y1 => ?_, fun y i y0 y1 => ?_⟩, ⟨?_, ?_, fun i i0 i1 => ?_, ?_, ?_⟩, ⟨⟨?_, ?_⟩, fun t t0 t1 => ?_, fun t t0 t1 => ?_, fun a a0 a1 a2 => ?_⟩, ⟨?_, fun e => ?_, fun i i0 i1 => ?_⟩, ⟨0, ⟨?_, by omega, fun t t0 t1 => ?_, fun t t0 t1 => ?_⟩, ?_, ?_, ?_, fun e => ?_⟩, ⟨0, ⟨?_, by omega, fun k k0 k1 => ?_⟩, ⟨?_, by omega, fun k k0 k1 => ?_⟩, fun k k0 k1 => ?_⟩, ⟨?_, ?_, fun k k0 k1 => ?_⟩, fun k k0 k1 => Or.inl ⟨?_, ?_⟩⟩, ⟨?_, ?_, fun a a0 a1 => ?_, fun a b a0 ab b1 => ?_, ?_, fun a a0 a1 => ?_⟩⟩
  · rw [zz 2 (by omega)] at y1; omega
  · rw [zz 2 (by omega)] at y1; omega
  · rw [zz 63 (by omega), k100 27 (by decide) (by decide)]
  · rw [k100 27 (by decide) (by decide)]; omega
  · rw [k100 27 (by decide) (by decide)] at i1; omega
  · rw [zz 63 (by omega), k100 28 (by decide) (by decide)]
  · refine ⟨fun i i0 i1 => ?_, fun i i0 i1 => ?_⟩
    · have := iTb122_ok ⟨i.toNat, by omega⟩
      rw [h122]
      rw [show ((⟨i.toNat, by omega⟩ : Fin 12).val : Int) = i by show ((i.toNat : Nat) : Int) = i; omega] at this
      exact this
    · have := iTb123_ok ⟨i.toNat, by omega⟩
      rw [h123]
      rw [show ((⟨i.toNat, by omega⟩ : Fin 44).val : Int) = i by show ((i.toNat : Nat) : Int) = i; omega] at this
      exact this
  · rw [h70, k100 51 (by decide) (by decide)]; rfl
  · rw [k100 51 (by decide) (by decide)]; omega
  · rw [k100 51 (by decide) (by decide), zz 72 (by omega), if_neg (by omega)]
  · rw [k100 51 (by decide) (by decide)] at t1; omega
  · rw [zz 72 (by omega)] at a2; omega
  · rw [h70, h2]; decide
  · rw [h70, h2] at e; exact absurd e (by decide)
  · rw [zz 75 (by omega)]; omega
  · rw [h79]; rfl
  · omega
  · omega
  · rw [k100 62 (by decide) (by decide)]; rfl
  · rw [h79]; decide
  · rw [h79, h2]; decide
  · rw [h79] at e; exact absurd e (by decide)
  · rw [zz 87 (by omega)]; rfl
  · omega
  · rw [k100 67 (by decide) (by decide)]; rfl
  · omega
  · omega
  · rw [zz 91 (by omega), k100 71 (by decide) (by decide)]
  · rw [k100 71 (by decide) (by decide)]; omega
  · rw [k100 71 (by decide) (by decide)] at k1; omega
  · rw [h97, zfll_at ⟨k0, k1⟩]
  · rw [h150, zfll_at ⟨k0, k1⟩]
  · rw [k100 19 (by decide) (by decide)]; omega
  · rw [zz 58 (by omega), k100 19 (by decide) (by decide)]
  · rw [k100 19 (by decide) (by decide)] at a1; omega
  · rw [k100 19 (by decide) (by decide)] at b1; omega
  · rw [k100 19 (by decide) (by decide), k100 10 (by decide) (by decide)]; rfl
  · rw [k100 19 (by decide) (by decide)] at a1; omega
/-- the law's first steps -/
theorem law_start {L : Int} (h0 : R 0 0 = 0) (h1 : R 0 1 = 0) (h2 : R 0 2 = L) (hm : ∀ b, m b = fun _ => 0) : ∃ R1 m1, ev 0 0 [(4, 0), (9, 0), (9, 0), (9, 0)] [] R m = ev 0 18 [(4, 0), (2, 1), (2, 100), (0, 0)] [] R1 m1 ∧ Rel R1 m1 22316 0 ∧ ∀ k, k ≠ 0 → k ≠ 1 → R1 0 k = R 0 k := by
  obtain ⟨Ra, hRa⟩ : ∃ q, znR R 10 = q := ⟨_, rfl⟩
  have a00 : Ra 0 0 = 1 := by rw [← hRa, znR_00, h0]; rfl
  have a01 : Ra 0 1 = 10 := by rw [← hRa, znR_v, if_pos ⟨rfl, rfl⟩, h1]; rfl
  have a0k : ∀ k, k ≠ 0 → k ≠ 1 → Ra 0 k = R 0 k := fun k k0 k1 => by rw [← hRa, znR_v, if_neg (by omega), if_neg (by omega), if_neg (by omega)]
  obtain ⟨Rb, m1, e1, ⟨b00, b01, b0k, bhi⟩, ⟨t2, t30, l68, gk, ak, xk, wk, pk, qk, nk, ck⟩, b62, f1, f2, f3, f4, f5⟩ := ci178 (R := Ra) (m := m) a00 hm
  obtain ⟨Rc, hRc⟩ : ∃ q, znR Rb 79 = q := ⟨_, rfl⟩
  have c00 : Rc 0 0 = 100 := by rw [← hRc, znR_00, b00]; rfl
  have c01 : Rc 0 1 = Rb 0 1 + 79 := by rw [← hRc, znR_v, if_pos ⟨rfl, rfl⟩]
  have cb : ∀ b, b ≠ 0 → b < 100 → Rc b = Rb b := fun b b0 b1 => by rw [← hRc, znR_b b0 (by omega)]
  have c0k : ∀ k, k ≠ 0 → k ≠ 1 → Rc 0 k = Rb 0 k := fun k k0 k1 => by rw [← hRc, znR_v, if_neg (by omega), if_neg (by omega), if_neg (by omega)]
  obtain ⟨R2, m2, e2, ⟨d00, d01, d0k, db⟩, mk, g1, g2, g3, g4, g5, g6, g7⟩ := ci227 (R := Rc) (m := m1) c00 (fun b hb => f2 b (by omega) (by omega) (by omega) (by omega) (by omega))
  have r : ∀ b, b ≠ 0 → b < 100 → R2 b = Rb b := fun b b0 b1 => by rw [db b b0 b1, cb b b0 b1]
  have z1 : znl R = 1 := by unfold znl; omega
  have z2 : znl Rb = 100 := by unfold znl; omega
  have w1 : zrow m 1 0 = m := zrow_z (hm 1)
  have w2 : zrow m1 100 0 = m1 := zrow_z (f2 100 (by decide) (by decide) (by decide) (by decide) (by decide))
  have hz : 0 ≤ R 0 0 := by omega
  have hz2 : 0 ≤ Rb 0 0 := by omega
  refine ⟨R2, m2, ?_, ⟨⟨⟨?_, ?_, ?_, ?_, ?_, ?_, ?_, ?_, ?_, ?_, ?_, mk⟩, ?_, ?_, fun a a0 a1 => Or.inl ?_, fun a b a0 a1 b0 b1 ab e => ?_⟩, ?_⟩, fun k k0 k1 => by rw [d0k k k0 k1, c0k k k0 k1, b0k k k0 k1, a0k k k0 k1]⟩
  · simp only [s0_0, s0_3, s0_4, s0_7, s0_8, s0_11, s0_12, s0_15, s0_16, s0_17, zps_0, zps_1, zps_2, zps_3, zps_9, Option.bind_some, Option.bind_none, Int.reduceEq, Int.reduceNe, Int.reduceLT, Int.reduceLE, Int.reduceNeg, Int.reduceAdd, Int.reduceSub, Int.reduceMul, reduceIte, if_true, if_false, true_and, and_true, false_and, and_false, or_true, true_or, or_false, false_or, not_true_eq_false, not_false_eq_true, ite_not, z_b0, z_b1, z_b01, z1, z2, ik1, ik100, hz, hz2, w1, w2, hRa, hRc, e1, e2]
  · exact TK_rc (r 2 (by decide) (by decide)) (r 3 (by decide) (by decide)) (r 9 (by decide) (by decide)) (r 11 (by decide) (by decide)) t2
  · exact TK_rc (r 30 (by decide) (by decide)) (r 31 (by decide) (by decide)) (r 37 (by decide) (by decide)) (r 39 (by decide) (by decide)) t30
  · exact ⟨l68.1, by rw [r 68 (by decide) (by decide)]; exact l68.2.1, l68.2.2⟩
  · unfold GK at *; rw [r 1 (by decide) (by decide)]; exact gk
  · unfold AK at *; rw [r 58 (by decide) (by decide)]; exact ak
  · unfold XK at *; rw [r 63 (by decide) (by decide)]; exact xk
  · unfold WK at *; rw [r 70 (by decide) (by decide)]; exact wk
  · unfold PK at *; rw [r 79 (by decide) (by decide)]; exact pk
  · unfold QK at *; rw [r 87 (by decide) (by decide)]; exact qk
  · unfold NK at *; rw [r 91 (by decide) (by decide)]; exact nk
  · unfold CK at *; rw [r 96 (by decide) (by decide)]; exact ck
  · have : zny R2 = 0 := by
      unfold zny
      rw [zcnt_le (Nat.zero_le 60) (fun k _ _ => by rw [r 62 (by decide) (by decide), b62 k]; decide)]
      rfl
    rw [this, d00]; rfl
  · have : zny R2 = 0 := by
      unfold zny
      rw [zcnt_le (Nat.zero_le 60) (fun k _ _ => by rw [r 62 (by decide) (by decide), b62 k]; decide)]
      rfl
    rw [this, d01, c01, b01, a01]; rfl
  · rw [r 62 (by decide) (by decide)]; exact b62 a
  · rw [r 62 (by decide) (by decide), b62 a] at e
    exact absurd rfl e
  · have M : zMst m2 := by
      refine ⟨⟨BN_c (fun b b0 b1 => g1 b (by omega)) f1.1, by rw [g1 3 (by decide)]; exact f1.2.1, BN_c (fun b b0 b1 => g1 b (by omega)) f1.2.2.1, by rw [g1 31 (by decide)]; exact f1.2.2.2⟩, fun b b0 b1 b2 b3 b4 b5 b6 b7 b8 b9 => ?_, by rw [g1 70 (by decide)]; exact f3, by rw [g1 79 (by decide)]; exact f4, by rw [g1 97 (by decide)]; exact f5, by rw [g2, f2 100 (by decide) (by decide) (by decide) (by decide) (by decide)], g3, g4, g5, g6⟩
      rcases Int.lt_or_le b 100 with q | q
      · rw [g1 b q]; exact f2 b b0 b1 b2 b3 b4
      · exact g7 b (by omega) b6 b7 b8 b9
    exact ⟨(RelB_start (R := R2) M).2, (RelB_start (R := R2) M).1⟩
end START
