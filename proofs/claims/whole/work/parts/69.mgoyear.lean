/-! the model: a year goes, all of it -/
def MYR (m m' : zM) (ln nc : Int) (L : Int → Int) (Q : zP) : Prop :=
  ME [103, 104, 110, 111, 112, 113, 124, 125, 126, 127, 128, 129] [7, 44, 45, 46] m m' ∧
  m' 100 7 = m 100 7 + zsum (mTf m ln L Q) (mN m).toNat ∧ m' 100 44 = zcnt (fun s => decide (0 ≤ Q.1 s)) nc.toNat ∧ m' 100 45 = zcnt (mLv m ln L Q) (mN m).toNat ∧ m' 100 46 = zsum (mTf m ln L Q) (mN m).toNat ∧
  (∀ p, 0 ≤ p → p < mN m → m' 103 p = (if mLv m ln L Q p = true then 0 else uA m Q p) ∧ m' 104 p = (if mLv m ln L Q p = true then -4 else oA m Q p)) ∧
  ∀ s, 0 ≤ s → s < nc → m' 110 s = (if zany (fun p => mLv m ln L Q p && decide (oA m Q p = s)) (mN m).toNat = true then -4 else pA m Q s) ∧ m' 111 s = (if zany (fun p => mLv m ln L Q p && decide (oA m Q p = s)) (mN m).toNat = true then 1 else m 111 s) ∧ m' 112 s = (if 0 ≤ Q.1 s then zbid (m 107) (mva m ln L) s (Q.1 s) else m 112 s) ∧ m' 113 s = (if 0 ≤ Q.1 s then m 100 6 else m 113 s)
section MGOY
variable {R m : zM} {ln nc : Int} {L : Int → Int}
theorem tz_mgoYear (hM : MK R) (hV : MV m) (hL : ML m ln L) (hQ : MQ2 m nc) (ho : ∀ p, 0 ≤ p → p < mN m → m 104 p = -4 ∨ (0 ≤ m 104 p ∧ m 104 p < nc)) (hch : 0 ≤ m 100 7 ∧ m 100 7 ≤ 40000000) : ∃ (m' : zM) (Q : zP), zfin (mN m) nc (mwai m) (mca m ln L) (m 107) (mva m ln L) Q ∧ zPI (mN m) nc Q ∧ ev 273 0 [(2, 100), (9, 0), (9, 0)] [] R m = some ((9, 0), R, m') ∧ MYR m m' ln nc L Q := by
  have hN := MV_n hV
  have h20 := hQ.2.1
  obtain ⟨m1, Q, a1, f1, hS1, hPI, hfin, hI1⟩ := tz_msettle (R := R) hM hV hL hQ
  have e1 := mfr5 f1
  obtain ⟨m2, h2⟩ : ∃ M, zpr m1 100 (zrw (zrw (zrw (m1 100) 44 0) 45 0) 46 0) = M := ⟨_, rfl⟩
  have st := tz_mg0 hM a1
  rw [h2] at st
  have r2 : ∀ a, a ≠ 100 → m2 a = m1 a := fun a h => by rw [← h2, zpr_ne h]
  have k2 : ∀ k, k ≠ 44 → k ≠ 45 → k ≠ 46 → m2 100 k = m 100 k := fun k q1 q2 q3 => by rw [← h2, zpr_at, zrw_ne q3, zrw_ne q2, zrw_ne q1, e1 100 (by omega)]
  have k44 : m2 100 44 = 0 ∧ m2 100 45 = 0 ∧ m2 100 46 = 0 := by
    rw [← h2, zpr_at]
    refine ⟨?_, ?_, ?_⟩
    · rw [zrw_ne (by decide), zrw_ne (by decide), zrw_at]
    · rw [zrw_ne (by decide), zrw_at]
    · rw [zrw_at]
  have g2 : ∀ a, a ≠ 100 → a < 124 ∨ 128 < a → m2 a = m a := fun a q1 q2 => (r2 a q1).trans (e1 a q2)
  have hV2 : MV m2 := MV_e (k2 0 (by decide) (by decide) (by decide)) (k2 1 (by decide) (by decide) (by decide)) (g2 101 (by decide) (by decide)) (g2 102 (by decide) (by decide)) (fun q q0 q1 => by rw [g2 103 (by decide) (by decide)]; exact (hV.2.2 q q0 q1).2.2) hV
  have e10 := e1 100 (by omega)
  have hI2 : MIn m2 (mN m) nc (mwai m2) (mca m ln L) (m 107) (mva m ln L) := MIn_w hV2 (by rw [k2 0 (by decide) (by decide) (by decide), e10]) (by rw [k2 1 (by decide) (by decide) (by decide), e10]) (by rw [k2 10 (by decide) (by decide) (by decide), e10]) (r2 102 (by decide)) (r2 106 (by decide)) (r2 107 (by decide)) (r2 108 (by decide)) (r2 127 (by decide)) (r2 128 (by decide)) hI1
  have hS2 : MS m2 nc Q := by
    unfold MS at *
    rw [r2 124 (by decide), r2 125 (by decide), r2 126 (by decide)]
    exact hS1
  obtain ⟨m3, j3, a3, f3, c3, o3, s3⟩ := tz_mpA (R := R) hM hI2 hS2 hPI k44.1 (9, 0)
  have hV3 : MV m3 := MV_ME f3 (by decide) (by decide) (fun q q0 q1 => by rw [f3.1 103 (by decide) (by decide)]; exact (hV2.2.2 q q0 q1).2.2) hV2
  have eN3 : mN m3 = mN m := (mN_e (f3.2 0 (by decide)) (f3.2 1 (by decide))).trans (mN_e (k2 0 (by decide) (by decide) (by decide)) (k2 1 (by decide) (by decide) (by decide)))
  have g3 : ∀ a, a ≠ 100 → a < 124 ∨ 128 < a → a ≠ 104 → a ≠ 110 → a ≠ 112 → a ≠ 113 → m3 a = m a := fun a q1 q2 q3 q4 q5 q6 => (f3.1 a (by simp only [List.mem_cons, List.not_mem_nil, or_false, not_or]; exact ⟨q3, q4, q5, q6⟩) q1).trans (g2 a q1 q2)
  have k3 : ∀ k, k ≠ 44 → k ≠ 45 → k ≠ 46 → m3 100 k = m 100 k := fun k q1 q2 q3 => (f3.2 k (by simpa using q1)).trans (k2 k q1 q2 q3)
  have oAe : ∀ p, oA m2 Q p = oA m Q p := fun p => by unfold oA; rw [g2 104 (by decide) (by decide)]
  have pAe : ∀ s, pA m2 Q s = pA m Q s := fun s => by unfold pA; rw [g2 110 (by decide) (by decide)]
  have hS3 : MS m3 nc Q := by
    unfold MS at *
    rw [f3.1 124 (by decide) (by decide), f3.1 125 (by decide) (by decide), f3.1 126 (by decide) (by decide)]
    exact hS2
  obtain ⟨f, j4, a4, u4⟩ := tz_mpB (R := R) hM hV3 h20 (Q := Q) (fun s h1 h2 => by rw [g3 106 (by decide) (by decide) (by decide) (by decide) (by decide) (by decide)]; exact (hQ.2.2 s h1 h2).1) hS3 (by rw [eN3]; exact hPI) j3
  have uAe : ∀ p, uA m3 Q p = uA m Q p := fun p => by unfold uA; rw [g3 106 (by decide) (by decide) (by decide) (by decide) (by decide) (by decide), g3 103 (by decide) (by decide) (by decide) (by decide) (by decide) (by decide)]
  rw [eN3] at u4
  simp only [uAe] at u4
  have hr : ∀ p, 0 ≤ p → p < mN m → 0 ≤ uA m Q p ∧ uA m Q p ≤ 3 := by
    intro p p0 p1
    unfold uA
    split
    next h =>
      rcases hPI.2 p with h1 | ⟨-, -, h1, h2, -⟩
      · omega
      · have := (hQ.2.2 _ h1 h2).1; omega
    next => exact (hV.2.2 p p0 p1).2.2
  have r4 : ∀ a, a ≠ 103 → zpr m3 103 f a = m3 a := fun a h => zpr_ne h
  have k4 : ∀ k, k ≠ 44 → k ≠ 45 → k ≠ 46 → zpr m3 103 f 100 k = m 100 k := fun k q1 q2 q3 => by rw [r4 100 (by decide)]; exact k3 k q1 q2 q3
  have eN4 : mN (zpr m3 103 f) = mN m := mN_e (k4 0 (by decide) (by decide) (by decide)) (k4 1 (by decide) (by decide) (by decide))
  have hV4 : MV (zpr m3 103 f) := MV_e (m := m) (k4 0 (by decide) (by decide) (by decide)) (k4 1 (by decide) (by decide) (by decide)) (by rw [r4 101 (by decide)]; exact g3 101 (by decide) (by decide) (by decide) (by decide) (by decide) (by decide)) (by rw [r4 102 (by decide)]; exact g3 102 (by decide) (by decide) (by decide) (by decide) (by decide) (by decide)) (fun q q0 q1 => by rw [zpr_at, u4 q q0 q1]; exact hr q q0 q1) hV
  have hL4 : ML (zpr m3 103 f) ln L := ML_e (m := m) (k4 8 (by decide) (by decide) (by decide)) (by rw [r4 105 (by decide)]; exact g3 105 (by decide) (by decide) (by decide) (by decide) (by decide) (by decide)) hL
  obtain ⟨w, j5, a5, w5⟩ := tz_mpC (R := R) hM hV4 hL4 (by rw [r4 100 (by decide), f3.2 46 (by decide)]; exact k44.2.2) j4
  rw [eN4] at a5 w5
  have o4 : ∀ p, 0 ≤ p → p < mN m → zpr m3 103 f 104 p = oA m Q p := fun p h1 h2 => by rw [r4 104 (by decide), o3 p h1 h2, oAe]
  have wCe : ∀ p, 0 ≤ p → p < mN m → wC (zpr m3 103 f) ln L p = mW m ln L Q p := by
    intro p p0 p1
    unfold wC mW
    rw [eN4, k4 0 (by decide) (by decide) (by decide), k4 6 (by decide) (by decide) (by decide), r4 101 (by decide), g3 101 (by decide) (by decide) (by decide) (by decide) (by decide) (by decide), zpr_at, u4 p p0 p1]
    exact zworth_congr (fun q q0 q1 => ⟨rfl, u4 q q0 q1⟩) _ _
  have tCe : zsum (tC (zpr m3 103 f) ln L) (mN m).toNat = zsum (mTf m ln L Q) (mN m).toNat := by
    apply zsum_congr
    intro p p0 p1
    have p1 : p < mN m := by omega
    unfold tC mTf
    rw [o4 p p0 p1, wCe p p0 p1, zpr_at, u4 p p0 p1, k4 6 (by decide) (by decide) (by decide)]
  rw [tCe] at a5
  have bT : 0 ≤ zsum (mTf m ln L Q) (mN m).toNat ∧ zsum (mTf m ln L Q) (mN m).toNat ≤ 5120000 := by
    rw [← tCe]
    have := zsum_bd (f := tC (zpr m3 103 f) ln L) (n := (mN m).toNat) (lo := 0) (hi := 80000) (fun j _ _ => tC_bd hV4 hL4 j)
    omega
  generalize hT : zsum (mTf m ln L Q) (mN m).toNat = T at *
  obtain ⟨m5, h5⟩ : ∃ M, zpr (zpr (zpr m3 103 f) 129 w) 100 (zrw (zpr m3 103 f 100) 46 T) = M := ⟨_, rfl⟩
  rw [h5] at a5
  have r5 : ∀ a, a ≠ 100 → a ≠ 129 → m5 a = zpr m3 103 f a := fun a q1 q2 => by rw [← h5, zpr_ne q1, zpr_ne q2]
  have w129 : m5 129 = w := by rw [← h5, zpr_ne (by decide), zpr_at]
  have k5 : ∀ k, k ≠ 46 → m5 100 k = zpr m3 103 f 100 k := fun k q => by rw [← h5, zpr_at, zrw_ne q]
  have k546 : m5 100 46 = T := by rw [← h5, zpr_at, zrw_at]
  have k5b : ∀ k, k ≠ 44 → k ≠ 45 → k ≠ 46 → m5 100 k = m 100 k := fun k q1 q2 q3 => (k5 k q3).trans (k4 k q1 q2 q3)
  have eN5 : mN m5 = mN m := mN_e (k5b 0 (by decide) (by decide) (by decide)) (k5b 1 (by decide) (by decide) (by decide))
  have hV5 : MV m5 := MV_e (m := zpr m3 103 f) (k5 0 (by decide)) (k5 1 (by decide)) (r5 101 (by decide) (by decide)) (r5 102 (by decide) (by decide)) (fun q q0 q1 => by rw [r5 103 (by decide) (by decide)]; exact (hV4.2.2 q q0 q1).2.2) hV4
  have hL5 : ML m5 ln L := ML_e (m := zpr m3 103 f) (k5 8 (by decide)) (r5 105 (by decide) (by decide)) hL4
  have o5 : ∀ p, 0 ≤ p → p < mN m → m5 104 p = oA m Q p := fun p h1 h2 => by rw [r5 104 (by decide) (by decide)]; exact o4 p h1 h2
  have u5 : ∀ p, 0 ≤ p → p < mN m → m5 103 p = uA m Q p := fun p h1 h2 => by rw [r5 103 (by decide) (by decide), zpr_at]; exact u4 p h1 h2
  have oAr : ∀ p, 0 ≤ p → p < mN m → oA m Q p = -4 ∨ (0 ≤ oA m Q p ∧ oA m Q p < nc) := by
    intro p p0 p1
    unfold oA
    split
    next h => rcases hPI.2 p with h1 | ⟨-, -, h1, h2, -⟩
              · omega
              · exact Or.inr ⟨h1, h2⟩
    next => exact ho p p0 p1
  obtain ⟨m6, j6, a6, f6, c6, u6, s6⟩ := tz_mpD (R := R) hM hV5 hL5 (fun p p0 p1 => by rw [eN5] at p1; rw [o5 p p0 p1]; have := oAr p p0 p1; omega) (by rw [k5 45 (by decide), r4 100 (by decide), f3.2 45 (by decide)]; exact k44.2.1) j5
  have lDe : ∀ p, 0 ≤ p → p < mN m → lD m5 ln L p = mLv m ln L Q p := by
    intro p p0 p1
    unfold lD mLv
    rw [o5 p p0 p1, u5 p p0 p1, k5b 6 (by decide) (by decide) (by decide), w129, decide_eq_decide]
    constructor
    · rintro ⟨q1, q2, q3⟩
      rw [w5 p p0 p1 (by rw [o4 p p0 p1]; exact q1), wCe p p0 p1] at q3
      exact ⟨q1, q2, q3⟩
    · rintro ⟨q1, q2, q3⟩
      rw [← wCe p p0 p1, ← w5 p p0 p1 (by rw [o4 p p0 p1]; exact q1)] at q3
      exact ⟨q1, q2, q3⟩
  rw [eN5] at a6 c6 u6 s6
  rw [zcnt_congr (f := lD m5 ln L) (g := mLv m ln L Q) (fun p h1 h2 => lDe p h1 (by omega))] at c6
  have hV6 : MV m6 := MV_ME f6 (by decide) (by decide) (fun q q0 q1 => by
    rw [eN5] at q1
    rw [(u6 q q0 q1).1, u5 q q0 q1]
    split
    · omega
    · exact hr q q0 q1) hV5
  have eN6 : mN m6 = mN m := (mN_e (f6.2 0 (by decide)) (f6.2 1 (by decide))).trans eN5
  have k67 : m6 100 7 = m 100 7 := (f6.2 7 (by decide)).trans (k5b 7 (by decide) (by decide) (by decide))
  have k646 : m6 100 46 = T := (f6.2 46 (by decide)).trans k546
  have fin := tz_mgD3 (R := R) hM hV6 (l2 := j6) (by rw [k67, k646]; exact zw_i (by omega) (by omega))
  rw [eN6, k67, k646] at fin
  refine ⟨zpr m6 100 (zrw (m6 100) 7 (m 100 7 + T)), Q, hfin, hPI, by rw [st, a3, a4, a5, a6, fin], ?_⟩
  have r7 : ∀ a, a ≠ 100 → zpr m6 100 (zrw (m6 100) 7 (m 100 7 + T)) a = m6 a := fun a h => zpr_ne h
  have k7 : ∀ k, k ≠ 7 → zpr m6 100 (zrw (m6 100) 7 (m 100 7 + T)) 100 k = m6 100 k := fun k h => by rw [zpr_at, zrw_ne h]
  refine ⟨⟨fun a ha hb => ?_, fun k hk => ?_⟩, ?_, ?_, ?_, ?_, ?_, ?_⟩
  · simp only [List.mem_cons, List.not_mem_nil, or_false, not_or] at ha
    rw [r7 a hb, f6.1 a (by simp only [List.mem_cons, List.not_mem_nil, or_false, not_or]; omega) hb, r5 a hb (by omega), r4 a (by omega)]
    exact g3 a hb (by omega) (by omega) (by omega) (by omega) (by omega)
  · simp only [List.mem_cons, List.not_mem_nil, or_false, not_or] at hk
    rw [k7 k (by omega), f6.2 k (by simp only [List.mem_cons, List.not_mem_nil, or_false]; omega)]
    exact k5b k (by omega) (by omega) (by omega)
  · rw [zpr_at, zrw_at, hT]
  · rw [k7 44 (by decide), f6.2 44 (by decide), k5 44 (by decide), r4 100 (by decide), c3]
  · rw [k7 45 (by decide), c6]
  · rw [k7 46 (by decide), k646, hT]
  · intro p p0 p1
    rw [r7 103 (by decide), r7 104 (by decide), (u6 p p0 p1).1, (u6 p p0 p1).2, lDe p p0 p1, u5 p p0 p1, o5 p p0 p1]
    exact ⟨rfl, rfl⟩
  · intro s s0 s1
    have ez : zany (fun p => lD m5 ln L p && decide (m5 104 p = s)) (mN m).toNat = zany (fun p => mLv m ln L Q p && decide (oA m Q p = s)) (mN m).toNat := zany_congr (fun p h1 h2 => by rw [lDe p h1 (by omega), o5 p h1 (by omega)])
    have q3 := s3 s s0 s1
    rw [r7 110 (by decide), r7 111 (by decide), r7 112 (by decide), r7 113 (by decide), (s6 s).1, (s6 s).2, ez, f6.1 112 (by decide) (by decide), f6.1 113 (by decide) (by decide), r5 110 (by decide) (by decide), r5 111 (by decide) (by decide), r5 112 (by decide) (by decide), r5 113 (by decide) (by decide), r4 110 (by decide), r4 111 (by decide), r4 112 (by decide), r4 113 (by decide), q3.1, q3.2.1, q3.2.2, pAe, g3 111 (by decide) (by decide) (by decide) (by decide) (by decide) (by decide), g2 112 (by decide) (by decide), g2 113 (by decide) (by decide), k2 6 (by decide) (by decide) (by decide)]
    exact ⟨rfl, rfl, rfl, rfl⟩
end MGOY
