/-! the relation stays over a year -/
section RELY
variable {m w m' w' : zM} {t : Int}
theorem YR_fr {Q : zP} (h : YR m m' t Q) {k : Int} (hk : (1 ≤ k ∧ k ≤ 3) ∨ (6 ≤ k ∧ k ≤ 13)) : m' (t + k) = m (t + k) := h.1 _ (by simp only [List.mem_cons, List.not_mem_nil, or_false, not_or]; omega)
theorem TR_year (h : TR m w t) {Q : zP} (hP : zPI (mN w) (w 100 10) Q) (h2 : zfin (mN w) (m (t + 9) 0) (mwai w) (mca w (m (t + 7) 0) (m (t + 8))) (w 107) (mva w (m (t + 7) 0) (m (t + 8))) Q) (hY : YR m m' t Q) (hM : MYR w w' (m (t + 7) 0) (m (t + 9) 0) (m (t + 8)) Q) : (RB m' w' t ∧ RW m' w' t ∧ RSe m' w' t) ∧ m' t 4 = w' 100 7 ∧ zcnt (gLv m t Q) (w 100 10).toNat = zcnt (mLv w (m (t + 7) 0) (m (t + 8)) Q) (mN w).toNat ∧ gTx m t Q = zsum (mTf w (m (t + 7) 0) (m (t + 8)) Q) (mN w).toNat ∧ gUs m t Q = mN w - zuses (mN w) (w' 103) 0 ∧ (∀ p, 0 ≤ p → p < mN w → gU2 m t Q p = w' 103 p) := by
  obtain ⟨A, B⟩ := TR_own h hP h2
  have hn := MV_n h.1.2.1
  have hnc := h.2.2.1.1
  have enc := h.2.2.1.2.1
  have en := RB_n h.1
  have hLvS : ∀ s, 0 ≤ s → s < w 100 10 → gLv m t Q s = true → 0 ≤ pA w Q s ∧ pA w Q s < mN w ∧ mLv w (m (t + 7) 0) (m (t + 8)) Q (pA w Q s) = true ∧ oA w Q (pA w Q s) = s := by
    intro s s0 s1 hl
    rcases A s s0 s1 with a | a
    · rw [TR_Lv4 h s0 s1 a] at hl; cases hl
    · exact ⟨a.1, a.2.1, by rw [← TR_Lv h hP s0 s1 a]; exact hl, a.2.2.1⟩
  have hLvP : ∀ p, 0 ≤ p → p < mN w → mLv w (m (t + 7) 0) (m (t + 8)) Q p = true → 0 ≤ oA w Q p ∧ oA w Q p < w 100 10 ∧ gLv m t Q (oA w Q p) = true ∧ pA w Q (oA w Q p) = p := by
    intro p p0 p1 hl
    rcases B p p0 p1 with b | b
    · unfold mLv at hl; rw [b] at hl; simp at hl
    · have a := A _ b.1 b.2.1
      rcases a with a | a
      · rw [b.2.2] at a; omega
      · have := TR_Lv h hP b.1 b.2.1 a
        rw [b.2.2] at this
        exact ⟨b.1, b.2.1, by rw [this]; exact hl, b.2.2⟩
  have hU2 : ∀ p, 0 ≤ p → p < mN w → gU2 m t Q p = if mLv w (m (t + 7) 0) (m (t + 8)) Q p = true then 0 else uA w Q p := by
    intro p p0 p1
    unfold gU2
    rw [TR_U1 h hP p p0 p1, enc]
    have e : (zany (fun s => gLv m t Q s && decide (gP1 m t Q s = p)) (w 100 10).toNat = true) ↔ mLv w (m (t + 7) 0) (m (t + 8)) Q p = true := by
      rw [zany_iff]
      constructor
      · rintro ⟨s, s0, s1, hs⟩
        simp only [Bool.and_eq_true, decide_eq_true_eq] at hs
        have s1 : s < w 100 10 := by omega
        rw [TR_P1 h s s0 s1] at hs
        have := hLvS s s0 s1 hs.1
        rw [hs.2] at this
        exact this.2.2.1
      · intro hl
        obtain ⟨o0, o1, o2, o3⟩ := hLvP p p0 p1 hl
        refine ⟨oA w Q p, o0, by omega, ?_⟩
        simp only [Bool.and_eq_true, decide_eq_true_eq]
        rw [TR_P1 h _ o0 o1]
        exact ⟨o2, o3⟩
    by_cases c : mLv w (m (t + 7) 0) (m (t + 8)) Q p = true
    · rw [if_pos c, if_pos (e.2 c)]
    · rw [if_neg c, if_neg (fun z => c (e.1 z))]
  have hS2 : ∀ s, 0 ≤ s → s < w 100 10 → ((zany (fun p => mLv w (m (t + 7) 0) (m (t + 8)) Q p && decide (oA w Q p = s)) (mN w).toNat = true) ↔ gLv m t Q s = true) := by
    intro s s0 s1
    rw [zany_iff]
    constructor
    · rintro ⟨p, p0, p1, hs⟩
      simp only [Bool.and_eq_true, decide_eq_true_eq] at hs
      have := hLvP p p0 (by omega) hs.1
      rw [hs.2] at this
      exact this.2.2.1
    · intro hl
      obtain ⟨o0, o1, o2, o3⟩ := hLvS s s0 s1 hl
      refine ⟨pA w Q s, o0, by omega, ?_⟩
      simp only [Bool.and_eq_true, decide_eq_true_eq]
      exact ⟨o2, o3⟩
  obtain ⟨fM, M7, -, -, -, MP, MSs⟩ := hM
  obtain ⟨-, YG, -, Y4, YU, YS, -⟩ := id hY
  have fY : ∀ k : Int, (1 ≤ k ∧ k ≤ 3) ∨ (6 ≤ k ∧ k ≤ 13) → m' (t + k) = m (t + k) := fun k hk => YR_fr hY hk
  clear hY
  have eN : mN w' = mN w := mN_e (fM.2 0 (by decide)) (fM.2 1 (by decide))
  have e10 : w' 100 10 = w 100 10 := fM.2 10 (by decide)
  have hur : ∀ p, 0 ≤ p → p < mN w → 0 ≤ uA w Q p ∧ uA w Q p ≤ 3 := by
    intro p p0 p1
    unfold uA
    split
    next c =>
      rcases hP.2 p with d | ⟨-, -, d0, d1, -⟩
      · omega
      · have := (h.2.2.1.2.2.1 _ d0 d1).1.1; omega
    next => exact (h.1.2.1.2.2 p p0 p1).2.2
  have eU2 : ∀ p, 0 ≤ p → p < mN w → gU2 m t Q p = w' 103 p := fun p p0 p1 => (hU2 p p0 p1).trans (MP p p0 p1).1.symm
  have hV' : MV w' := MV_ME fM (by decide) (by decide) (fun p p0 p1 => by
    rw [(MP p p0 p1).1]
    have := hur p p0 p1
    split <;> omega) h.1.2.1
  have eTx : gTx m t Q = zsum (mTf w (m (t + 7) 0) (m (t + 8)) Q) (mN w).toNat := by
    unfold gTx mTf
    rw [enc]
    have e1 : zsum (fun s => if gP1 m t Q s = -4 then 0 else ztax (znum (m (t + 8)) 2 (m (t + 10) s) (m t 3) (m (t + 7) 0).toNat).1 (gW m t Q s)) (w 100 10).toNat = zsum (fun s => if pA w Q s = -4 then 0 else ztax (znum (m (t + 8)) 2 (m (t + 10) s) (m t 3) (m (t + 7) 0).toNat).1 (gW m t Q s)) (w 100 10).toNat := zsum_congr (fun s s0 s1 => by rw [TR_P1 h s s0 (by omega)])
    rw [e1]
    exact zsum_bij (fun s s0 s1 => by
      have s1 : s < w 100 10 := by omega
      rcases A s s0 s1 with a | a
      · left; exact a
      · right
        exact ⟨a.1, by omega, a.2.2.1, TR_Tx h hP s0 s1 a⟩) (fun p p0 p1 => by
      rcases B p p0 (by omega) with b | b
      · left; exact b
      · right; exact ⟨b.1, by omega, b.2.2⟩)
  have eLv : zcnt (gLv m t Q) (w 100 10).toNat = zcnt (mLv w (m (t + 7) 0) (m (t + 8)) Q) (mN w).toNat := by
    rw [zcnt_sum, zcnt_sum]
    have e1 : zsum (fun s => if gLv m t Q s = true then 1 else 0) (w 100 10).toNat = zsum (fun s => if pA w Q s = -4 then 0 else if gLv m t Q s = true then 1 else 0) (w 100 10).toNat := zsum_congr (fun s s0 s1 => by
      by_cases c : pA w Q s = -4
      · rw [if_pos c, TR_Lv4 h s0 (by omega) c]; rfl
      · rw [if_neg c])
    have e2 : zsum (fun p => if mLv w (m (t + 7) 0) (m (t + 8)) Q p = true then 1 else 0) (mN w).toNat = zsum (fun p => if oA w Q p = -4 then 0 else if mLv w (m (t + 7) 0) (m (t + 8)) Q p = true then 1 else 0) (mN w).toNat := zsum_congr (fun p p0 p1 => by
      by_cases c : oA w Q p = -4
      · rw [if_pos c]
        unfold mLv
        rw [c]
        simp
      · rw [if_neg c])
    rw [e1, e2]
    exact zsum_bij (fun s s0 s1 => by
      have s1 : s < w 100 10 := by omega
      rcases A s s0 s1 with a | a
      · left; exact a
      · right
        exact ⟨a.1, by omega, a.2.2.1, by rw [TR_Lv h hP s0 s1 a]⟩) (fun p p0 p1 => by
      rcases B p p0 (by omega) with b | b
      · left; exact b
      · right; exact ⟨b.1, by omega, b.2.2⟩)
  have eUs : gUs m t Q = mN w - zuses (mN w) (w' 103) 0 := by
    unfold gUs
    rw [en, zuses_congr eU2 1, zuses_congr eU2 2, zuses_congr eU2 3]
    exact zuses_all' (by omega) (fun p p0 p1 => by rw [← eN] at p1; exact (hV'.2.2 p p0 p1).2.2)
  refine ⟨⟨⟨⟨YG.1, YG.2.1, YG.2.2.1⟩, hV', ?_, ?_, ?_⟩, ⟨?_, ?_, ?_⟩, ⟨?_, ?_, ?_, ?_⟩⟩, ?_, eLv, eTx, eUs, eU2⟩
  · rw [fY 1 (by omega), fM.2 0 (by decide)]; exact h.1.2.2.1
  · rw [fY 1 (by omega), fM.2 1 (by decide)]; exact h.1.2.2.2.1
  · intro p p0 p1
    rw [eN] at p1
    have := h.1.2.2.2.2 p p0 p1
    rw [fY 2 (by omega), fY 3 (by omega), fM.1 101 (by decide) (by decide), fM.1 102 (by decide) (by decide)]
    exact ⟨this.1, this.2.1, by rw [YU p p0 (by rw [en]; exact p1)]; exact eU2 p p0 p1⟩
  · rw [fM.2 8 (by decide), fY 7 (by omega)]; exact h.2.1.1
  · rw [fY 7 (by omega), fY 8 (by omega)]; exact h.2.1.2.1
  · rw [fY 7 (by omega), fY 8 (by omega), fM.1 105 (by decide) (by decide)]; exact h.2.1.2.2
  · rw [e10]; exact hnc
  · rw [e10, fY 9 (by omega)]; exact enc
  · intro s s0 s1
    rw [e10] at s1
    obtain ⟨a, b, c⟩ := h.2.2.1.2.2.1 s s0 s1
    obtain ⟨b1, b2, b3, b4, b5, b6, b7, b8⟩ := b
    obtain ⟨y1, y2, y3, y4⟩ := YS s s0 (by rw [enc]; exact s1)
    obtain ⟨z1, z2, z3, z4⟩ := MSs s s0 (by rw [enc]; exact s1)
    have eS := hS2 s s0 s1
    have hag := TR_zag h
    have P1 := TR_P1 h (Q := Q) s s0 s1
    have As := A s s0 s1
    have f6 := fM.1 106 (by decide) (by decide)
    refine ⟨?_, ⟨?_, ?_, ?_, ?_, ?_, ?_, ?_, ?_⟩, ?_⟩
    · rw [f6, fM.1 107 (by decide) (by decide), fM.1 108 (by decide) (by decide)]; exact a
    · rw [f6, fY 10 (by omega)]; exact b1
    · rw [fM.1 107 (by decide) (by decide), fY 11 (by omega)]; exact b2
    · rw [fM.1 108 (by decide) (by decide), fY 12 (by omega)]; exact b3
    · rw [fM.1 109 (by decide) (by decide), fY 13 (by omega)]; exact b4
    · rw [y1, z1, P1]
      by_cases d : gLv m t Q s = true
      · rw [if_pos d, if_pos (eS.2 d)]
      · rw [if_neg d, if_neg (fun z => d (eS.1 z))]
    · rw [y2, z2, b6]
      by_cases d : gLv m t Q s = true
      · rw [if_pos d, if_pos (eS.2 d)]
      · rw [if_neg d, if_neg (fun z => d (eS.1 z))]
    · rw [y3, z3, b7]
      by_cases d : 0 ≤ Q.1 s
      · rw [if_pos d, if_pos d]
        have q : Q.1 s < mN w := by rcases hP.1 s s0 s1 with q | q <;> omega
        exact zbid_congr hag ⟨s0, s1⟩ ⟨d, q⟩
      · rw [if_neg d, if_neg d]
    · rw [y4, z4, b8, h.2.2.2.2.2.1]
    · rw [z1, eN, f6]
      by_cases d : gLv m t Q s = true
      · left; rw [if_pos (eS.2 d)]
      · rw [if_neg (fun z => d (eS.1 z))]
        rcases As with a1 | a1
        · left; exact a1
        · right
          have hm : ¬ mLv w (m (t + 7) 0) (m (t + 8)) Q (pA w Q s) = true := fun z => d (by rw [TR_Lv h hP s0 s1 a1]; exact z)
          obtain ⟨v1, v2⟩ := MP _ a1.1 a1.2.1
          rw [v1, v2, if_neg hm, if_neg hm]
          exact a1
  · intro p p0 p1
    rw [eN] at p1
    obtain ⟨v1, v2⟩ := MP p p0 p1
    rw [v2, e10]
    by_cases d : mLv w (m (t + 7) 0) (m (t + 8)) Q p = true
    · left; rw [if_pos d]
    · rw [if_neg d]
      rcases B p p0 p1 with b | b
      · left; exact b
      · right
        refine ⟨b.1, b.2.1, ?_⟩
        obtain ⟨z1, -⟩ := MSs _ b.1 (by rw [enc]; exact b.2.1)
        rw [z1, if_neg]
        · exact b.2.2
        · intro z
          have := (hS2 _ b.1 b.2.1).1 z
          have := hLvS _ b.1 b.2.1 this
          rw [b.2.2] at this
          exact d this.2.2.1
  · rw [Y4, M7, eTx, h.2.2.2.2.2.2]
end RELY
