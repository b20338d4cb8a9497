/-! the relation of a town of the class (memory m, the town at t) and the model's town (memory w) -/
def RB (m w : zM) (t : Int) : Prop := (BV m (t + 1) ∧ NV m (t + 1) ∧ TV m (t + 1)) ∧ MV w ∧ m (t + 1) 0 = w 100 0 ∧ m (t + 1) 1 = w 100 1 ∧ ∀ p, 0 ≤ p → p < mN w → m (t + 2) p = w 101 p ∧ m (t + 3) p = w 102 p ∧ m (t + 4) p = w 103 p
def RW (m w : zM) (t : Int) : Prop := ML w (m (t + 7) 0) (m (t + 8))
def RSe (m w : zM) (t : Int) : Prop := (0 ≤ w 100 10 ∧ w 100 10 ≤ 20) ∧ m (t + 9) 0 = w 100 10 ∧ (∀ s, 0 ≤ s → s < w 100 10 → ((1 ≤ w 106 s ∧ w 106 s ≤ 3) ∧ (1 ≤ w 107 s ∧ w 107 s ≤ 999) ∧ (-9 ≤ w 108 s ∧ w 108 s ≤ 9)) ∧ (m (t + 10) s = w 106 s ∧ m (t + 11) s = w 107 s ∧ m (t + 12) s = w 108 s ∧ m (t + 13) s = w 109 s ∧ m (t + 14) s = w 110 s ∧ m (t + 15) s = w 111 s ∧ m (t + 16) s = w 112 s ∧ m (t + 17) s = w 113 s) ∧ (w 110 s = -4 ∨ (0 ≤ w 110 s ∧ w 110 s < mN w ∧ w 104 (w 110 s) = s ∧ w 103 (w 110 s) = w 106 s))) ∧ ∀ p, 0 ≤ p → p < mN w → w 104 p = -4 ∨ (0 ≤ w 104 p ∧ w 104 p < w 100 10 ∧ w 110 (w 104 p) = p)
def RYr (m w : zM) (t : Int) : Prop := (0 ≤ m t 3 ∧ m t 3 ≤ 24) ∧ (0 ≤ m t 4 ∧ m t 4 ≤ 1600000 * m t 3) ∧ m t 3 = w 100 6 ∧ m t 4 = w 100 7
def TR (m w : zM) (t : Int) : Prop := RB m w t ∧ RW m w t ∧ RSe m w t ∧ RYr m w t
section REL
variable {m w m' w' : zM} {t : Int}
theorem RB_n (h : RB m w t) : m (t + 1) 2 = mN w := by
  rw [h.1.1.2.2.2.2.1, h.2.2.1, h.2.2.2.1]; rfl
theorem TR_TG (h : TR m w t) : TG m t := ⟨h.1.1.1, h.1.1.2.1, h.1.1.2.2, h.2.1.2.1⟩
theorem TR_SQ (h : TR m w t) : SQ m t := by
  refine ⟨by rw [h.2.2.1.2.1]; exact h.2.2.1.1, ?_⟩
  intro s s0 s1
  rw [h.2.2.1.2.1] at s1
  obtain ⟨a, b, c⟩ := h.2.2.1.2.2.1 s s0 s1
  obtain ⟨b1, b2, b3, b4, b5, -⟩ := b
  rw [b1, b2, b3, b5, RB_n h.1]
  exact ⟨a.1, a.2.1, a.2.2, c.elim (fun c => Or.inl c) (fun c => Or.inr ⟨c.1, c.2.1⟩)⟩
theorem TR_MQ (h : TR m w t) : MQ2 w (m (t + 9) 0) := by
  rw [h.2.2.1.2.1]
  exact ⟨rfl, h.2.2.1.1, fun s s0 s1 => (h.2.2.1.2.2.1 s s0 s1).1⟩
theorem TR_ow (h : TR m w t) : ∀ p, 0 ≤ p → p < mN w → w 104 p = -4 ∨ (0 ≤ w 104 p ∧ w 104 p < m (t + 9) 0) := by
  intro p p0 p1
  rw [h.2.2.1.2.1]
  rcases h.2.2.1.2.2.2 p p0 p1 with c | c
  · left; exact c
  · right; exact ⟨c.1, c.2.1⟩
theorem zmay_congr {n v ln y : Int} {G G' U U' L : Int → Int} (h : ∀ q, 0 ≤ q → q < n → G q = G' q ∧ U q = U' q) {p : Int} (hp : 0 ≤ p ∧ p < n) (u : Int) : zmay n v ln y G U L p u = zmay n v ln y G' U' L p u := by
  unfold zmay
  rw [(h p hp.1 hp.2).1, (h p hp.1 hp.2).2, zuses_congr (fun q q0 q1 => (h q q0 q1).2)]
theorem TR_GU (h : RB m w t) : ∀ q, 0 ≤ q → q < mN w → m (t + 2) q = w 101 q ∧ m (t + 4) q = w 103 q := fun q q0 q1 => ⟨(h.2.2.2.2 q q0 q1).1, (h.2.2.2.2 q q0 q1).2.2⟩
theorem TR_zag (h : TR m w t) : zag (mN w) (w 100 10) (zwts m t) (mwai w) (zcas m t) (mca w (m (t + 7) 0) (m (t + 8))) (m (t + 11)) (w 107) (zvas m t) (mva w (m (t + 7) 0) (m (t + 8))) := by
  intro s s0 s1
  obtain ⟨a, b, c⟩ := h.2.2.1.2.2.1 s s0 s1
  obtain ⟨b1, b2, b3, b4, b5, b6, b7, b8⟩ := b
  refine ⟨?_, b2, ?_⟩
  · unfold zwts zwai mwai
    rw [show t + 9 + 4 = t + 13 by omega, show t + 9 + 5 = t + 14 by omega, show t + 9 + 6 = t + 15 by omega, b4, b5, b6, h.2.2.2.2.2.1]
  · intro p p0 p1
    constructor
    · unfold zcas zmys mca
      rw [RB_n h.1, h.1.2.2.1, h.2.2.2.2.2.1, b1]
      exact zmay_congr (TR_GU h.1) ⟨p0, p1⟩ _
    · unfold zvas zwor mva
      rw [RB_n h.1, h.1.2.2.1, h.2.2.2.2.2.1, b1, b3, zworth_congr (TR_GU h.1), (h.1.2.2.2.2 p p0 p1).2.1]
/-- the two years come to the same bids -/
theorem TR_fin (h : TR m w t) {Q Q' : zP} (h1 : zfin (m (t + 1) 2) (m (t + 9) 0) (zwts m t) (zcas m t) (m (t + 11)) (zvas m t) Q) (h2 : zfin (mN w) (m (t + 9) 0) (mwai w) (mca w (m (t + 7) 0) (m (t + 8))) (w 107) (mva w (m (t + 7) 0) (m (t + 8))) Q') : Q' = Q := by
  rw [h.2.2.1.2.1] at h1 h2
  rw [RB_n h.1] at h1
  have := zfin_congr h.2.2.1.1.1 (TR_zag h) h1
  exact zfin_uniq h2 this
/-- what holds of the bids that have settled, and of owners -/
theorem TR_own (h : TR m w t) {Q : zP} (hP : zPI (mN w) (w 100 10) Q) (h2 : zfin (mN w) (m (t + 9) 0) (mwai w) (mca w (m (t + 7) 0) (m (t + 8))) (w 107) (mva w (m (t + 7) 0) (m (t + 8))) Q) : (∀ s, 0 ≤ s → s < w 100 10 → pA w Q s = -4 ∨ (0 ≤ pA w Q s ∧ pA w Q s < mN w ∧ oA w Q (pA w Q s) = s ∧ uA w Q (pA w Q s) = w 106 s)) ∧ ∀ p, 0 ≤ p → p < mN w → oA w Q p = -4 ∨ (0 ≤ oA w Q p ∧ oA w Q p < w 100 10 ∧ pA w Q (oA w Q p) = p) := by
  rw [h.2.2.1.2.1] at h2
  obtain ⟨w1, w2⟩ := zfin_PW h.2.2.1.1.1 h2
  have W1 : ∀ s, 0 ≤ s → s < w 100 10 → 0 ≤ Q.1 s → w 110 s = -4 := by
    intro s s0 s1 s2
    have := w1 s s0 s1 s2
    unfold mwai at this
    exact (of_decide_eq_true this).2.1
  have W2 : ∀ p, 0 ≤ Q.2.2 p → w 103 p = 0 := by
    intro p p0
    have := w2 p p0
    unfold mca zmay at this
    simp only [Bool.and_eq_true, decide_eq_true_eq] at this
    exact this.1.1.2
  obtain ⟨-, -, hs, ho⟩ := h.2.2.1
  clear h h2 w1 w2
  constructor
  · intro s s0 s1
    unfold pA
    by_cases c : 0 ≤ Q.1 s
    · rw [if_pos c]
      right
      rcases hP.1 s s0 s1 with d | ⟨-, d1, d2, -⟩
      · omega
      · refine ⟨c, d1, ?_, ?_⟩
        · unfold oA; rw [d2, if_pos s0]
        · unfold uA; rw [d2, if_pos s0]
    · rw [if_neg c]
      obtain ⟨a, -, d⟩ := hs s s0 s1
      rcases d with d | ⟨d0, d1, d2, d3⟩
      · left; exact d
      · right
        have e : ¬ 0 ≤ Q.2.2 (w 110 s) := fun e => by have := W2 _ e; omega
        refine ⟨d0, d1, ?_, ?_⟩
        · unfold oA; rw [if_neg e]; exact d2
        · unfold uA; rw [if_neg e]; exact d3
  · intro p p0 p1
    unfold oA
    by_cases c : 0 ≤ Q.2.2 p
    · rw [if_pos c]
      right
      rcases hP.2 p with d | ⟨-, -, d0, d1, d2⟩
      · omega
      · refine ⟨c, d1, ?_⟩
        unfold pA; rw [d2, if_pos p0]
    · rw [if_neg c]
      rcases ho p p0 p1 with d | ⟨d0, d1, d2⟩
      · left; exact d
      · right
        have e : ¬ 0 ≤ Q.1 (w 104 p) := fun e => by have := W1 _ d0 d1 e; omega
        refine ⟨d0, d1, ?_⟩
        unfold pA; rw [if_neg e]; exact d2
theorem TR_U1 (h : TR m w t) {Q : zP} (hP : zPI (mN w) (w 100 10) Q) : ∀ p, 0 ≤ p → p < mN w → gU1 m t Q p = uA w Q p := by
  intro p p0 p1
  unfold gU1 uA
  split
  next c =>
    rcases hP.2 p with d | ⟨-, -, d0, d1, d2⟩
    · omega
    · exact (h.2.2.1.2.2.1 _ d0 d1).2.1.1
  next => exact (h.1.2.2.2.2 p p0 p1).2.2
theorem TR_P1 (h : TR m w t) {Q : zP} : ∀ s, 0 ≤ s → s < w 100 10 → gP1 m t Q s = pA w Q s := by
  intro s s0 s1
  unfold gP1 pA
  rw [(h.2.2.1.2.2.1 s s0 s1).2.1.2.2.2.2.1]
theorem TR_W (h : TR m w t) {Q : zP} (hP : zPI (mN w) (w 100 10) Q) {s : Int} (s0 : 0 ≤ s) (s1 : s < w 100 10) (hu : uA w Q (pA w Q s) = w 106 s) : gW m t Q s = mW w (m (t + 7) 0) (m (t + 8)) Q (pA w Q s) := by
  unfold gW mW
  rw [RB_n h.1, h.1.2.2.1, h.2.2.2.2.2.1, (h.2.2.1.2.2.1 s s0 s1).2.1.1, TR_P1 h s s0 s1, hu]
  exact zworth_congr (fun q q0 q1 => ⟨(h.1.2.2.2.2 q q0 q1).1, TR_U1 h hP q q0 q1⟩) _ _
theorem TR_Lv (h : TR m w t) {Q : zP} (hP : zPI (mN w) (w 100 10) Q) {s : Int} (s0 : 0 ≤ s) (s1 : s < w 100 10) (hs : 0 ≤ pA w Q s ∧ pA w Q s < mN w ∧ oA w Q (pA w Q s) = s ∧ uA w Q (pA w Q s) = w 106 s) : gLv m t Q s = mLv w (m (t + 7) 0) (m (t + 8)) Q (pA w Q s) := by
  have hW := TR_W h hP s0 s1 hs.2.2.2
  have hn := zlmt_num (h.2.1).2.1 (show (2 : Int) ≤ 4 by omega) (w 106 s) (w 100 6)
  unfold gLv mLv
  rw [hW, TR_P1 h s s0 s1]
  unfold zlim
  rw [hs.2.2.1, hs.2.2.2, (h.2.2.1.2.2.1 s s0 s1).2.1.1, h.2.2.2.2.2.1, decide_eq_decide]
  generalize mW w (m (t + 7) 0) (m (t + 8)) Q (pA w Q s) = x at *
  generalize (znum (m (t + 8)) 4 (w 106 s) (w 100 6) (m (t + 7) 0).toNat).1 = y at *
  generalize zlmt (m (t + 7) 0).toNat (m (t + 8)) 4 (w 106 s) (w 100 6) = z at *
  obtain ⟨h1, -, -, -⟩ := hs
  clear hP h hW
  omega
theorem TR_Lv4 (h : TR m w t) {Q : zP} {s : Int} (s0 : 0 ≤ s) (s1 : s < w 100 10) (hs : pA w Q s = -4) : gLv m t Q s = false := by
  unfold gLv
  rw [TR_P1 h s s0 s1, hs]
  simp
theorem TR_Tx (h : TR m w t) {Q : zP} (hP : zPI (mN w) (w 100 10) Q) {s : Int} (s0 : 0 ≤ s) (s1 : s < w 100 10) (hs : 0 ≤ pA w Q s ∧ pA w Q s < mN w ∧ oA w Q (pA w Q s) = s ∧ uA w Q (pA w Q s) = w 106 s) : ztax (znum (m (t + 8)) 2 (m (t + 10) s) (m t 3) (m (t + 7) 0).toNat).1 (gW m t Q s) = mtax (zlmt (m (t + 7) 0).toNat (m (t + 8)) 2 (uA w Q (pA w Q s)) (w 100 6)) (mW w (m (t + 7) 0) (m (t + 8)) Q (pA w Q s)) := by
  have hW := TR_W h hP s0 s1 hs.2.2.2
  have hn := zlmt_num (h.2.1).2.1 (show (2 : Int) ≤ 2 by omega) (w 106 s) (w 100 6)
  rw [hW, hs.2.2.2, (h.2.2.1.2.2.1 s s0 s1).2.1.1, h.2.2.2.2.2.1]
  generalize mW w (m (t + 7) 0) (m (t + 8)) Q (pA w Q s) = x at *
  generalize (znum (m (t + 8)) 2 (w 106 s) (w 100 6) (m (t + 7) 0).toNat).1 = y at *
  generalize zlmt (m (t + 7) 0).toNat (m (t + 8)) 2 (w 106 s) (w 100 6) = z at *
  clear h hP hW hs
  unfold ztax mtax
  rcases hn with ⟨a, b⟩ | ⟨a, b⟩
  · subst a b
    rw [if_neg (by omega), if_pos rfl]
  · subst a
    rw [if_neg (show ¬ z = -4 by omega)]
    by_cases c : 0 < z
    · rw [if_pos c]
      by_cases d : 0 < x
      · have := Int.mul_pos d c
        rw [if_pos d]
        split <;> omega
      · have e : x * z ≤ 0 := Int.mul_nonpos_of_nonpos_of_nonneg (by omega) (by omega)
        rw [if_neg d, if_neg (by omega)]
    · have : z = 0 := by omega
      subst this
      rw [if_neg c, Int.mul_zero]
      split <;> rfl
theorem zuses_all {U : Int → Int} : ∀ n : Nat, (∀ p : Int, 0 ≤ p → p < n → 0 ≤ U p ∧ U p ≤ 3) → zuses n U 1 + zuses n U 2 + zuses n U 3 = n - zuses n U 0 := by
  intro n
  induction n with
  | zero => intro _; rfl
  | succ n ih =>
    intro h
    have ih := ih (fun p p0 p1 => h p p0 (by omega))
    have hu := h n (by omega) (by omega)
    unfold zuses at *
    rw [show ((n + 1 : Nat) : Int).toNat = n + 1 by omega]
    rw [show ((n : Nat) : Int).toNat = n by omega] at ih
    simp only [zcnt, decide_eq_true_eq]
    have : U n = 0 ∨ U n = 1 ∨ U n = 2 ∨ U n = 3 := by omega
    rcases this with e | e | e | e <;> rw [e] <;> simp <;> omega
theorem zuses_all' {n : Int} {U : Int → Int} (h0 : 0 ≤ n) (h : ∀ p : Int, 0 ≤ p → p < n → 0 ≤ U p ∧ U p ≤ 3) : zuses n U 1 + zuses n U 2 + zuses n U 3 = n - zuses n U 0 := by
  obtain ⟨k, rfl⟩ := Int.eq_ofNat_of_zero_le h0
  exact zuses_all k h
end REL
