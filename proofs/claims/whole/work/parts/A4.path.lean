/-! ways of least time: sets of places where one may be -/
def fC (w : zM) (D : Int → Int) (s t : Int) : Bool := decide (¬ ((s < 64) ↔ (t < 64)) ∧ wSt w t = true ∧ wPl w s = wPl w t ∧ D s = wTk w s t + D t)
def gC (w : zM) (D : Int → Int) (s t : Int) : Bool := decide (((s < 64) ↔ (t < 64)) ∧ s ≠ t ∧ wSt w t = true ∧ wTk w s t < 1000000 ∧ D s = wTk w s t + D t)
def zchR (w : zM) (D : Int → Int) (H : Int → Bool) : Nat → Int → Bool
  | 0 => H
  | k + 1 => fun t => zchR w D H k t || (zchR w D H k k && fC w D k t)
/-- on foot at a plot after a change; all places after a change -/
def cFo (w : zM) (D : Int → Int) (H : Int → Bool) (p : Int) : Bool := H p || (wSt w p && zany (fun a => H (64 + a) && decide (D (64 + a) = D p)) 24)
def cH (w : zM) (D : Int → Int) (H : Int → Bool) (p : Int) : Int → Bool := fun s => if s < 64 then (if s = p then cFo w D H p else false) else (H s || (cFo w D H p && decide (wSt w s = true ∧ wPl w s = p ∧ D p = D s + 2)))
/-- all are at one plot -/
def HI (w : zM) (H : Int → Bool) (p : Int) : Prop := (0 ≤ p ∧ p < 64) ∧ ∀ s, 0 ≤ s → s < 88 → H s = true → wSt w s = true ∧ wPl w s = p
section PATH
variable {w : zM} {D : Int → Int} {H : Int → Bool} {p : Int}
theorem zchR_iff (k : Nat) (t : Int) : zchR w D H k t = true ↔ (H t = true ∨ ∃ s : Nat, s < k ∧ zchR w D H s s = true ∧ fC w D s t = true) := by
  induction k with
  | zero => simp [zchR]
  | succ k ih =>
    simp only [zchR, Bool.or_eq_true, Bool.and_eq_true, ih]
    constructor
    · rintro ((h | ⟨s, s1, s2, s3⟩) | ⟨h1, h2⟩)
      · exact Or.inl h
      · exact Or.inr ⟨s, by omega, s2, s3⟩
      · exact Or.inr ⟨k, by omega, h1, h2⟩
    · rintro (h | ⟨s, s1, s2, s3⟩)
      · exact Or.inl (Or.inl h)
      · by_cases e : s = k
        · subst e; exact Or.inr ⟨s2, s3⟩
        · exact Or.inl (Or.inr ⟨s, by omega, s2, s3⟩)
theorem fC_iff (s t : Int) : fC w D s t = true ↔ (¬ ((s < 64) ↔ (t < 64)) ∧ wSt w t = true ∧ wPl w s = wPl w t ∧ D s = wTk w s t + D t) := by unfold fC; exact decide_eq_true_iff
theorem gC_iff (s t : Int) : gC w D s t = true ↔ (((s < 64) ↔ (t < 64)) ∧ s ≠ t ∧ wSt w t = true ∧ wTk w s t < 1000000 ∧ D s = wTk w s t + D t) := by unfold gC; exact decide_eq_true_iff
theorem wPl_lo {s : Int} (h : s < 64) : wPl w s = s := by unfold wPl; rw [if_pos h]
theorem wTk_off {s t : Int} (hs : 64 ≤ s) (ht : t < 64) : wTk w s t = if wPl w s = t then 0 else 1000000 := by
  unfold wTk
  rw [if_neg (by omega), if_neg (by omega), if_neg (show ¬ s < 64 by omega), wPl_lo ht]
theorem wTk_on {s t : Int} (hs : s < 64) (ht : 64 ≤ t) : wTk w s t = if s = wPl w t then 2 else 1000000 := by
  unfold wTk
  rw [if_neg (by omega), if_neg (by omega), if_pos hs, wPl_lo hs]
theorem zch_hi (hH : HI w H p) (k : Nat) {t : Int} (h64 : 64 ≤ t) : zchR w D H k t = true ↔ (H t = true ∨ (p < k ∧ H p = true ∧ fC w D p t = true)) := by
  rw [zchR_iff]
  constructor
  · rintro (h | ⟨s, s1, s2, s3⟩)
    · exact Or.inl h
    · right
      have f := (fC_iff _ _).1 s3
      have s64 : (s : Int) < 64 := by
        by_cases c : (s : Int) < 64
        · exact c
        · exact absurd ⟨fun z => absurd z c, fun z => by omega⟩ f.1
      rw [zchR_iff] at s2
      rcases s2 with q | ⟨r, r1, r2, r3⟩
      · have := hH.2 s (by omega) (by omega) q
        rw [wPl_lo s64] at this
        rw [this.2] at q s3 s64
        exact ⟨by omega, q, s3⟩
      · have f2 := (fC_iff _ _).1 r3
        exact absurd ⟨fun _ => s64, fun _ => by omega⟩ f2.1
  · rintro (h | ⟨h1, h2, h3⟩)
    · exact Or.inl h
    · right
      have e : ((p.toNat : Nat) : Int) = p := by have := hH.1; omega
      refine ⟨p.toNat, by omega, ?_, by rw [e]; exact h3⟩
      rw [zchR_iff, e]
      exact Or.inl h2
theorem zch_lo (hH : HI w H p) {t : Int} (t0 : 0 ≤ t) (h64 : t < 64) : zchR w D H 88 t = true ↔ (t = p ∧ (H p = true ∨ ∃ s, 64 ≤ s ∧ s < 88 ∧ H s = true ∧ fC w D s p = true)) := by
  have hp := hH.1
  rw [zchR_iff]
  constructor
  · rintro (h | ⟨s, s1, s2, s3⟩)
    · have := hH.2 t t0 (by omega) h
      rw [wPl_lo h64] at this
      rw [this.2] at h
      exact ⟨this.2, Or.inl h⟩
    · have f := (fC_iff _ _).1 s3
      have s64 : 64 ≤ (s : Int) := by
        by_cases c : (s : Int) < 64
        · exact absurd ⟨fun _ => h64, fun _ => c⟩ f.1
        · omega
      rw [zch_hi hH s s64] at s2
      have e1 : wPl w s = t := by rw [f.2.2.1, wPl_lo h64]
      rcases s2 with q | ⟨q1, q2, q3⟩
      · have := hH.2 s (by omega) (by omega) q
        have tp : t = p := by rw [← e1]; exact this.2
        rw [tp] at s3
        exact ⟨tp, Or.inr ⟨s, s64, by omega, q, s3⟩⟩
      · have f2 := (fC_iff _ _).1 q3
        have tp : t = p := by rw [← e1, ← f2.2.2.1, wPl_lo hp.2]
        exact ⟨tp, Or.inl q2⟩
  · rintro ⟨rfl, h | ⟨s, s0, s1, s2, s3⟩⟩
    · exact Or.inl h
    · right
      have e : ((s.toNat : Nat) : Int) = s := by omega
      refine ⟨s.toNat, by omega, ?_, by rw [e]; exact s3⟩
      rw [zchR_iff, e]
      exact Or.inl s2
theorem zch_HI (hH : HI w H p) : HI w (zchR w D H 88) p := by
  refine ⟨hH.1, fun s s0 s1 hs => ?_⟩
  by_cases c : s < 64
  · obtain ⟨e, h⟩ := (zch_lo hH s0 c).1 hs
    subst e
    refine ⟨?_, wPl_lo c⟩
    rcases h with h | ⟨q, q0, q1, q2, q3⟩
    · exact (hH.2 s s0 s1 h).1
    · exact ((fC_iff _ _).1 q3).2.1
  · rcases (zch_hi hH 88 (by omega)).1 hs with h | ⟨h1, h2, h3⟩
    · exact hH.2 s s0 s1 h
    · have f := (fC_iff _ _).1 h3
      exact ⟨f.2.1, by rw [← f.2.2.1, wPl_lo hH.1.2]⟩
theorem cFo_iff (hH : HI w H p) : cFo w D H p = true ↔ zchR w D H 88 p = true := by
  have hp := hH.1
  rw [zch_lo hH hp.1 hp.2]
  unfold cFo
  simp only [Bool.or_eq_true, Bool.and_eq_true]
  rw [zany_iff]
  constructor
  · rintro (h | ⟨h1, a, a0, a1, h2⟩)
    · exact ⟨trivial, Or.inl h⟩
    · simp only [Bool.and_eq_true, decide_eq_true_eq] at h2
      refine ⟨trivial, Or.inr ⟨64 + a, by omega, by omega, h2.1, (fC_iff _ _).2 ⟨by omega, h1, ?_, ?_⟩⟩⟩
      · rw [(hH.2 (64 + a) (by omega) (by omega) h2.1).2, wPl_lo hp.2]
      · rw [wTk_off (by omega) hp.2, if_pos (hH.2 (64 + a) (by omega) (by omega) h2.1).2, h2.2]; omega
  · rintro ⟨-, h | ⟨s, s0, s1, s2, s3⟩⟩
    · exact Or.inl h
    · right
      have f := (fC_iff _ _).1 s3
      refine ⟨f.2.1, s - 64, by omega, by omega, ?_⟩
      simp only [Bool.and_eq_true, decide_eq_true_eq]
      rw [show 64 + (s - 64) = s by omega]
      refine ⟨s2, ?_⟩
      have := f.2.2.2
      rw [wTk_off s0 hp.2, if_pos (hH.2 s (by omega) s1 s2).2] at this
      omega
/-- the model's change is the class's -/
theorem zch_c (hH : HI w H p) {s : Int} (s0 : 0 ≤ s) (s1 : s < 88) : zchR w D (zchR w D H 88) 88 s = cH w D H p s := by
  have hp := hH.1
  have h2 := zch_HI (D := D) hH
  have cf := cFo_iff (D := D) hH
  rw [Bool.eq_iff_iff]
  unfold cH
  by_cases c : s < 64
  · rw [if_pos c, zch_lo h2 s0 c]
    by_cases e : s = p
    · rw [if_pos e]
      rw [cf]
      constructor
      · rintro ⟨-, h | ⟨q, q0, q1, q2, q3⟩⟩
        · exact h
        · rcases (zch_hi hH 88 q0).1 q2 with r | ⟨r1, r2, r3⟩
          · exact (zch_lo hH hp.1 hp.2).2 ⟨rfl, Or.inr ⟨q, q0, q1, r, q3⟩⟩
          · exact (zch_lo hH hp.1 hp.2).2 ⟨rfl, Or.inl r2⟩
      · intro h; exact ⟨e, Or.inl h⟩
    · rw [if_neg e]
      constructor
      · rintro ⟨q, -⟩; exact absurd q e
      · intro q; cases q
  · rw [if_neg c, zch_hi h2 88 (by omega), zch_hi hH 88 (by omega)]
    simp only [Bool.or_eq_true, Bool.and_eq_true, decide_eq_true_eq]
    rw [cf]
    have fi : fC w D p s = true ↔ (wSt w s = true ∧ wPl w s = p ∧ D p = D s + 2) := by
      rw [fC_iff, wPl_lo hp.2, wTk_on hp.2 (by omega)]
      constructor
      · rintro ⟨-, q1, q2, q3⟩
        rw [if_pos q2] at q3
        exact ⟨q1, q2.symm, by omega⟩
      · rintro ⟨q1, q2, q3⟩
        exact ⟨by omega, q1, q2.symm, by rw [if_pos q2.symm]; omega⟩
    rw [fi]
    constructor
    · rintro ((h | ⟨h1, h2, h3⟩) | ⟨h1, h2, h3⟩)
      · exact Or.inl h
      · exact Or.inr ⟨(zch_lo hH hp.1 hp.2).2 ⟨rfl, Or.inl h2⟩, h3⟩
      · exact Or.inr ⟨h2, h3⟩
    · rintro (h | ⟨h1, h2⟩)
      · exact Or.inl (Or.inl h)
      · exact Or.inr ⟨by omega, h1, h2⟩
end PATH
