/-! bids settle: the pure course of it, and the class's -/
abbrev zP : Type := (Int → Int) × (Int → Int → Bool) × (Int → Int)
def zbid (pu : Int → Int) (va : Int → Int → Int) (s p : Int) : Int := if pu s < va s p then pu s else va s p
def zbst (n : Int) (ca : Int → Int → Bool) (va : Int → Int → Int) (P : zP) (s : Int) : Int := (zbp (fun p => ca s p && !P.2.1 s p) (va s) n.toNat).1
def zwin (pu : Int → Int) (va : Int → Int → Int) (P : zP) (s p : Int) : Bool := decide (P.2.2 p = -4 ∨ zbid pu va (P.2.2 p) p < zbid pu va s p ∨ (zbid pu va s p = zbid pu va (P.2.2 p) p ∧ s < P.2.2 p))
def zst1 (pu : Int → Int) (va : Int → Int → Int) (P : zP) (s p : Int) : zP :=
  if zwin pu va P s p = true then
    (fun q => if q = s then p else if q = P.2.2 p then -4 else P.1 q, fun q r => P.2.1 q r || (decide (q = P.2.2 p) && decide (r = p)), fun r => if r = p then s else P.2.2 r)
  else (P.1, fun q r => P.2.1 q r || (decide (q = s) && decide (r = p)), P.2.2)
def zst (n : Int) (wt : Int → Bool) (ca : Int → Int → Bool) (pu : Int → Int) (va : Int → Int → Int) (P : zP) (s : Int) : zP × Bool := if wt s = true ∧ P.1 s = -4 ∧ 0 ≤ zbst n ca va P s then (zst1 pu va P s (zbst n ca va P s), true) else (P, false)
def zrd (n : Int) (wt : Int → Bool) (ca : Int → Int → Bool) (pu : Int → Int) (va : Int → Int → Int) (P : zP) : Nat → zP × Bool
  | 0 => (P, false)
  | s + 1 => ((zst n wt ca pu va (zrd n wt ca pu va P s).1 s).1, (zrd n wt ca pu va P s).2 || (zst n wt ca pu va (zrd n wt ca pu va P s).1 s).2)
def zit (f : zP → zP) : Nat → zP → zP
  | 0, P => P
  | k + 1, P => f (zit f k P)
def zP0 : zP := (fun _ => -4, fun _ _ => false, fun _ => -4)
/-- settled: rounds from the start on, until none asks -/
def zfin (n nc : Int) (wt : Int → Bool) (ca : Int → Int → Bool) (pu : Int → Int) (va : Int → Int → Int) (Q : zP) : Prop := ∃ k, Q = zit (fun P => (zrd n wt ca pu va P nc.toNat).1) k zP0 ∧ (zrd n wt ca pu va Q nc.toNat).2 = false
/-- the invariant -/
def zPI (n nc : Int) (P : zP) : Prop := (∀ s, 0 ≤ s → s < nc → P.1 s = -4 ∨ (0 ≤ P.1 s ∧ P.1 s < n ∧ P.2.2 (P.1 s) = s ∧ P.2.1 s (P.1 s) = false)) ∧ (∀ p, P.2.2 p = -4 ∨ (0 ≤ p ∧ p < n ∧ 0 ≤ P.2.2 p ∧ P.2.2 p < nc ∧ P.1 (P.2.2 p) = p))
theorem zPI_0 (n nc : Int) : zPI n nc zP0 := ⟨fun _ _ _ => Or.inl rfl, fun _ => Or.inl rfl⟩
theorem zbst_ok {n : Int} {ca : Int → Int → Bool} {va : Int → Int → Int} {P : zP} {s : Int} (h : 0 ≤ zbst n ca va P s) : zbst n ca va P s < n ∧ ca s (zbst n ca va P s) = true ∧ P.2.1 s (zbst n ca va P s) = false ∧ 0 < va s (zbst n ca va P s) := by
  have := zbp_bd (fun p => ca s p && !P.2.1 s p) (va s) n.toNat
  unfold zbst at *
  rcases this with ⟨h1, -⟩ | ⟨h1, h2, h3, h4, h5⟩
  · omega
  · rw [Bool.and_eq_true, Bool.not_eq_true'] at h3
    exact ⟨by omega, h3.1, h3.2, by omega⟩
theorem zst1_PI {n nc : Int} {pu : Int → Int} {va : Int → Int → Int} {P : zP} {s p : Int} (h : zPI n nc P) (hs : 0 ≤ s ∧ s < nc) (hp : 0 ≤ p ∧ p < n) (hl : P.2.1 s p = false) (hb : P.1 s = -4) : zPI n nc (zst1 pu va P s p) := by
  obtain ⟨h1, h2⟩ := h
  have hq := h2 p
  unfold zst1
  split
  next hw =>
    refine ⟨fun q hq0 hq1 => ?_, fun r => ?_⟩
    · dsimp only
      by_cases e1 : q = s
      · subst e1
        right
        rw [if_pos rfl, if_pos rfl]
        refine ⟨hp.1, hp.2, rfl, ?_⟩
        rw [hl, Bool.false_or, Bool.and_eq_false_iff]
        left
        rw [decide_eq_false_iff_not]
        intro e
        rcases hq with hq | hq
        · omega
        · rw [← e] at hq; omega
      · rw [if_neg e1]
        by_cases e2 : q = P.2.2 p
        · rw [if_pos e2]; exact Or.inl rfl
        · rw [if_neg e2]
          rcases h1 q hq0 hq1 with h3 | ⟨h3, h4, h5, h6⟩
          · exact Or.inl h3
          · right
            have : P.1 q ≠ p := fun e => by rw [e] at h5; exact e2 h5.symm
            rw [if_neg this]
            refine ⟨h3, h4, h5, ?_⟩
            rw [h6, Bool.false_or, Bool.and_eq_false_iff]
            left
            rw [decide_eq_false_iff_not]
            exact e2
    · dsimp only
      by_cases e1 : r = p
      · subst e1
        rw [if_pos rfl]
        right
        exact ⟨hp.1, hp.2, hs.1, hs.2, by rw [if_pos rfl]⟩
      · rw [if_neg e1]
        rcases h2 r with h3 | ⟨h3, h4, h5, h6, h7⟩
        · exact Or.inl h3
        · right
          refine ⟨h3, h4, h5, h6, ?_⟩
          have e2 : P.2.2 r ≠ s := fun e => by rw [e, hb] at h7; omega
          have e3 : P.2.2 r ≠ P.2.2 p := fun e => by
            rcases hq with hq | ⟨-, -, -, -, hq⟩
            · omega
            · rw [← e, h7] at hq; exact e1 hq
          rw [if_neg e2, if_neg e3, h7]
  next hw =>
    refine ⟨fun q hq0 hq1 => ?_, h2⟩
    dsimp only
    rcases h1 q hq0 hq1 with h3 | ⟨h3, h4, h5, h6⟩
    · exact Or.inl h3
    · right
      refine ⟨h3, h4, h5, ?_⟩
      rw [h6, Bool.false_or, Bool.and_eq_false_iff]
      left
      rw [decide_eq_false_iff_not]
      intro e
      subst e
      omega
theorem zst_PI {n nc : Int} {wt : Int → Bool} {ca : Int → Int → Bool} {pu : Int → Int} {va : Int → Int → Int} {P : zP} {s : Int} (h : zPI n nc P) (hs : 0 ≤ s ∧ s < nc) : zPI n nc (zst n wt ca pu va P s).1 := by
  unfold zst
  split
  next hc =>
    have := zbst_ok hc.2.2
    exact zst1_PI h hs ⟨hc.2.2, this.1⟩ this.2.2.1 hc.2.1
  next => exact h
theorem zrd_PI {n nc : Int} {wt : Int → Bool} {ca : Int → Int → Bool} {pu : Int → Int} {va : Int → Int → Int} {P : zP} (h : zPI n nc P) : ∀ k : Nat, k ≤ nc → zPI n nc (zrd n wt ca pu va P k).1 := by
  intro k
  induction k with
  | zero => intro _; exact h
  | succ k ih => intro hk; exact zst_PI (ih (by omega)) ⟨by omega, by omega⟩
theorem zrd_stay {n : Int} {wt : Int → Bool} {ca : Int → Int → Bool} {pu : Int → Int} {va : Int → Int → Int} {P : zP} : ∀ k : Nat, (zrd n wt ca pu va P k).2 = false → (zrd n wt ca pu va P k).1 = P := by
  intro k
  induction k with
  | zero => intro _; rfl
  | succ k ih =>
    intro h
    simp only [zrd, Bool.or_eq_false_iff] at h ⊢
    have h1 := ih h.1
    rw [h1] at h ⊢
    have h2 := h.2
    unfold zst at h2 ⊢
    split
    next hc => rw [if_pos hc] at h2; cases h2
    next => rfl
theorem zit_fix {f : zP → zP} {P : zP} (h : f P = P) : ∀ k, zit f k P = P := by
  intro k
  induction k with
  | zero => rfl
  | succ k ih => simp only [zit]; rw [ih, h]
theorem zit_add (f : zP → zP) (P : zP) (a : Nat) : ∀ b, zit f (b + a) P = zit f b (zit f a P) := by
  intro b
  induction b with
  | zero => simp [zit]
  | succ b ih => rw [show b + 1 + a = (b + a) + 1 by omega]; simp only [zit]; rw [ih]
theorem zfin_uniq {n nc : Int} {wt : Int → Bool} {ca : Int → Int → Bool} {pu : Int → Int} {va : Int → Int → Int} {Q1 Q2 : zP} (h1 : zfin n nc wt ca pu va Q1) (h2 : zfin n nc wt ca pu va Q2) : Q1 = Q2 := by
  have key : ∀ {A B : zP} {a b : Nat}, a ≤ b → A = zit (fun P => (zrd n wt ca pu va P nc.toNat).1) a zP0 → (zrd n wt ca pu va A nc.toNat).2 = false → B = zit (fun P => (zrd n wt ca pu va P nc.toNat).1) b zP0 → A = B := by
    intro A B a b hab hA hf hB
    rw [hB, show b = (b - a) + a by omega, zit_add, ← hA, zit_fix (zrd_stay _ hf)]
  obtain ⟨k1, e1, f1⟩ := h1
  obtain ⟨k2, e2, f2⟩ := h2
  rcases Nat.le_total k1 k2 with h | h
  · exact key h e1 f1 e2
  · exact (key h e2 f2 e1).symm
/-- what was asked: it grows with each ask -/
def zU (P : zP) (s p : Int) : Bool := P.2.1 s p || decide (P.1 s = p)
def zPhi (n nc : Int) (P : zP) : Int := zsum (fun s => zcnt (zU P s) n.toNat) nc.toNat
theorem zcnt_add {f g : Int → Bool} {n : Nat} {k : Int} (hk : 0 ≤ k ∧ k < n) (hg : ∀ q : Int, 0 ≤ q → q < n → g q = (f q || decide (q = k))) (hf : f k = false) : zcnt g n = zcnt f n + 1 := by
  induction n with
  | zero => omega
  | succ n ih =>
    simp only [zcnt]
    by_cases e : k = n
    · subst e
      rw [hg n (by omega) (by omega), hf, zcnt_congr (f := g) (g := f) (fun q h1 h2 => by
        rw [hg q h1 (by omega)]
        have : ¬ q = (n : Int) := by omega
        simp [this])]
      simp
    · rw [ih ⟨hk.1, by omega⟩ (fun q h1 h2 => hg q h1 (by omega)), hg n (by omega) (by omega)]
      have : ¬ (n : Int) = k := fun h => e h.symm
      simp only [this, decide_false, Bool.or_false]
      omega
theorem zsum_add {f g : Int → Int} {n : Nat} {k : Int} (hk : 0 ≤ k ∧ k < n) (hg : ∀ q : Int, 0 ≤ q → q < n → q ≠ k → g q = f q) (hf : g k = f k + 1) : zsum g n = zsum f n + 1 := by
  induction n with
  | zero => omega
  | succ n ih =>
    simp only [zsum]
    by_cases e : k = n
    · subst e
      rw [hf, zsum_congr (f := g) (g := f) (fun q h1 h2 => hg q h1 (by omega) (by omega))]
      omega
    · rw [ih ⟨hk.1, by omega⟩ (fun q h1 h2 h3 => hg q h1 (by omega) h3), hg n (by omega) (by omega) (fun h => e h.symm)]
      omega
theorem zPhi_bd {n nc : Int} (hn : 0 ≤ n ∧ n ≤ 64) (hc : 0 ≤ nc ∧ nc ≤ 20) (P : zP) : 0 ≤ zPhi n nc P ∧ zPhi n nc P ≤ 1280 := by
  have := zsum_bd (f := fun s => zcnt (zU P s) n.toNat) (n := nc.toNat) (lo := 0) (hi := 64) (fun k _ _ => by
    have := zcnt_bd (zU P k) n.toNat
    omega)
  unfold zPhi
  omega
theorem zst1_U {n nc : Int} {pu : Int → Int} {va : Int → Int → Int} {P : zP} {s p : Int} (h : zPI n nc P) (hs : 0 ≤ s ∧ s < nc) (hp : 0 ≤ p ∧ p < n) (hl : P.2.1 s p = false) (hb : P.1 s = -4) : (∀ q r, 0 ≤ q → q < nc → 0 ≤ r → r < n → zU (zst1 pu va P s p) q r = (zU P q r || (decide (q = s) && decide (r = p)))) ∧ zU P s p = false := by
  obtain ⟨h1, h2⟩ := h
  have hq := h2 p
  constructor
  · intro q r q0 q1 r0 r1
    unfold zU zst1
    split
    next hw =>
      dsimp only
      rw [Bool.eq_iff_iff]
      simp only [Bool.or_eq_true, Bool.and_eq_true, decide_eq_true_eq]
      cases hX : P.2.1 q r
      · simp only [Bool.false_eq_true, false_or]
        by_cases e1 : q = s
        · subst e1
          have e3 : ¬ q = P.2.2 p := by
            intro e
            rcases hq with hq | ⟨-, -, -, -, hq⟩
            · omega
            · rw [← e, hb] at hq; omega
          rw [if_pos rfl, hb]
          omega
        · rw [if_neg e1]
          by_cases e2 : q = P.2.2 p
          · rw [if_pos e2]
            have e7 : P.1 q = p := by
              rcases hq with hq | ⟨-, -, -, -, hq⟩
              · omega
              · rw [e2]; exact hq
            rw [e7]
            omega
          · rw [if_neg e2]
            omega
      · simp
    next hw =>
      dsimp only
      cases P.2.1 q r <;> cases decide (P.1 q = r) <;> cases decide (q = s) <;> cases decide (r = p) <;> rfl
  · unfold zU
    rw [hl, hb]
    have : ¬ (-4 : Int) = p := by omega
    simp [this]
theorem zst_Phi {n nc : Int} {wt : Int → Bool} {ca : Int → Int → Bool} {pu : Int → Int} {va : Int → Int → Int} {P : zP} {s : Int} (h : zPI n nc P) (hs : 0 ≤ s ∧ s < nc) : zPhi n nc (zst n wt ca pu va P s).1 = zPhi n nc P + if (zst n wt ca pu va P s).2 = true then 1 else 0 := by
  unfold zst
  split
  next hc =>
    have hb := zbst_ok hc.2.2
    have hU := zst1_U (pu := pu) (va := va) h hs ⟨hc.2.2, hb.1⟩ hb.2.2.1 hc.2.1
    unfold zPhi
    refine zsum_add (k := s) ⟨hs.1, by omega⟩ ?_ ?_
    · intro q h1 h2 h3
      apply zcnt_congr
      intro r h4 h5
      rw [hU.1 q r h1 (by omega) h4 (by omega)]
      simp [h3]
    · refine zcnt_add (k := zbst n ca va P s) ⟨hc.2.2, by omega⟩ ?_ hU.2
      intro r h4 h5
      rw [hU.1 s r hs.1 hs.2 h4 (by omega)]
      simp
  next => simp
theorem zrd_Phi {n nc : Int} {wt : Int → Bool} {ca : Int → Int → Bool} {pu : Int → Int} {va : Int → Int → Int} {P : zP} (h : zPI n nc P) : ∀ k : Nat, k ≤ nc → zPhi n nc P ≤ zPhi n nc (zrd n wt ca pu va P k).1 ∧ ((zrd n wt ca pu va P k).2 = true → zPhi n nc P + 1 ≤ zPhi n nc (zrd n wt ca pu va P k).1) := by
  intro k
  induction k with
  | zero => intro _; exact ⟨Int.le_refl _, fun h => by cases h⟩
  | succ k ih =>
    intro hk
    have h1 := ih (by omega)
    have h2 := zst_Phi (wt := wt) (ca := ca) (pu := pu) (va := va) (s := (k : Int)) (zrd_PI (wt := wt) (ca := ca) (pu := pu) (va := va) h k (by omega)) ⟨by omega, by omega⟩
    simp only [zrd, Bool.or_eq_true]
    constructor
    · split at h2 <;> omega
    · rintro (h3 | h3)
      · have := h1.2 h3
        split at h2 <;> omega
      · rw [if_pos h3] at h2
        omega
