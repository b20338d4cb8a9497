/-! least times, as pure steps that class and model both take -/
def zpk (D : Int → Int) (dn : Int → Bool) : Nat → Int
  | 0 => -4
  | k + 1 => if dn k = false ∧ D k < 1000000 ∧ (zpk D dn k = -4 ∨ D k < D (zpk D dn k)) then k else zpk D dn k
def zrx (st : Int → Bool) (tk : Int → Int → Int) (D : Int → Int) (dn : Int → Bool) (b : Int) : Int → Int := fun s => if st s = true ∧ dn s = false ∧ tk s b < 1000000 ∧ D b + tk s b < D s then D b + tk s b else D s
abbrev zDP := (Int → Int) × (Int → Bool)
def zds (st : Int → Bool) (tk : Int → Int → Int) (P : zDP) : zDP := if zpk P.1 P.2 88 = -4 then P else (zrx st tk P.1 (fun s => P.2 s || decide (s = zpk P.1 P.2 88)) (zpk P.1 P.2 88), fun s => P.2 s || decide (s = zpk P.1 P.2 88))
def zd0 (st : Int → Bool) (to : Int) : zDP := (fun s => if s = to ∧ st to = true then 0 else 1000000, fun _ => false)
def zdt (f : zDP → zDP) : Nat → zDP → zDP
  | 0, P => P
  | k + 1, P => f (zdt f k P)
def zdf (st : Int → Bool) (tk : Int → Int → Int) (to : Int) (Q : zDP) : Prop := ∃ k, Q = zdt (zds st tk) k (zd0 st to) ∧ zpk Q.1 Q.2 88 = -4
theorem zpk_ok (D : Int → Int) (dn : Int → Bool) (k : Nat) : (zpk D dn k = -4 ∧ ∀ s : Int, 0 ≤ s → s < k → ¬ (dn s = false ∧ D s < 1000000)) ∨ (0 ≤ zpk D dn k ∧ zpk D dn k < k ∧ dn (zpk D dn k) = false ∧ D (zpk D dn k) < 1000000 ∧ ∀ s : Int, 0 ≤ s → s < k → dn s = false → D (zpk D dn k) ≤ D s) := by
  induction k with
  | zero => left; exact ⟨rfl, fun s a b => by omega⟩
  | succ k ih =>
    simp only [zpk]
    rcases ih with ⟨h1, h2⟩ | ⟨h1, h2, h3, h4, h5⟩
    · rw [h1]
      by_cases c : dn k = false ∧ D k < 1000000
      · rw [if_pos ⟨c.1, c.2, Or.inl rfl⟩]
        right
        refine ⟨by omega, by omega, c.1, c.2, fun s s0 s1 hs => ?_⟩
        by_cases e : s = k
        · rw [e]; exact Int.le_refl _
        · have := h2 s s0 (by omega)
          have : ¬ D s < 1000000 := fun q => this ⟨hs, q⟩
          omega
      · rw [if_neg (fun q => c ⟨q.1, q.2.1⟩)]
        left
        refine ⟨rfl, fun s s0 s1 => ?_⟩
        by_cases e : s = k
        · rw [e]; exact c
        · exact h2 s s0 (by omega)
    · by_cases c : dn k = false ∧ D k < 1000000 ∧ (zpk D dn k = -4 ∨ D k < D (zpk D dn k))
      · rw [if_pos c]
        right
        refine ⟨by omega, by omega, c.1, c.2.1, fun s s0 s1 hs => ?_⟩
        have c2 : D k < D (zpk D dn k) := by rcases c.2.2 with q | q <;> omega
        by_cases e : s = k
        · rw [e]; exact Int.le_refl _
        · have := h5 s s0 (by omega) hs
          omega
      · rw [if_neg c]
        right
        refine ⟨h1, by omega, h3, h4, fun s s0 s1 hs => ?_⟩
        by_cases e : s = k
        · rw [e] at hs ⊢
          by_cases q : D k < D (zpk D dn k)
          · exact absurd ⟨hs, by omega, Or.inr q⟩ c
          · omega
        · exact h5 s s0 (by omega) hs
theorem zpk_congr {D D' : Int → Int} {dn dn' : Int → Bool} {k : Nat} (h : ∀ s : Int, 0 ≤ s → s < k → D s = D' s ∧ dn s = dn' s) : zpk D dn k = zpk D' dn' k := by
  induction k with
  | zero => rfl
  | succ k ih =>
    have ih := ih (fun s a b => h s a (by omega))
    have hk := h k (by omega) (by omega)
    have ok := zpk_ok D' dn' k
    simp only [zpk]
    rw [ih, hk.1, hk.2]
    rcases ok with ⟨a, -⟩ | ⟨a, b, -⟩
    · rw [a]; simp
    · rw [(h (zpk D' dn' k) a (by omega)).1]
theorem zpk_far {D : Int → Int} {dn : Int → Bool} {a b : Nat} (h : a ≤ b) (hf : ∀ s : Int, a ≤ s → s < b → ¬ D s < 1000000) : zpk D dn b = zpk D dn a := by
  induction h with
  | refl => rfl
  | step h ih =>
    rename_i c
    have hc : a ≤ c := h
    simp only [zpk]
    rw [if_neg, ih (fun s p q => hf s p (by omega))]
    exact fun q => hf c (by omega) (by omega) q.2.1
theorem zdt_fix {f : zDP → zDP} {P : zDP} (h : f P = P) (k : Nat) : zdt f k P = P := by
  induction k with
  | zero => rfl
  | succ k ih => simp only [zdt]; rw [ih, h]
theorem zdt_add (f : zDP → zDP) (a b : Nat) (P : zDP) : zdt f (a + b) P = zdt f a (zdt f b P) := by
  induction a with
  | zero => rw [Nat.zero_add]; rfl
  | succ a ih => rw [show a + 1 + b = (a + b) + 1 by omega]; simp only [zdt]; rw [ih]
theorem zdf_uniq {st : Int → Bool} {tk : Int → Int → Int} {to : Int} {Q Q' : zDP} (h : zdf st tk to Q) (h' : zdf st tk to Q') : Q = Q' := by
  obtain ⟨a, ha, fa⟩ := h
  obtain ⟨b, hb, fb⟩ := h'
  have f1 : zds st tk Q = Q := by unfold zds; rw [if_pos fa]
  have f2 : zds st tk Q' = Q' := by unfold zds; rw [if_pos fb]
  rcases Nat.le_total a b with q | q
  · have := zdt_add (zds st tk) (b - a) a (zd0 st to)
    rw [show b - a + a = b by omega, ← hb, ← ha, zdt_fix f1] at this
    exact this.symm
  · have := zdt_add (zds st tk) (a - b) b (zd0 st to)
    rw [show a - b + b = a by omega, ← hb, ← ha, zdt_fix f2] at this
    exact this
theorem zds_fix {st : Int → Bool} {tk : Int → Int → Int} {P : zDP} (h : zpk P.1 P.2 88 = -4) : zds st tk P = P := by unfold zds; rw [if_pos h]
/-- what holds at each step -/
def zDI (st : Int → Bool) (tk : Int → Int → Int) (to C : Int) (i : Int) (P : zDP) : Prop :=
  (∀ s, P.1 s = 1000000 ∨ (0 ≤ P.1 s ∧ P.1 s ≤ C * i)) ∧ (∀ s, P.1 s < 1000000 → st s = true ∧ 0 ≤ s ∧ s < 88) ∧ (∀ s, P.2 s = true → P.1 s < 1000000) ∧
  (∀ s t, P.2 s = true → P.2 t = false → P.1 s ≤ P.1 t) ∧
  (∀ s, P.1 s < 1000000 → (s = to ∧ P.1 s = 0) ∨ ∃ t, P.2 t = true ∧ tk s t < 1000000 ∧ P.1 s = P.1 t + tk s t) ∧
  (∀ t s, P.2 t = true → st s = true → tk s t < 1000000 → 0 ≤ s → s < 88 → P.1 s ≤ P.1 t + tk s t)
section DIJ
variable {st : Int → Bool} {tk : Int → Int → Int} {to C : Int}
/-- what is needed of costs -/
def zCo (st : Int → Bool) (tk : Int → Int → Int) (C : Int) : Prop := (∀ s t, 0 ≤ s → s < 88 → 0 ≤ t → t < 88 → st s = true → st t = true → 0 ≤ tk s t ∧ (tk s t < 1000000 → tk s t ≤ C)) ∧ 0 ≤ C ∧ C * 90 < 1000000 ∧ ∀ s, st s = true → 0 ≤ s ∧ s < 88
theorem zDI_0 (hto : 0 ≤ to ∧ to < 88) (hC : zCo st tk C) : zDI st tk to C 0 (zd0 st to) := by
  have e1 : ∀ s, (zd0 st to).1 s = if s = to ∧ st to = true then 0 else 1000000 := fun s => rfl
  have e2 : ∀ s, (zd0 st to).2 s = false := fun s => rfl
  refine ⟨?_, ?_, ?_, ?_, ?_, ?_⟩
  · intro s
    rw [e1]
    split
    · right; omega
    · left; rfl
  · intro s h
    rw [e1] at h
    split at h
    next c => rw [c.1]; exact ⟨c.2, hto⟩
    next => omega
  · intro s h; rw [e2] at h; cases h
  · intro s t h; rw [e2] at h; cases h
  · intro s h
    rw [e1] at h ⊢
    split at h
    next c => left; exact ⟨c.1, by rw [if_pos c]⟩
    next => omega
  · intro t s h; rw [e2] at h; cases h
theorem zDI_step (hC : zCo st tk C) {i : Int} (hi : 0 ≤ i ∧ i ≤ 88) {P : zDP} (h : zDI st tk to C i P) : zDI st tk to C (i + 1) (zds st tk P) := by
  obtain ⟨h1, h2, h3, h4, h5, h6⟩ := h
  obtain ⟨c1, c2, c3, cst⟩ := hC
  have Ci : C * i ≤ C * (i + 1) := Int.mul_le_mul_of_nonneg_left (by omega) c2
  have Ce : C * (i + 1) = C * i + C := by rw [Int.mul_add, Int.mul_one]
  have Cb : C * (i + 1) ≤ C * 90 := Int.mul_le_mul_of_nonneg_left (by omega) c2
  unfold zds
  rcases zpk_ok P.1 P.2 88 with ⟨p, -⟩ | ⟨p1, p2, p3, p4, p5⟩
  · rw [if_pos p]
    exact ⟨fun s => (h1 s).imp id (fun q => ⟨q.1, by omega⟩), h2, h3, h4, h5, h6⟩
  · rw [if_neg (by omega)]
    generalize zpk P.1 P.2 88 = b at *
    have hb := h2 b p4
    have db : 0 ≤ P.1 b ∧ P.1 b ≤ C * i := by rcases h1 b with q | q <;> omega
    have co : ∀ s, st s = true → 0 ≤ s → s < 88 → 0 ≤ tk s b ∧ (tk s b < 1000000 → tk s b ≤ C) := fun s q0 q1 q2 => c1 s b q1 q2 hb.2.1 hb.2.2 q0 hb.1
    obtain ⟨D', hD⟩ : ∃ D', zrx st tk P.1 (fun s => P.2 s || decide (s = b)) b = D' := ⟨_, rfl⟩
    obtain ⟨dn', hdn⟩ : ∃ dn' : Int → Bool, (fun s => P.2 s || decide (s = b)) = dn' := ⟨_, rfl⟩
    -- new values: never above the old ones, never below the least
    have nv : ∀ s, D' s = P.1 s ∨ (st s = true ∧ P.2 s = false ∧ s ≠ b ∧ tk s b < 1000000 ∧ D' s = P.1 b + tk s b ∧ P.1 b + tk s b < P.1 s) := by
      intro s
      rw [← hD]
      unfold zrx
      by_cases c : st s = true ∧ (P.2 s || decide (s = b)) = false ∧ tk s b < 1000000 ∧ P.1 b + tk s b < P.1 s
      · right
        have := c.2.1
        simp only [Bool.or_eq_false_iff, decide_eq_false_iff_not] at this
        exact ⟨c.1, this.1, this.2, c.2.2.1, by rw [if_pos c], c.2.2.2⟩
      · left; rw [if_neg c]
    have dn : ∀ s, (dn' s = true) ↔ (P.2 s = true ∨ s = b) := fun s => by rw [← hdn]; simp
    have dnf : ∀ s, (dn' s = false) ↔ (P.2 s = false ∧ s ≠ b) := fun s => by rw [← hdn]; simp
    have nc : ∀ s, st s = true → P.2 s = false → s ≠ b → tk s b < 1000000 → D' s ≤ P.1 b + tk s b := by
      intro s q0 q1 q2 q3
      rw [← hD]
      unfold zrx
      by_cases c : P.1 b + tk s b < P.1 s
      · rw [if_pos ⟨q0, by simp [q1, q2], q3, c⟩]; exact Int.le_refl _
      · rw [if_neg (fun z => c z.2.2.2)]; omega
    rw [hD, hdn]
    clear hD hdn
    have kd : ∀ s, P.2 s = true ∨ s = b → D' s = P.1 s := by
      intro s hs
      rcases nv s with q | ⟨-, q1, q2, -⟩
      · exact q
      · rcases hs with q | q
        · rw [q1] at q; cases q
        · exact absurd q q2
    have le : ∀ s, D' s ≤ P.1 s := by
      intro s
      rcases nv s with q | ⟨-, -, -, -, q, q2⟩ <;> omega
    have lb : ∀ s, P.2 s = true ∨ s = b → P.1 s ≤ P.1 b := by
      intro s hs
      rcases hs with q | q
      · exact h4 s b q p3
      · rw [q]; exact Int.le_refl _
    have ub : ∀ t, P.2 t = false → P.1 b ≤ D' t := by
      intro t ht
      rcases nv t with q | ⟨q0, q1, q2, q3, q4, q5⟩
      · rw [q]
        by_cases r : P.1 t < 1000000
        · exact p5 t (h2 t r).2.1 (h2 t r).2.2 ht
        · omega
      · have := (co t q0 (cst t q0).1 (cst t q0).2).1; omega
    refine ⟨?_, ?_, ?_, ?_, ?_, ?_⟩
    · intro s
      show D' s = 1000000 ∨ (0 ≤ D' s ∧ D' s ≤ C * (i + 1))
      rcases nv s with q | ⟨q0, q1, q2, q3, q4, q5⟩
      · rw [q]
        exact (h1 s).imp id (fun q => ⟨q.1, by omega⟩)
      · right
        have := co s q0 (cst s q0).1 (cst s q0).2
        have := this.2 q3
        omega
    · intro s h
      have h : D' s < 1000000 := h
      rcases nv s with q | ⟨q0, -⟩
      · rw [q] at h; exact h2 s h
      · exact ⟨q0, cst s q0⟩
    · intro s h
      show D' s < 1000000
      have := kd s ((dn s).1 h)
      rw [this]
      rcases (dn s).1 h with q | q
      · exact h3 s q
      · rw [q]; exact p4
    · intro s t hs ht
      show D' s ≤ D' t
      have q1 := (dn s).1 hs
      have q2 := (dnf t).1 ht
      rw [kd s q1]
      have := lb s q1
      have := ub t q2.1
      omega
    · intro s h
      have h : D' s < 1000000 := h
      show (s = to ∧ D' s = 0) ∨ ∃ t, dn' t = true ∧ tk s t < 1000000 ∧ D' s = D' t + tk s t
      rcases nv s with q | ⟨q0, q1, q2, q3, q4, q5⟩
      · rw [q] at h ⊢
        rcases h5 s h with r | ⟨t, r1, r2, r3⟩
        · left; exact r
        · right
          exact ⟨t, (dn t).2 (Or.inl r1), r2, by rw [kd t (Or.inl r1)]; exact r3⟩
      · right
        exact ⟨b, (dn b).2 (Or.inr rfl), q3, by rw [kd b (Or.inr rfl)]; exact q4⟩
    · intro t s ht hs hf s0 s1
      show D' s ≤ D' t + tk s t
      have q1 := (dn t).1 ht
      rw [kd t q1]
      rcases q1 with q | q
      · have := h6 t s q hs hf s0 s1
        have := le s
        omega
      · subst q
        by_cases c : P.2 s = false ∧ s ≠ t
        · exact nc s hs c.1 c.2 hf
        · have : P.2 s = true ∨ s = t := by
            by_cases e : s = t
            · right; exact e
            · left
              cases h : P.2 s with
              | true => rfl
              | false => exact absurd ⟨h, e⟩ c
          rw [kd s this]
          have := lb s this
          have := (co s hs s0 s1).1
          omega
theorem zDI_it (hto : 0 ≤ to ∧ to < 88) (hC : zCo st tk C) (k : Nat) (hk : k ≤ 89) : zDI st tk to C k (zdt (zds st tk) k (zd0 st to)) := by
  induction k with
  | zero => exact zDI_0 hto hC
  | succ k ih =>
    have := zDI_step hC (i := k) (by omega) (ih (by omega))
    rw [show ((k + 1 : Nat) : Int) = (k : Int) + 1 by omega]
    exact this
theorem zcnt_none (n : Nat) : zcnt (fun _ => false) n = 0 := by
  induction n with
  | zero => rfl
  | succ n ih => simp only [zcnt, ih]; rfl
/-- how many are done -/
theorem zds_cnt (P : zDP) : (zpk P.1 P.2 88 = -4 ∧ zds st tk P = P) ∨ (zpk P.1 P.2 88 ≠ -4 ∧ zcnt (zds st tk P).2 88 = zcnt P.2 88 + 1) := by
  rcases zpk_ok P.1 P.2 88 with ⟨p, -⟩ | ⟨p1, p2, p3, -⟩
  · left; exact ⟨p, by unfold zds; rw [if_pos p]⟩
  · right
    refine ⟨by omega, ?_⟩
    unfold zds
    rw [if_neg (by omega)]
    generalize zpk P.1 P.2 88 = b at *
    show zcnt (fun s => P.2 s || decide (s = b)) 88 = _
    rw [zcnt_sum, zcnt_sum]
    have : zsum (fun k => if (P.2 k || decide (k = b)) = true then 1 else 0) 88 = zsum (fun k => (if P.2 k = true then 1 else 0) + if k = b then 1 else 0) 88 := by
      apply zsum_congr
      intro s s0 s1
      by_cases e : s = b
      · subst e; rw [p3]; simp
      · simp [e]
    rw [this, zsum_plus, zsum_one, if_pos (by omega)]
theorem zdt_cnt (k : Nat) : (∃ j, j ≤ k ∧ zdf st tk to (zdt (zds st tk) k (zd0 st to)) ∧ zdt (zds st tk) j (zd0 st to) = zdt (zds st tk) k (zd0 st to)) ∨ zcnt (zdt (zds st tk) k (zd0 st to)).2 88 = k := by
  induction k with
  | zero => right; show zcnt (fun _ => false) 88 = 0; exact zcnt_none 88
  | succ k ih =>
    rcases ih with ⟨j, j1, j2, j3⟩ | h
    · left
      have fx : zds st tk (zdt (zds st tk) k (zd0 st to)) = zdt (zds st tk) k (zd0 st to) := zds_fix j2.choose_spec.2
      refine ⟨j, by omega, ?_, ?_⟩
      · simp only [zdt]; rw [fx]; exact j2
      · simp only [zdt]; rw [fx]; exact j3
    · rcases zds_cnt (st := st) (tk := tk) (zdt (zds st tk) k (zd0 st to)) with ⟨p, q⟩ | ⟨p, q⟩
      · left
        refine ⟨k, by omega, ⟨k, ?_, ?_⟩, ?_⟩
        · simp only [zdt]; rw [q]
        · simp only [zdt]; rw [q]; exact p
        · simp only [zdt]; rw [q]
      · right
        simp only [zdt]
        rw [q, h]
        omega
theorem zdf_ex : ∃ k, k ≤ 88 ∧ zpk (zdt (zds st tk) k (zd0 st to)).1 (zdt (zds st tk) k (zd0 st to)).2 88 = -4 := by
  rcases zdt_cnt (st := st) (tk := tk) (to := to) 88 with ⟨j, j1, ⟨i, i1, i2⟩, j3⟩ | h
  · exact ⟨88, by omega, i2⟩
  · refine ⟨88, by omega, ?_⟩
    rcases zpk_ok (zdt (zds st tk) 88 (zd0 st to)).1 (zdt (zds st tk) 88 (zd0 st to)).2 88 with ⟨p, -⟩ | ⟨p1, p2, p3, -⟩
    · exact p
    · exfalso
      have full : ∀ (p : Int → Bool) (n : Nat), zcnt p n = n → ∀ s : Int, 0 ≤ s → s < n → p s = true := by
        intro p n
        induction n with
        | zero => intro _ s a b; omega
        | succ n ih =>
          intro h s s0 s1
          simp only [zcnt] at h
          have := zcnt_bd p n
          by_cases c : p n = true
          · rw [if_pos c] at h
            by_cases e : s = n
            · rw [e]; exact c
            · exact ih (by omega) s s0 (by omega)
          · rw [if_neg c] at h; omega
      have := full _ _ h _ p1 (by omega)
      rw [p3] at this; cases this
theorem zdf_DI (hto : 0 ≤ to ∧ to < 88) (hC : zCo st tk C) {Q : zDP} (h : zdf st tk to Q) : zDI st tk to C 88 Q ∧ ∀ s, Q.1 s < 1000000 → Q.2 s = true := by
  obtain ⟨k, k88, hk⟩ := zdf_ex (st := st) (tk := tk) (to := to)
  have e := zdf_uniq h ⟨k, rfl, hk⟩
  have fx : zds st tk (zdt (zds st tk) k (zd0 st to)) = zdt (zds st tk) k (zd0 st to) := zds_fix hk
  have e2 : zdt (zds st tk) 88 (zd0 st to) = zdt (zds st tk) k (zd0 st to) := by
    have := zdt_add (zds st tk) (88 - k) k (zd0 st to)
    rw [show 88 - k + k = 88 by omega, zdt_fix fx] at this
    exact this
  have d := zDI_it hto hC 88 (by omega)
  rw [e2, ← e] at d
  refine ⟨d, fun s hs => ?_⟩
  have := d.2.1 s hs
  rcases zpk_ok Q.1 Q.2 88 with ⟨-, p⟩ | ⟨p, -⟩
  · cases hq : Q.2 s with
    | true => rfl
    | false => exact absurd ⟨hq, hs⟩ (p s this.2.1 (by omega))
  · rw [e] at p; omega
end DIJ
