/-! the lexer: what a token is; the class's splitting -/
def zb (f : Int → Int) (n p : Int) : Int := if 0 ≤ p ∧ p < n then f p else 0
def zrn (c : Int → Bool) (p : Int) : Nat → Int
  | 0 => p
  | k + 1 => if c p = true then zrn c (p + 1) k else p
def zbh (c : Int → Bool) (n p : Int) : Int := zrn c p (n - p).toNat
def IsRun (c : Int → Bool) (n p e : Int) : Prop := p ≤ e ∧ e ≤ n ∧ (∀ q, p ≤ q → q < e → c q = true) ∧ (e < n → c e = false)
theorem zrn_run (c : Int → Bool) (k : Nat) : ∀ p : Int, IsRun c (p + k) p (zrn c p k) := by
  induction k with
  | zero => intro p; exact ⟨Int.le_refl _, by simp [zrn], fun q a b => by simp [zrn] at b; omega, fun h => by simp [zrn] at h⟩
  | succ k ih =>
    intro p
    simp only [zrn]
    by_cases h : c p = true
    · rw [if_pos h]
      obtain ⟨a1, a2, a3, a4⟩ := ih (p + 1)
      refine ⟨by omega, by omega, fun q q0 q1 => ?_, fun q => a4 (by omega)⟩
      by_cases e : q = p
      · rw [e]; exact h
      · exact a3 q (by omega) q1
    · rw [if_neg h]
      exact ⟨Int.le_refl _, by omega, fun q a b => by omega, fun _ => by simpa using h⟩
theorem zbh_run (c : Int → Bool) {n p : Int} (h : p ≤ n) : IsRun c n p (zbh c n p) := by
  have := zrn_run c (n - p).toNat p
  rw [show p + ((n - p).toNat : Int) = n by omega] at this
  exact this
theorem run_uniq {c : Int → Bool} {n p e e' : Int} (h : IsRun c n p e) (h' : IsRun c n p e') : e = e' := by
  obtain ⟨a1, a2, a3, a4⟩ := h
  obtain ⟨b1, b2, b3, b4⟩ := h'
  rcases Int.lt_trichotomy e e' with q | q | q
  · have := b3 e a1 q
    rw [a4 (by omega)] at this
    cases this
  · exact q
  · have := a3 e' b1 q
    rw [b4 (by omega)] at this
    cases this
theorem zbh_is {c : Int → Bool} {n p e : Int} (h : IsRun c n p e) : zbh c n p = e := run_uniq (zbh_run c (Int.le_trans h.1 h.2.1)) h
def cB (f : Int → Int) (n p : Int) : Bool := decide (zb f n p = 32)
def cL (f : Int → Int) (n p : Int) : Bool := decide (97 ≤ zb f n p ∧ zb f n p ≤ 122)
def cF (f : Int → Int) (n p : Int) : Bool := decide (48 ≤ zb f n p ∧ zb f n p ≤ 57)
def zwd (i : Int) : List Int := zstl.getD i.toNat []
def zsp (f : Int → Int) (n i s e : Int) : Bool := decide (((zwd i).length : Int) = e - s) && !zany (fun k => decide ((zwd i).getD k.toNat 0 ≠ zb f n (s + k))) (zwd i).length
def zfst (f : Int → Bool) : Nat → Int
  | 0 => -1
  | k + 1 => if 0 ≤ zfst f k then zfst f k else if f k = true then k else -1
theorem zfst_no {f : Int → Bool} {k : Nat} (h : ∀ j : Int, 0 ≤ j → j < k → f j = false) : zfst f k = -1 := by
  induction k with
  | zero => rfl
  | succ k ih =>
    simp only [zfst]
    rw [ih (fun j a b => h j a (by omega)), h k (by omega) (by omega)]
    simp
theorem zfst_is {f : Int → Bool} {k : Nat} {i : Int} (h0 : 0 ≤ i) (h1 : i < k) (hi : f i = true) (h : ∀ j : Int, 0 ≤ j → j < i → f j = false) : zfst f k = i := by
  induction k with
  | zero => omega
  | succ k ih =>
    simp only [zfst]
    by_cases e : i = k
    · subst e
      rw [zfst_no h, hi]
      simp
    · rw [ih (by omega), if_pos h0]
theorem zfst_ok (f : Int → Bool) (k : Nat) : (zfst f k = -1 ∧ ∀ j : Int, 0 ≤ j → j < k → f j = false) ∨ (0 ≤ zfst f k ∧ zfst f k < k ∧ f (zfst f k) = true) := by
  induction k with
  | zero => left; exact ⟨rfl, fun j a b => by omega⟩
  | succ k ih =>
    simp only [zfst]
    rcases ih with ⟨a, b⟩ | ⟨a, b, c⟩
    · rw [a, if_neg (by omega)]
      by_cases h : f k = true
      · rw [if_pos h]; right; exact ⟨by omega, by omega, h⟩
      · rw [if_neg h]; left
        refine ⟨rfl, fun j j0 j1 => ?_⟩
        by_cases e : j = k
        · rw [e]; simpa using h
        · exact b j j0 (by omega)
    · rw [if_pos a]; right; exact ⟨a, by omega, c⟩
def znm (f : Int → Int) (n s e : Int) : Int := zfst (fun i => zsp f n i s e) 11
def zdg (b : Int → Int) (p : Int) : Nat → Int
  | 0 => 0
  | k + 1 => zdg b p k * 10 + b (p + k) - 48
def zlx (f : Int → Int) (n s : Int) : Int × Int × Int :=
  if n ≤ s then (0, 0, s)
  else if cL f n s = true then (if 0 ≤ znm f n s (zbh (cL f n) n s) then (1, znm f n s (zbh (cL f n) n s), zbh (cL f n) n s) else (4, 0, zbh (cL f n) n s))
  else if cF f n s = true then (if 3 < zbh (cF f n) n (s + 1) - s then (4, 0, zbh (cF f n) n (s + 1)) else (2, zdg (zb f n) s (zbh (cF f n) n (s + 1) - s).toNat, zbh (cF f n) n (s + 1)))
  else if zb f n s = 45 then (if zbh (cF f n) n (s + 1) - (s + 1) < 1 ∨ 3 < zbh (cF f n) n (s + 1) - (s + 1) then (4, 0, zbh (cF f n) n (s + 1)) else (2, - zdg (zb f n) (s + 1) (zbh (cF f n) n (s + 1) - (s + 1)).toNat, zbh (cF f n) n (s + 1)))
  else if zb f n s = 59 then (3, 0, s + 1) else (4, 0, s + 1)
def ztk (m : zM) (k s v : Int) : zM := zpr (zpr (zpr (zpr m 65 (zrw (m 65) (m 63 4) k)) 66 (zrw (m 66) (m 63 4) s)) 67 (zrw (m 67) (m 63 4) v)) 63 (zrw (m 63) 4 (m 63 4 + 1))
section LEX
variable {R m : zM} {f : Int → Int} {n : Int}
theorem tz_byte (hXK : XK R) (hf : m 64 = f) (hn : m 63 0 = n) (h320 : 0 ≤ n ∧ n ≤ 320) (p : Int) : ev 38 0 [(2, 63), (0, p)] [] R m = some ((0, zb f n p), R, m) := by
  unfold zb
  simp only [s38_0, s38_1, s38_4, s38_5, s38_6, s38_9, s38_12, s38_13, s38_16, s38_19, s38_20, s38_23, s38_24, s38_25, s38_28, s38_29, zps_0, zps_1, zps_2, zps_3, zps_9, Option.bind_some, Option.bind_none, Int.reduceEq, Int.reduceNe, Int.reduceLT, Int.reduceLE, Int.reduceNeg, Int.reduceAdd, Int.reduceSub, Int.reduceMul, reduceIte, if_true, if_false, true_and, and_true, false_and, and_false, or_true, true_or, or_false, false_or, not_true_eq_false, not_false_eq_true, ite_not, z_b0, z_b1, z_b01, rXK0 hXK, rXK1 hXK, rXK2 hXK, rXK3 hXK, kXK0, kXK1, kXK2, kXK3, kXK4, kXK5, kXK6, kXK7, kXK8, hn, hf]
  (repeat' split) <;> first | rfl | (exfalso; omega)
theorem tz_isLetter (hXK : XK R) (hf : m 64 = f) (hn : m 63 0 = n) (h320 : 0 ≤ n ∧ n ≤ 320) (p : Int) : ev 41 0 [(2, 63), (0, p)] [] R m = some ((0, if cL f n p = true then 1 else 0), R, m) := by
  have B := tz_byte hXK hf hn h320 p
  unfold cL
  simp only [decide_eq_true_eq]
  generalize zb f n p = x at *
  simp only [s41_0, s41_1, s41_2, s41_5, s41_7, s41_10, s41_11, s41_12, s41_15, s41_17, s41_20, s41_21, s41_24, s41_25, zps_0, zps_1, zps_2, zps_3, zps_9, Option.bind_some, Option.bind_none, Int.reduceEq, Int.reduceNe, Int.reduceLT, Int.reduceLE, Int.reduceNeg, Int.reduceAdd, Int.reduceSub, Int.reduceMul, reduceIte, if_true, if_false, true_and, and_true, false_and, and_false, or_true, true_or, or_false, false_or, not_true_eq_false, not_false_eq_true, ite_not, z_b0, z_b1, z_b01, z_em, rXK0 hXK, rXK1 hXK, rXK2 hXK, rXK3 hXK, kXK0, kXK1, kXK2, kXK3, kXK4, kXK5, kXK6, kXK7, kXK8, B]
  (repeat' split) <;> first | rfl | (exfalso; omega)
theorem tz_isFigure (hXK : XK R) (hf : m 64 = f) (hn : m 63 0 = n) (h320 : 0 ≤ n ∧ n ≤ 320) (p : Int) : ev 46 0 [(2, 63), (0, p)] [] R m = some ((0, if cF f n p = true then 1 else 0), R, m) := by
  have B := tz_byte hXK hf hn h320 p
  unfold cF
  simp only [decide_eq_true_eq]
  generalize zb f n p = x at *
  simp only [s46_0, s46_1, s46_2, s46_5, s46_7, s46_10, s46_11, s46_12, s46_15, s46_17, s46_20, s46_21, s46_24, s46_25, zps_0, zps_1, zps_2, zps_3, zps_9, Option.bind_some, Option.bind_none, Int.reduceEq, Int.reduceNe, Int.reduceLT, Int.reduceLE, Int.reduceNeg, Int.reduceAdd, Int.reduceSub, Int.reduceMul, reduceIte, if_true, if_false, true_and, and_true, false_and, and_false, or_true, true_or, or_false, false_or, not_true_eq_false, not_false_eq_true, ite_not, z_b0, z_b1, z_b01, z_em, rXK0 hXK, rXK1 hXK, rXK2 hXK, rXK3 hXK, kXK0, kXK1, kXK2, kXK3, kXK4, kXK5, kXK6, kXK7, kXK8, B]
  (repeat' split) <;> first | rfl | (exfalso; omega)
theorem tz_bBlanks (hXK : XK R) (hf : m 64 = f) (hn : m 63 0 = n) (h320 : 0 ≤ n ∧ n ≤ 320) {p : Int} (hp : 0 ≤ p ∧ p ≤ n) : ev 37 0 [(2, 63), (0, p), (9, 0)] [] R m = some ((0, zbh (cB f n) n p), R, m) := by
  simp only [s37_0, s37_1, s37_3, s37_4, s37_7, s37_10, s37_11, s37_12, s37_15, s37_17, s37_20, s37_23, s37_26, s37_27, zps_0, zps_1, zps_2, zps_3, zps_9, Option.bind_some, Option.bind_none, Int.reduceEq, Int.reduceNe, Int.reduceLT, Int.reduceLE, Int.reduceNeg, Int.reduceAdd, Int.reduceSub, Int.reduceMul, reduceIte, if_true, if_false, true_and, and_true, false_and, and_false, or_true, true_or, or_false, false_or, not_true_eq_false, not_false_eq_true, ite_not, z_b0, z_b1, z_b01]
  refine zloopM (fun r => r = some ((0, zbh (cB f n) n p), R, m)) (fun q => ev 37 2 [(2, 63), (0, p), (0, q)] [] R m) (fun q => (n - q).toNat) (fun q => p ≤ q ∧ q ≤ n ∧ ∀ r, p ≤ r → r < q → cB f n r = true) ?_ p ⟨Int.le_refl _, hp.2, fun r a b => by omega⟩
  rintro q ⟨q0, q1, hq⟩ ih
  have B := tz_byte hXK hf hn h320 q
  have z : zw (q + 1) = q + 1 := zw_i (by omega) (by omega)
  rw [s37_2]
  by_cases c : n ≤ q
  · have e : zbh (cB f n) n p = q := zbh_is ⟨q0, q1, hq, fun h => by omega⟩
    simp only [s37_0, s37_1, s37_3, s37_4, s37_7, s37_10, s37_11, s37_12, s37_15, s37_17, s37_20, s37_23, s37_26, s37_27, zps_0, zps_1, zps_2, zps_3, zps_9, Option.bind_some, Option.bind_none, Int.reduceEq, Int.reduceNe, Int.reduceLT, Int.reduceLE, Int.reduceNeg, Int.reduceAdd, Int.reduceSub, Int.reduceMul, reduceIte, if_true, if_false, true_and, and_true, false_and, and_false, or_true, true_or, or_false, false_or, not_true_eq_false, not_false_eq_true, ite_not, z_b0, z_b1, z_b01, rXK0 hXK, rXK1 hXK, rXK2 hXK, rXK3 hXK, kXK0, kXK1, kXK2, kXK3, kXK4, kXK5, kXK6, kXK7, kXK8, hn, c, if_true, e]
  · by_cases c2 : zb f n q = 32
    · simp only [s37_0, s37_1, s37_3, s37_4, s37_7, s37_10, s37_11, s37_12, s37_15, s37_17, s37_20, s37_23, s37_26, s37_27, zps_0, zps_1, zps_2, zps_3, zps_9, Option.bind_some, Option.bind_none, Int.reduceEq, Int.reduceNe, Int.reduceLT, Int.reduceLE, Int.reduceNeg, Int.reduceAdd, Int.reduceSub, Int.reduceMul, reduceIte, if_true, if_false, true_and, and_true, false_and, and_false, or_true, true_or, or_false, false_or, not_true_eq_false, not_false_eq_true, ite_not, z_b0, z_b1, z_b01, rXK0 hXK, rXK1 hXK, rXK2 hXK, rXK3 hXK, kXK0, kXK1, kXK2, kXK3, kXK4, kXK5, kXK6, kXK7, kXK8, hn, c, if_false, B, c2, if_true, z]
      refine ih (q + 1) ⟨by omega, by omega, fun r r0 r1 => ?_⟩ (by omega)
      by_cases e : r = q
      · rw [e]; unfold cB; rw [c2]; rfl
      · exact hq r r0 (by omega)
    · have e : zbh (cB f n) n p = q := zbh_is ⟨q0, q1, hq, fun h => by unfold cB; exact decide_eq_false c2⟩
      simp only [s37_0, s37_1, s37_3, s37_4, s37_7, s37_10, s37_11, s37_12, s37_15, s37_17, s37_20, s37_23, s37_26, s37_27, zps_0, zps_1, zps_2, zps_3, zps_9, Option.bind_some, Option.bind_none, Int.reduceEq, Int.reduceNe, Int.reduceLT, Int.reduceLE, Int.reduceNeg, Int.reduceAdd, Int.reduceSub, Int.reduceMul, reduceIte, if_true, if_false, true_and, and_true, false_and, and_false, or_true, true_or, or_false, false_or, not_true_eq_false, not_false_eq_true, ite_not, z_b0, z_b1, z_b01, rXK0 hXK, rXK1 hXK, rXK2 hXK, rXK3 hXK, kXK0, kXK1, kXK2, kXK3, kXK4, kXK5, kXK6, kXK7, kXK8, hn, c, if_false, B, c2, e]
theorem tz_bLetters (hXK : XK R) (hf : m 64 = f) (hn : m 63 0 = n) (h320 : 0 ≤ n ∧ n ≤ 320) {p : Int} (hp : 0 ≤ p ∧ p ≤ n) : ev 42 0 [(2, 63), (0, p), (9, 0)] [] R m = some ((0, zbh (cL f n) n p), R, m) := by
  simp only [s42_0, s42_1, s42_3, s42_4, s42_7, s42_10, s42_11, s42_12, s42_15, s42_18, s42_21, s42_24, s42_25, zps_0, zps_1, zps_2, zps_3, zps_9, Option.bind_some, Option.bind_none, Int.reduceEq, Int.reduceNe, Int.reduceLT, Int.reduceLE, Int.reduceNeg, Int.reduceAdd, Int.reduceSub, Int.reduceMul, reduceIte, if_true, if_false, true_and, and_true, false_and, and_false, or_true, true_or, or_false, false_or, not_true_eq_false, not_false_eq_true, ite_not, z_b0, z_b1, z_b01]
  refine zloopM (fun r => r = some ((0, zbh (cL f n) n p), R, m)) (fun q => ev 42 2 [(2, 63), (0, p), (0, q)] [] R m) (fun q => (n - q).toNat) (fun q => p ≤ q ∧ q ≤ n ∧ ∀ r, p ≤ r → r < q → cL f n r = true) ?_ p ⟨Int.le_refl _, hp.2, fun r a b => by omega⟩
  rintro q ⟨q0, q1, hq⟩ ih
  have B := tz_isLetter hXK hf hn h320 q
  have z : zw (q + 1) = q + 1 := zw_i (by omega) (by omega)
  rw [s42_2]
  by_cases c : n ≤ q
  · have e : zbh (cL f n) n p = q := zbh_is ⟨q0, q1, hq, fun h => by omega⟩
    simp only [s42_0, s42_1, s42_3, s42_4, s42_7, s42_10, s42_11, s42_12, s42_15, s42_18, s42_21, s42_24, s42_25, zps_0, zps_1, zps_2, zps_3, zps_9, Option.bind_some, Option.bind_none, Int.reduceEq, Int.reduceNe, Int.reduceLT, Int.reduceLE, Int.reduceNeg, Int.reduceAdd, Int.reduceSub, Int.reduceMul, reduceIte, if_true, if_false, true_and, and_true, false_and, and_false, or_true, true_or, or_false, false_or, not_true_eq_false, not_false_eq_true, ite_not, z_b0, z_b1, z_b01, rXK0 hXK, rXK1 hXK, rXK2 hXK, rXK3 hXK, kXK0, kXK1, kXK2, kXK3, kXK4, kXK5, kXK6, kXK7, kXK8, hn, c, if_true, e]
  · by_cases c2 : cL f n q = true
    · simp only [s42_0, s42_1, s42_3, s42_4, s42_7, s42_10, s42_11, s42_12, s42_15, s42_18, s42_21, s42_24, s42_25, zps_0, zps_1, zps_2, zps_3, zps_9, Option.bind_some, Option.bind_none, Int.reduceEq, Int.reduceNe, Int.reduceLT, Int.reduceLE, Int.reduceNeg, Int.reduceAdd, Int.reduceSub, Int.reduceMul, reduceIte, if_true, if_false, true_and, and_true, false_and, and_false, or_true, true_or, or_false, false_or, not_true_eq_false, not_false_eq_true, ite_not, z_b0, z_b1, z_b01, rXK0 hXK, rXK1 hXK, rXK2 hXK, rXK3 hXK, kXK0, kXK1, kXK2, kXK3, kXK4, kXK5, kXK6, kXK7, kXK8, hn, c, if_false, B, c2, if_true, z]
      refine ih (q + 1) ⟨by omega, by omega, fun r r0 r1 => ?_⟩ (by omega)
      by_cases e : r = q
      · rw [e]; exact c2
      · exact hq r r0 (by omega)
    · have e : zbh (cL f n) n p = q := zbh_is ⟨q0, q1, hq, fun h => by simpa using c2⟩
      simp only [s42_0, s42_1, s42_3, s42_4, s42_7, s42_10, s42_11, s42_12, s42_15, s42_18, s42_21, s42_24, s42_25, zps_0, zps_1, zps_2, zps_3, zps_9, Option.bind_some, Option.bind_none, Int.reduceEq, Int.reduceNe, Int.reduceLT, Int.reduceLE, Int.reduceNeg, Int.reduceAdd, Int.reduceSub, Int.reduceMul, reduceIte, if_true, if_false, true_and, and_true, false_and, and_false, or_true, true_or, or_false, false_or, not_true_eq_false, not_false_eq_true, ite_not, z_b0, z_b1, z_b01, rXK0 hXK, rXK1 hXK, rXK2 hXK, rXK3 hXK, kXK0, kXK1, kXK2, kXK3, kXK4, kXK5, kXK6, kXK7, kXK8, hn, c, if_false, B, c2, e, Bool.false_eq_true]
theorem tz_bFigures (hXK : XK R) (hf : m 64 = f) (hn : m 63 0 = n) (h320 : 0 ≤ n ∧ n ≤ 320) {p : Int} (hp : 0 ≤ p ∧ p ≤ n) : ev 47 0 [(2, 63), (0, p), (9, 0)] [] R m = some ((0, zbh (cF f n) n p), R, m) := by
  simp only [s47_0, s47_1, s47_3, s47_4, s47_7, s47_10, s47_11, s47_12, s47_15, s47_18, s47_21, s47_24, s47_25, zps_0, zps_1, zps_2, zps_3, zps_9, Option.bind_some, Option.bind_none, Int.reduceEq, Int.reduceNe, Int.reduceLT, Int.reduceLE, Int.reduceNeg, Int.reduceAdd, Int.reduceSub, Int.reduceMul, reduceIte, if_true, if_false, true_and, and_true, false_and, and_false, or_true, true_or, or_false, false_or, not_true_eq_false, not_false_eq_true, ite_not, z_b0, z_b1, z_b01]
  refine zloopM (fun r => r = some ((0, zbh (cF f n) n p), R, m)) (fun q => ev 47 2 [(2, 63), (0, p), (0, q)] [] R m) (fun q => (n - q).toNat) (fun q => p ≤ q ∧ q ≤ n ∧ ∀ r, p ≤ r → r < q → cF f n r = true) ?_ p ⟨Int.le_refl _, hp.2, fun r a b => by omega⟩
  rintro q ⟨q0, q1, hq⟩ ih
  have B := tz_isFigure hXK hf hn h320 q
  have z : zw (q + 1) = q + 1 := zw_i (by omega) (by omega)
  rw [s47_2]
  by_cases c : n ≤ q
  · have e : zbh (cF f n) n p = q := zbh_is ⟨q0, q1, hq, fun h => by omega⟩
    simp only [s47_0, s47_1, s47_3, s47_4, s47_7, s47_10, s47_11, s47_12, s47_15, s47_18, s47_21, s47_24, s47_25, zps_0, zps_1, zps_2, zps_3, zps_9, Option.bind_some, Option.bind_none, Int.reduceEq, Int.reduceNe, Int.reduceLT, Int.reduceLE, Int.reduceNeg, Int.reduceAdd, Int.reduceSub, Int.reduceMul, reduceIte, if_true, if_false, true_and, and_true, false_and, and_false, or_true, true_or, or_false, false_or, not_true_eq_false, not_false_eq_true, ite_not, z_b0, z_b1, z_b01, rXK0 hXK, rXK1 hXK, rXK2 hXK, rXK3 hXK, kXK0, kXK1, kXK2, kXK3, kXK4, kXK5, kXK6, kXK7, kXK8, hn, c, if_true, e]
  · by_cases c2 : cF f n q = true
    · simp only [s47_0, s47_1, s47_3, s47_4, s47_7, s47_10, s47_11, s47_12, s47_15, s47_18, s47_21, s47_24, s47_25, zps_0, zps_1, zps_2, zps_3, zps_9, Option.bind_some, Option.bind_none, Int.reduceEq, Int.reduceNe, Int.reduceLT, Int.reduceLE, Int.reduceNeg, Int.reduceAdd, Int.reduceSub, Int.reduceMul, reduceIte, if_true, if_false, true_and, and_true, false_and, and_false, or_true, true_or, or_false, false_or, not_true_eq_false, not_false_eq_true, ite_not, z_b0, z_b1, z_b01, rXK0 hXK, rXK1 hXK, rXK2 hXK, rXK3 hXK, kXK0, kXK1, kXK2, kXK3, kXK4, kXK5, kXK6, kXK7, kXK8, hn, c, if_false, B, c2, if_true, z]
      refine ih (q + 1) ⟨by omega, by omega, fun r r0 r1 => ?_⟩ (by omega)
      by_cases e : r = q
      · rw [e]; exact c2
      · exact hq r r0 (by omega)
    · have e : zbh (cF f n) n p = q := zbh_is ⟨q0, q1, hq, fun h => by simpa using c2⟩
      simp only [s47_0, s47_1, s47_3, s47_4, s47_7, s47_10, s47_11, s47_12, s47_15, s47_18, s47_21, s47_24, s47_25, zps_0, zps_1, zps_2, zps_3, zps_9, Option.bind_some, Option.bind_none, Int.reduceEq, Int.reduceNe, Int.reduceLT, Int.reduceLE, Int.reduceNeg, Int.reduceAdd, Int.reduceSub, Int.reduceMul, reduceIte, if_true, if_false, true_and, and_true, false_and, and_false, or_true, true_or, or_false, false_or, not_true_eq_false, not_false_eq_true, ite_not, z_b0, z_b1, z_b01, rXK0 hXK, rXK1 hXK, rXK2 hXK, rXK3 hXK, kXK0, kXK1, kXK2, kXK3, kXK4, kXK5, kXK6, kXK7, kXK8, hn, c, if_false, B, c2, e, Bool.false_eq_true]
theorem tz_addToken (hXK : XK R) (h : 0 ≤ m 63 4 ∧ m 63 4 ≤ 320) (k s v : Int) : ev 40 0 [(2, 63), (0, k), (0, s), (0, v)] [] R m = some ((9, 0), R, ztk m k s v) := by
  have c1 : 0 ≤ m 63 4 ∧ m 63 4 < 321 := by omega
  have c2 : 0 ≤ m 63 4 := h.1
  have c3 : ¬ (320 < m 63 4) := by omega
  have c4 : m 63 4 ≤ 320 := h.2
  have z : zw (m 63 4 + 1) = m 63 4 + 1 := zw_i (by omega) (by omega)
  simp only [s40_0, s40_1, s40_4, s40_7, s40_8, s40_11, s40_14, s40_17, s40_18, s40_19, s40_22, s40_23, s40_26, s40_27, s40_28, s40_29, s40_32, s40_33, s40_36, s40_37, s40_38, s40_39, s40_42, s40_43, s40_46, s40_47, s40_48, s40_49, s40_50, s40_53, s40_54, s40_55, s40_58, zps_0, zps_1, zps_2, zps_3, zps_9, Option.bind_some, Option.bind_none, Int.reduceEq, Int.reduceNe, Int.reduceLT, Int.reduceLE, Int.reduceNeg, Int.reduceAdd, Int.reduceSub, Int.reduceMul, reduceIte, if_true, if_false, true_and, and_true, false_and, and_false, or_true, true_or, or_false, false_or, not_true_eq_false, not_false_eq_true, ite_not, z_b0, z_b1, z_b01, rXK0 hXK, rXK1 hXK, rXK2 hXK, rXK3 hXK, kXK0, kXK1, kXK2, kXK3, kXK4, kXK5, kXK6, kXK7, kXK8, zup_zpr]
  simp (disch := first | decide | omega) only [if_pos, if_neg, zpr_ne, zpr_at, zps_0, zps_1, zps_2, zps_3, zps_9, Option.bind_some, Option.bind_none, Int.reduceEq, Int.reduceNe, Int.reduceLT, Int.reduceLE, Int.reduceNeg, Int.reduceAdd, Int.reduceSub, Int.reduceMul, reduceIte, if_true, if_false, true_and, and_true, false_and, and_false, or_true, true_or, or_false, false_or, not_true_eq_false, not_false_eq_true, ite_not, z_b0, z_b1, z_b01, rXK0 hXK, rXK1 hXK, rXK2 hXK, rXK3 hXK, kXK0, kXK1, kXK2, kXK3, kXK4, kXK5, kXK6, kXK7, kXK8, zup_zpr, z]
  rfl
theorem tz_spells (hXK : XK R) (hf : m 64 = f) (hn : m 63 0 = n) (h320 : 0 ≤ n ∧ n ≤ 320) {i s e : Int} (hs : 0 ≤ s ∧ s ≤ e ∧ e ≤ n) : ev 45 0 [(2, 63), (3, i), (0, s), (0, e), (9, 0)] [] R m = some ((0, if zsp f n i s e = true then 1 else 0), R, m) := by
  have z0 : zw (e - s) = e - s := zw_i (by omega) (by omega)
  have hz : zstl.getD i.toNat [] = zwd i := rfl
  unfold zsp
  by_cases hl : ((zwd i).length : Int) = e - s
  · rw [decide_eq_true hl, Bool.true_and]
    have key := zloop (fun r => r = some ((0, if (!zany (fun k => decide ((zwd i).getD k.toNat 0 ≠ zb f n (s + k))) (zwd i).length) = true then 1 else 0), R, m)) (fun k (_ : Unit) => ev 45 15 [(2, 63), (3, i), (0, s), (0, e), (0, k)] [] R m) ((zwd i).length : Int) (fun k _ => 0 ≤ k ∧ zany (fun k => decide ((zwd i).getD k.toNat 0 ≠ zb f n (s + k))) k.toNat = false) (fun k _ hk hI ih => by
      obtain ⟨k0, hI⟩ := hI
      have z1 : zw (s + k) = s + k := zw_i (by omega) (by omega)
      have z2 : zw (k + 1) = k + 1 := zw_i (by omega) (by omega)
      have B := tz_byte hXK hf hn h320 (s + k)
      have c : ¬ ((zwd i).length : Int) ≤ k := by omega
      rw [s45_15]
      simp only [s45_0, s45_1, s45_4, s45_5, s45_6, s45_7, s45_10, s45_11, s45_12, s45_13, s45_17, s45_18, s45_21, s45_24, s45_25, s45_27, s45_30, s45_31, s45_32, s45_34, s45_35, s45_38, s45_41, s45_42, s45_43, s45_46, s45_49, s45_50, zps_0, zps_1, zps_2, zps_3, zps_9, Option.bind_some, Option.bind_none, Int.reduceEq, Int.reduceNe, Int.reduceLT, Int.reduceLE, Int.reduceNeg, Int.reduceAdd, Int.reduceSub, Int.reduceMul, reduceIte, if_true, if_false, true_and, and_true, false_and, and_false, or_true, true_or, or_false, false_or, not_true_eq_false, not_false_eq_true, ite_not, z_b0, z_b1, z_b01, rXK0 hXK, rXK1 hXK, rXK2 hXK, rXK3 hXK, kXK0, kXK1, kXK2, kXK3, kXK4, kXK5, kXK6, kXK7, kXK8, hz, c, if_false, k0, hk, and_self, if_true, z1, B]
      by_cases q : (zwd i).getD k.toNat 0 = zb f n (s + k)
      · rw [if_pos q]
        simp only [s45_0, s45_1, s45_4, s45_5, s45_6, s45_7, s45_10, s45_11, s45_12, s45_13, s45_17, s45_18, s45_21, s45_24, s45_25, s45_27, s45_30, s45_31, s45_32, s45_34, s45_35, s45_38, s45_41, s45_42, s45_43, s45_46, s45_49, s45_50, zps_0, zps_1, zps_2, zps_3, zps_9, Option.bind_some, Option.bind_none, Int.reduceEq, Int.reduceNe, Int.reduceLT, Int.reduceLE, Int.reduceNeg, Int.reduceAdd, Int.reduceSub, Int.reduceMul, reduceIte, if_true, if_false, true_and, and_true, false_and, and_false, or_true, true_or, or_false, false_or, not_true_eq_false, not_false_eq_true, ite_not, z_b0, z_b1, z_b01, z2]
        refine ih () ⟨by omega, ?_⟩
        rw [zany_step _ k0, hI, Bool.false_or]
        exact decide_eq_false (fun z => z q)
      · rw [if_neg q]
        try simp only [s45_0, s45_1, s45_4, s45_5, s45_6, s45_7, s45_10, s45_11, s45_12, s45_13, s45_17, s45_18, s45_21, s45_24, s45_25, s45_27, s45_30, s45_31, s45_32, s45_34, s45_35, s45_38, s45_41, s45_42, s45_43, s45_46, s45_49, s45_50, zps_0, zps_1, zps_2, zps_3, zps_9, Option.bind_some, Option.bind_none, Int.reduceEq, Int.reduceNe, Int.reduceLT, Int.reduceLE, Int.reduceNeg, Int.reduceAdd, Int.reduceSub, Int.reduceMul, reduceIte, if_true, if_false, true_and, and_true, false_and, and_false, or_true, true_or, or_false, false_or, not_true_eq_false, not_false_eq_true, ite_not, z_b0, z_b1, z_b01, true_or, if_true]
        have : zany (fun k => decide ((zwd i).getD k.toNat 0 ≠ zb f n (s + k))) (zwd i).length = true := (zany_iff _ _).2 ⟨k, k0, hk, decide_eq_true q⟩
        rw [this]
        rfl) (fun _ hI => by
      obtain ⟨-, hI⟩ := hI
      rw [show ((zwd i).length : Int).toNat = (zwd i).length by omega] at hI
      rw [hI, s45_15]
      simp only [s45_0, s45_1, s45_4, s45_5, s45_6, s45_7, s45_10, s45_11, s45_12, s45_13, s45_17, s45_18, s45_21, s45_24, s45_25, s45_27, s45_30, s45_31, s45_32, s45_34, s45_35, s45_38, s45_41, s45_42, s45_43, s45_46, s45_49, s45_50, zps_0, zps_1, zps_2, zps_3, zps_9, Option.bind_some, Option.bind_none, Int.reduceEq, Int.reduceNe, Int.reduceLT, Int.reduceLE, Int.reduceNeg, Int.reduceAdd, Int.reduceSub, Int.reduceMul, reduceIte, if_true, if_false, true_and, and_true, false_and, and_false, or_true, true_or, or_false, false_or, not_true_eq_false, not_false_eq_true, ite_not, z_b0, z_b1, z_b01, hz, Int.le_refl, if_true, or_true, Bool.not_false]) 0 () (by omega) ⟨Int.le_refl _, rfl⟩
    simp only [s45_0, s45_1, s45_4, s45_5, s45_6, s45_7, s45_10, s45_11, s45_12, s45_13, s45_17, s45_18, s45_21, s45_24, s45_25, s45_27, s45_30, s45_31, s45_32, s45_34, s45_35, s45_38, s45_41, s45_42, s45_43, s45_46, s45_49, s45_50, zps_0, zps_1, zps_2, zps_3, zps_9, Option.bind_some, Option.bind_none, Int.reduceEq, Int.reduceNe, Int.reduceLT, Int.reduceLE, Int.reduceNeg, Int.reduceAdd, Int.reduceSub, Int.reduceMul, reduceIte, if_true, if_false, true_and, and_true, false_and, and_false, or_true, true_or, or_false, false_or, not_true_eq_false, not_false_eq_true, ite_not, z_b0, z_b1, z_b01, hz, hl, z0, if_true]
    exact key
  · rw [decide_eq_false hl, Bool.false_and]
    simp only [s45_0, s45_1, s45_4, s45_5, s45_6, s45_7, s45_10, s45_11, s45_12, s45_13, s45_17, s45_18, s45_21, s45_24, s45_25, s45_27, s45_30, s45_31, s45_32, s45_34, s45_35, s45_38, s45_41, s45_42, s45_43, s45_46, s45_49, s45_50, zps_0, zps_1, zps_2, zps_3, zps_9, Option.bind_some, Option.bind_none, Int.reduceEq, Int.reduceNe, Int.reduceLT, Int.reduceLE, Int.reduceNeg, Int.reduceAdd, Int.reduceSub, Int.reduceMul, reduceIte, if_true, if_false, true_and, and_true, false_and, and_false, or_true, true_or, or_false, false_or, not_true_eq_false, not_false_eq_true, ite_not, z_b0, z_b1, z_b01, hz, hl, z0, if_false, true_or, if_true, Bool.false_eq_true]
end LEX
