/-! tools over the small machine's equations -/
theorem zw_i {x : Int} (h1 : -2147483648 ≤ x) (h2 : x ≤ 2147483647) : zw x = x := by unfold zw; omega
theorem zwL_i {x : Int} (h1 : -9223372036854775808 ≤ x) (h2 : x ≤ 9223372036854775807) : zwL x = x := by unfold zwL; omega
theorem z_b0 (c : Prop) [Decidable c] : ((if c then (1 : Int) else 0) = 0) = ¬ c := by
  split <;> simp_all
theorem z_b1 (c : Prop) [Decidable c] : ((if c then (1 : Int) else 0) = 1) = c := by
  split <;> simp_all
theorem z_b01 (c : Prop) [Decidable c] : ((if c then (1 : Int) else 0) = 0 ∨ (if c then (1 : Int) else 0) = 1) = True := by
  split <;> simp
theorem z_bite {α β : Type} (c : Prop) [Decidable c] (a b : Option α) (f : α → Option β) : (if c then a else b).bind f = if c then a.bind f else b.bind f := by
  split <;> rfl
theorem zup_at (m : zM) (a k v : Int) : zup m a k v a k = v := by unfold zup; simp
theorem zup_row {m : zM} {a k v b : Int} (h : b ≠ a) : zup m a k v b = m b := by funext q; unfold zup; simp [h]
theorem zup_ne {m : zM} {a k v b q : Int} (h : b ≠ a ∨ q ≠ k) : zup m a k v b q = m b q := by
  unfold zup
  rw [if_neg]
  rintro ⟨h1, h2⟩
  rcases h with h | h
  · exact h h1
  · exact h h2
/-- a row of a memory with one place put -/
def zrw (f : Int → Int) (k v : Int) : Int → Int := fun q => if q = k then v else f q
theorem zup_self (m : zM) (a k v : Int) : zup m a k v a = zrw (m a) k v := by funext q; unfold zup zrw; simp
theorem zrw_at (f : Int → Int) (k v : Int) : zrw f k v k = v := by unfold zrw; simp
theorem zrw_ne {f : Int → Int} {k v q : Int} (h : q ≠ k) : zrw f k v q = f q := by unfold zrw; simp [h]
/-- memories that differ at most in the rows of a list -/
def zfr (l : List Int) (m m' : zM) : Prop := ∀ a : Int, a ∉ l → m' a = m a
theorem zfr_rf (l : List Int) (m : zM) : zfr l m m := fun _ _ => rfl
theorem zfr_tr {l : List Int} {m m' m'' : zM} (h1 : zfr l m m') (h2 : zfr l m' m'') : zfr l m m'' := fun a h => (h2 a h).trans (h1 a h)
theorem zfr_mono {l l' : List Int} {m m' : zM} (h : zfr l m m') (hl : ∀ a ∈ l, a ∈ l') : zfr l' m m' := fun a ha => h a (fun q => ha (hl a q))
theorem zfr_up (m : zM) (a k v : Int) : zfr [a] m (zup m a k v) := fun b h => zup_row (by simpa using h)
theorem zfr_up2 {l : List Int} {m m' : zM} {a : Int} (k v : Int) (h : zfr l m m') (ha : a ∈ l) : zfr l m (zup m' a k v) := fun b hb => (zup_row (fun (e : b = a) => hb (by rw [e]; exact ha))).trans (h b hb)
/-- a loop that counts up -/
theorem zloop {α β : Type} (P : β → Prop) (F : Int → α → β) (n : Int) (I : Int → α → Prop) (hs : ∀ k a, k < n → I k a → (∀ a', I (k + 1) a' → P (F (k + 1) a')) → P (F k a)) (hx : ∀ a, I n a → P (F n a)) : ∀ k a, k ≤ n → I k a → P (F k a) := by
  have key : ∀ d : Nat, ∀ k a, k ≤ n → (n - k).toNat = d → I k a → P (F k a) := by
    intro d
    induction d with
    | zero =>
      intro k a h1 h2 hI
      have : k = n := by omega
      subst this
      exact hx a hI
    | succ d ih =>
      intro k a h1 h2 hI
      exact hs k a (by omega) hI (fun a' hI' => ih (k + 1) a' (by omega) (by omega) hI')
  intro k a h1 hI
  exact key _ k a h1 rfl hI
/-- a loop whose measure falls -/
theorem zloopM {α β : Type} (P : β → Prop) (F : α → β) (μ : α → Nat) (I : α → Prop) (hs : ∀ a, I a → (∀ a', I a' → μ a' < μ a → P (F a')) → P (F a)) : ∀ a, I a → P (F a) := by
  have key : ∀ d : Nat, ∀ a, μ a ≤ d → I a → P (F a) := by
    intro d
    induction d with
    | zero => intro a h hI; exact hs a hI (fun a' _ h' => by omega)
    | succ d ih => intro a h hI; exact hs a hI (fun a' hI' h' => ih a' (by omega) hI')
  intro a hI
  exact key _ a (Nat.le_refl _) hI
/-- sums and folds over 0 .. n - 1 -/
def zsum (f : Int → Int) : Nat → Int
  | 0 => 0
  | n + 1 => zsum f n + f n
theorem zsum_congr {f g : Int → Int} {n : Nat} (h : ∀ k : Int, 0 ≤ k → k < n → f k = g k) : zsum f n = zsum g n := by
  induction n with
  | zero => rfl
  | succ n ih =>
    simp only [zsum]
    rw [ih (fun k h0 h1 => h k h0 (by omega)), h n (by omega) (by omega)]
theorem zsum_bd {f : Int → Int} {n : Nat} {lo hi : Int} (h : ∀ k : Int, 0 ≤ k → k < n → lo ≤ f k ∧ f k ≤ hi) : lo * n ≤ zsum f n ∧ zsum f n ≤ hi * n := by
  induction n with
  | zero => simp [zsum]
  | succ n ih =>
    have h1 := ih (fun k h0 h1 => h k h0 (by omega))
    have h2 := h n (by omega) (by omega)
    simp only [zsum]
    have e1 : lo * ((n + 1 : Nat) : Int) = lo * n + lo := by rw [Int.natCast_add, Int.mul_add]; simp
    have e2 : hi * ((n + 1 : Nat) : Int) = hi * n + hi := by rw [Int.natCast_add, Int.mul_add]; simp
    omega
theorem zsum_step (f : Int → Int) {k : Int} (h : 0 ≤ k) : zsum f (k + 1).toNat = zsum f k.toNat + f k := by
  obtain ⟨n, rfl⟩ := Int.eq_ofNat_of_zero_le h
  rfl
/-- how many of 0 .. n - 1 are such -/
def zcnt (p : Int → Bool) : Nat → Int
  | 0 => 0
  | n + 1 => zcnt p n + if p n = true then 1 else 0
theorem zcnt_congr {f g : Int → Bool} {n : Nat} (h : ∀ k : Int, 0 ≤ k → k < n → f k = g k) : zcnt f n = zcnt g n := by
  induction n with
  | zero => rfl
  | succ n ih =>
    simp only [zcnt]
    rw [ih (fun k h0 h1 => h k h0 (by omega)), h n (by omega) (by omega)]
theorem zcnt_bd (p : Int → Bool) (n : Nat) : 0 ≤ zcnt p n ∧ zcnt p n ≤ n := by
  induction n with
  | zero => simp [zcnt]
  | succ n ih => simp only [zcnt]; split <;> omega
theorem zcnt_step (p : Int → Bool) {k : Int} (h : 0 ≤ k) : zcnt p (k + 1).toNat = zcnt p k.toNat + if p k = true then 1 else 0 := by
  obtain ⟨n, rfl⟩ := Int.eq_ofNat_of_zero_le h
  rfl
theorem zcnt_le {p : Int → Bool} {a b : Nat} (h : a ≤ b) (hp : ∀ k : Int, a ≤ k → k < b → p k = false) : zcnt p b = zcnt p a := by
  induction h with
  | refl => rfl
  | step h ih =>
    rename_i c
    have : a ≤ c := h
    simp only [zcnt]
    rw [ih (fun k h0 h1 => hp k h0 (by omega)), hp c (by omega) (by omega)]
    simp
/-- whether one of 0 .. n - 1 is such -/
def zany (p : Int → Bool) : Nat → Bool
  | 0 => false
  | n + 1 => zany p n || p n
theorem zany_step (p : Int → Bool) {k : Int} (h : 0 ≤ k) : zany p (k + 1).toNat = (zany p k.toNat || p k) := by
  obtain ⟨n, rfl⟩ := Int.eq_ofNat_of_zero_le h
  rfl
theorem zany_iff (p : Int → Bool) (n : Nat) : zany p n = true ↔ ∃ k : Int, 0 ≤ k ∧ k < n ∧ p k = true := by
  induction n with
  | zero => simp [zany]; intro k h1 h2; omega
  | succ n ih =>
    simp only [zany, Bool.or_eq_true, ih]
    constructor
    · rintro (⟨k, h1, h2, h3⟩ | h)
      · exact ⟨k, h1, by omega, h3⟩
      · exact ⟨n, by omega, by omega, h⟩
    · rintro ⟨k, h1, h2, h3⟩
      by_cases hk : k = n
      · subst hk; exact Or.inr h3
      · exact Or.inl ⟨k, h1, by omega, h3⟩
theorem zany_congr {f g : Int → Bool} {n : Nat} (h : ∀ k : Int, 0 ≤ k → k < n → f k = g k) : zany f n = zany g n := by
  induction n with
  | zero => rfl
  | succ n ih =>
    simp only [zany]
    rw [ih (fun k h0 h1 => h k h0 (by omega)), h n (by omega) (by omega)]
