/-! what the small machine's values, memories and locals are in the true one -/
theorem zw_bmod (x : Int) : zw x = x.bmod (2 ^ 32) := by
  unfold zw
  rw [Int.bmod_def]
  split <;> omega
theorem zwL_bmod (x : Int) : zwL x = x.bmod (2 ^ 64) := by
  unfold zwL
  rw [Int.bmod_def]
  split <;> omega
def zi32 (x : Int) : Prop := -2147483648 ≤ x ∧ x < 2147483648
def zi64 (x : Int) : Prop := -9223372036854775808 ≤ x ∧ x < 9223372036854775808
theorem zw_in (x : Int) : zi32 (zw x) := by unfold zi32 zw; omega
theorem zwL_in (x : Int) : zi64 (zwL x) := by unfold zi64 zwL; omega
theorem zw_id {x : Int} (h : zi32 x) : zw x = x := by unfold zi32 at h; unfold zw; omega
theorem zwL_id {x : Int} (h : zi64 x) : zwL x = x := by unfold zi64 at h; unfold zwL; omega
theorem z_toInt (x : Int) : (Int32.ofInt x).toInt = zw x := by rw [zw_bmod]; exact Int32.toInt_ofInt
theorem z_toInt64 (x : Int) : (Int64.ofInt x).toInt = zwL x := by rw [zwL_bmod]; exact Int64.toInt_ofInt
theorem z_of {x : Int} (h : zi32 x) : (Int32.ofInt x).toInt = x := by rw [z_toInt, zw_id h]
theorem z_of64 {x : Int} (h : zi64 x) : (Int64.ofInt x).toInt = x := by rw [z_toInt64, zwL_id h]
theorem z_rng (i : Int32) : zi32 i.toInt := by
  have h1 := Int32.minValue_le_toInt i
  have h2 := Int32.toInt_lt i
  unfold zi32
  constructor
  · simpa using h1
  · simpa using h2
theorem z_rng64 (i : Int64) : zi64 i.toInt := by
  have h1 := Int64.minValue_le_toInt i
  have h2 := Int64.toInt_lt i
  unfold zi64
  constructor
  · simpa using h1
  · simpa using h2
theorem z_back (i : Int32) : Int32.ofInt i.toInt = i := Int32.ofInt_toInt i
theorem z_back64 (i : Int64) : Int64.ofInt i.toInt = i := Int64.ofInt_toInt i
theorem z_ofw (x : Int) : Int32.ofInt (zw x) = Int32.ofInt x := by
  apply Int32.toInt_inj.mp
  rw [z_of (zw_in x), z_toInt]
theorem z_ofwL (x : Int) : Int64.ofInt (zwL x) = Int64.ofInt x := by
  apply Int64.toInt_inj.mp
  rw [z_of64 (zwL_in x), z_toInt64]
theorem z_inj {x y : Int} (hx : zi32 x) (hy : zi32 y) : Int32.ofInt x = Int32.ofInt y ↔ x = y := by
  constructor
  · intro h
    rw [← z_of hx, ← z_of hy, h]
  · intro h; rw [h]
theorem z_lt {x y : Int} (hx : zi32 x) (hy : zi32 y) : Int32.ofInt x < Int32.ofInt y ↔ x < y := by
  rw [Int32.lt_iff_toInt_lt, z_of hx, z_of hy]
theorem z_le {x y : Int} (hx : zi32 x) (hy : zi32 y) : Int32.ofInt x ≤ Int32.ofInt y ↔ x ≤ y := by
  rw [Int32.le_iff_toInt_le, z_of hx, z_of hy]
theorem z_lt64 {x y : Int} (hx : zi64 x) (hy : zi64 y) : Int64.ofInt x < Int64.ofInt y ↔ x < y := by
  rw [Int64.lt_iff_toInt_lt, z_of64 hx, z_of64 hy]
theorem z_inj64 {x y : Int} (hx : zi64 x) (hy : zi64 y) : Int64.ofInt x = Int64.ofInt y ↔ x = y := by
  constructor
  · intro h
    rw [← z_of64 hx, ← z_of64 hy, h]
  · intro h; rw [h]
theorem z_0 : zi32 0 := by unfold zi32; omega
theorem z_add (x y : Int) : Int32.ofInt x + Int32.ofInt y = Int32.ofInt (zw (x + y)) := by rw [z_ofw, Int32.ofInt_add]
theorem z_sub (x y : Int) : Int32.ofInt x - Int32.ofInt y = Int32.ofInt (zw (x - y)) := by rw [z_ofw, Int32.ofInt_sub]
theorem z_mul (x y : Int) : Int32.ofInt x * Int32.ofInt y = Int32.ofInt (zw (x * y)) := by rw [z_ofw, Int32.ofInt_mul]
theorem z_neg (x : Int) : -Int32.ofInt x = Int32.ofInt (zw (-x)) := by rw [z_ofw, Int32.ofInt_neg]
theorem z_32 (f : Int32 → Int32 → Int32) (x y : Int) : f (Int32.ofInt x) (Int32.ofInt y) = Int32.ofInt (z32 f x y) := by unfold z32; rw [z_back]
theorem z_64 (f : Int64 → Int64 → Int64) (x y : Int) : f (Int64.ofInt x) (Int64.ofInt y) = Int64.ofInt (z64 f x y) := by unfold z64; rw [z_back64]
theorem z_6s (f : Int64 → Int32 → Int64) (x y : Int) : f (Int64.ofInt x) (Int32.ofInt y) = Int64.ofInt (z6s f x y) := by unfold z6s; rw [z_back64]
/-- a value as the true machine has it: cells from B on, text constants at adK, the script at b -/
def zval (B : Nat) (adK : Nat → Nat) (b : Nat) (v : zV) : Value := match v.1 with
  | 0 => .int (Int32.ofInt v.2)
  | 1 => .long (Int64.ofInt v.2)
  | 2 => if v.2 ≤ 0 then .null else .ref (B + (v.2 - 1).toNat)
  | 3 => .ref (adK v.2.toNat)
  | 4 => .ref b
  | _ => .null
def zvok (R : zM) (v : zV) : Prop := match v.1 with
  | 0 => zi32 v.2
  | 1 => zi64 v.2
  | 2 => 0 ≤ v.2 ∧ v.2 ≤ R 0 0
  | 3 => 0 ≤ v.2 ∧ v.2 < 12
  | _ => True
def zopt (B : Nat) (x : Int) : Option Nat := if x ≤ 0 then none else some (B + (x - 1).toNat)
theorem z_rf (B : Nat) (adK : Nat → Nat) (b : Nat) (x : Int) : va_rf (zopt B x) = zval B adK b (2, x) := by
  unfold zopt zval
  simp only
  split <;> rfl
/-- the cell of a label -/
def zcell (B : Nat) (cy : ClassId × ClassId × ClassId × ClassId) (R m : zM) (a : Int) : va_E :=
  if KX R a = 20 then .inl (cy.1, (LX R a).toNat, .inl (fun j => Int32.ofInt (m a (j : Int))))
  else if KX R a = 21 then .inl (cy.2.1, (LX R a).toNat, .inr (.inl (fun j => Int64.ofInt (m a (j : Int)))))
  else if KX R a = 22 then .inl (cy.2.2.1, (LX R a).toNat, .inl (fun j => Int32.ofInt (m a (j : Int))))
  else if KX R a = 23 then .inl (cy.2.2.2, (LX R a).toNat, .inr (.inr (.inr (.inr (fun j => zopt B (R a (j : Int)))))))
  else .inr (KX R a - 1, (List.range (znf (KX R a - 1))).map fun j => if zft (KX R a - 1) j = 2 then va_rf (zopt B (R a (j : Int))) else .int (Int32.ofInt (m a (j : Int))))
def zws (B : Nat) (cy : ClassId × ClassId × ClassId × ClassId) (R m : zM) (n : Nat) : va_W := (List.range n).map fun k => (B + k, zcell B cy R m ((k : Int) + 1))
theorem zws_at (B : Nat) (cy : ClassId × ClassId × ClassId × ClassId) (R m : zM) {n k : Nat} (h : k < n) : (zws B cy R m n)[k]? = some (B + k, zcell B cy R m ((k : Int) + 1)) := by
  unfold zws
  simp [h]
/-- the place of a label in the world -/
theorem zws_lab (B : Nat) (cy : ClassId × ClassId × ClassId × ClassId) (R m : zM) {n : Nat} {a : Int} (h1 : 0 < a) (h2 : a ≤ n) : (zws B cy R m n)[(a - 1).toNat]? = some (B + (a - 1).toNat, zcell B cy R m a) := by
  rw [zws_at B cy R m (show (a - 1).toNat < n by omega)]
  rw [show (((a - 1).toNat : Nat) : Int) + 1 = a by omega]
theorem zcell_row (B : Nat) (cy : ClassId × ClassId × ClassId × ClassId) {R m R' m' : zM} {a : Int} (h1 : ∀ k, R' a k = R a k) (h2 : ∀ k, m' a k = m a k) (hX : KX R' a = KX R a ∧ LX R' a = LX R a) : zcell B cy R' m' a = zcell B cy R m a := by
  unfold zcell
  simp only [h1, h2, hX.1, hX.2]
theorem zws_set (B : Nat) (cy : ClassId × ClassId × ClassId × ClassId) {R m R' m' : zM} {n : Nat} {a : Int} (ha : 0 < a) (han : a ≤ n) (h1 : ∀ c k, 0 < c → c ≠ a → R' c k = R c k) (h2 : ∀ c k, 0 < c → c ≠ a → m' c k = m c k) (hX : ∀ c, KX R' c = KX R c ∧ LX R' c = LX R c) {e : va_E} (he : zcell B cy R' m' a = e) :
    (zws B cy R m n).set (a - 1).toNat (B + (a - 1).toNat, e) = zws B cy R' m' n := by
  subst he
  apply List.ext_getElem?
  intro k
  by_cases hk : k < n
  · rw [zws_at B cy R' m' hk]
    by_cases hka : (a - 1).toNat = k
    · subst hka
      rw [List.getElem?_set_self (by unfold zws; simpa using hk)]
      rw [show (((a - 1).toNat : Nat) : Int) + 1 = a by omega]
    · rw [List.getElem?_set_ne hka, zws_at B cy R m hk]
      rw [zcell_row B cy (R := R) (m := m) (R' := R') (m' := m') (fun q => h1 _ q (by omega) (by omega)) (fun q => h2 _ q (by omega) (by omega)) (hX _)]
  · have l1 : ((zws B cy R m n).set (a - 1).toNat (B + (a - 1).toNat, zcell B cy R' m' a)).length = n := by simp [zws]
    have l2 : (zws B cy R' m' n).length = n := by simp [zws]
    rw [List.getElem?_eq_none (by omega), List.getElem?_eq_none (by omega)]
theorem zws_push (B : Nat) (cy : ClassId × ClassId × ClassId × ClassId) {R m R' m' : zM} {n : Nat} (h1 : ∀ (c k : Int), 0 < c → c ≤ (n : Int) → R' c k = R c k) (h2 : ∀ (c k : Int), 0 < c → c ≤ (n : Int) → m' c k = m c k) (hX : ∀ c : Int, c ≤ (n : Int) → KX R' c = KX R c ∧ LX R' c = LX R c) {e : va_E} (he : zcell B cy R' m' ((n : Int) + 1) = e) :
    zws B cy R m n ++ [(B + n, e)] = zws B cy R' m' (n + 1) := by
  subst he
  unfold zws
  rw [List.range_succ, List.map_append]
  suffices hl : (List.range n).map (fun k => (B + k, zcell B cy R m ((k : Int) + 1))) = (List.range n).map (fun k => (B + k, zcell B cy R' m' ((k : Int) + 1))) by
    rw [hl]
    rfl
  apply List.map_congr_left
  intro k hk
  have hk' : k < n := List.mem_range.mp hk
  rw [zcell_row B cy (R := R) (m := m) (R' := R') (m' := m') (fun q => h1 _ q (by omega) (by omega)) (fun q => h2 _ q (by omega) (by omega)) (hX _ (by omega))]
theorem zws_D (B : Nat) (cy : ClassId × ClassId × ClassId × ClassId) (R m : zM) (n : Nat) : va_D (fun q => B ≤ q) (zws B cy R m n) := by
  constructor
  · intro i j p q hi hj h
    have li : i < n := by
      have := (List.getElem?_eq_some_iff.mp hi).1
      simpa [zws] using this
    have lj : j < n := by
      have := (List.getElem?_eq_some_iff.mp hj).1
      simpa [zws] using this
    rw [zws_at B cy R m li] at hi
    rw [zws_at B cy R m lj] at hj
    cases hi
    cases hj
    simp only at h
    omega
  · intro k q hk
    have lk : k < n := by
      have := (List.getElem?_eq_some_iff.mp hk).1
      simpa [zws] using this
    rw [zws_at B cy R m lk] at hk
    cases hk
    exact Nat.le_add_right _ _
/-- the memories are such as the true machine can have -/
def zfm (R m : zM) : Prop := 0 ≤ R 0 0 ∧ 0 ≤ R 0 1 ∧ (∀ a k, KX R a ≠ 21 → zi32 (m a k)) ∧ (∀ a k, KX R a = 21 → zi64 (m a k)) ∧ (∀ a k, 0 < a → 0 ≤ R a k ∧ R a k ≤ R 0 0) ∧ ∀ k, 2 ≤ k → zi32 (R 0 k)
/-- the locals -/
def zlh (B : Nat) (adK : Nat → Nat) (b : Nat) (LS : Array Slot) (nL : Nat) (ls : List zV) : Prop :=
  LS.size = nL ∧ ls.length = nL ∧ lv_wf LS ∧ (∀ (i : Nat) (v : zV), ls[i]? = some v → (v.1 = 0 ∨ v.1 = 2 ∨ v.1 = 3 ∨ v.1 = 4) → LS[i]? = some (.val (zval B adK b v))) ∧
    ∀ (i : Nat) (v w : zV), ls[i]? = some v → ls[i + 1]? = some w → v.1 = 1 → w.1 = 8 → LS[i]? = some (.val (zval B adK b v))
/-- the locals that are held, as a list -/
def zlv (B : Nat) (adK : Nat → Nat) (b : Nat) (ls : List zV) : List (Nat × Value) :=
  (List.range ls.length).filterMap fun i => match ls[i]? with
    | some v => if v.1 = 0 ∨ v.1 = 2 ∨ v.1 = 3 ∨ v.1 = 4 ∨ (v.1 = 1 ∧ (ls.getD (i + 1) (9, 0)).1 = 8) then some (i, zval B adK b v) else none
    | none => none
theorem zlv_mem {B : Nat} {adK : Nat → Nat} {b : Nat} {ls : List zV} {i : Nat} {v : zV} (h : ls[i]? = some v) (hv : v.1 = 0 ∨ v.1 = 2 ∨ v.1 = 3 ∨ v.1 = 4 ∨ (v.1 = 1 ∧ (ls.getD (i + 1) (9, 0)).1 = 8)) : (i, zval B adK b v) ∈ zlv B adK b ls := by
  unfold zlv
  refine List.mem_filterMap.mpr ⟨i, List.mem_range.mpr (List.getElem?_eq_some_iff.mp h).1, ?_⟩
  simp only [h]
  rw [if_pos hv]
theorem zlv_has {B : Nat} {adK : Nat → Nat} {b : Nat} {LS : Array Slot} {nL : Nat} {ls : List zV} (h : zlh B adK b LS nL ls) : lv_has LS nL (zlv B adK b ls) := by
  obtain ⟨h1, h2, h3, h4, h5⟩ := h
  refine ⟨h1, h3, fun q hq => ?_⟩
  obtain ⟨i, hi, hq⟩ := List.mem_filterMap.mp hq
  have hl := List.mem_range.mp hi
  obtain ⟨v, hv⟩ : ∃ v, ls[i]? = some v := ⟨ls[i], List.getElem?_eq_getElem hl⟩
  simp only [hv] at hq
  split at hq
  next hc =>
    cases hq
    rcases hc with hc | hc | hc | hc | ⟨hc, hc2⟩
    · exact h4 i v hv (Or.inl hc)
    · exact h4 i v hv (Or.inr (Or.inl hc))
    · exact h4 i v hv (Or.inr (Or.inr (Or.inl hc)))
    · exact h4 i v hv (Or.inr (Or.inr (Or.inr hc)))
    · cases hw : ls[i + 1]? with
      | none => simp [List.getD, hw] at hc2
      | some w =>
        simp [List.getD, hw] at hc2
        exact h5 i v w hv hw hc hc2
  next hc => cases hq
/-- storing a value of one slot -/
theorem zlh_set1 {B : Nat} {adK : Nat → Nat} {b : Nat} {LS LS' : Array Slot} {nL : Nat} {ls : List zV} {i : Nat} {v : zV} (h : zlh B adK b LS nL ls) (hi : i < nL) (hv : v.1 = 0 ∨ v.1 = 2 ∨ v.1 = 3 ∨ v.1 = 4)
    (h' : lv_has LS' nL ((i, zval B adK b v) :: (zlv B adK b ls).filter (fun q => !(q.1 == i) && !(q.1 + 1 == i && q.2.category == 2)))) : zlh B adK b LS' nL (ls.set i v) := by
  have hlen := h.2.1
  refine ⟨h'.1, by rw [List.length_set]; exact hlen, h'.2.1, ?_, ?_⟩
  · intro j u hu hut
    by_cases hj : i = j
    · subst hj
      rw [List.getElem?_set_self (by omega)] at hu
      cases hu
      exact h'.2.2 (i, _) List.mem_cons_self
    · rw [List.getElem?_set_ne hj] at hu
      refine h'.2.2 (j, zval B adK b u) (List.mem_cons_of_mem _ (List.mem_filter.mpr ⟨zlv_mem hu ?_, ?_⟩))
      · rcases hut with q | q | q | q <;> simp [q]
      · have hc : (zval B adK b u).category = 1 := by
          unfold zval
          rcases hut with q | q | q | q <;> simp only [q] <;> first | rfl | (split <;> rfl)
        generalize zval B adK b u = z at hc ⊢
        simp [hc, Ne.symm hj]
  · intro j u w hu hw hu1 hw8
    by_cases hj : i = j
    · subst hj
      rw [List.getElem?_set_self (by omega)] at hu
      cases hu
      rcases hv with q | q | q | q <;> rw [q] at hu1 <;> cases hu1
    · rw [List.getElem?_set_ne hj] at hu
      by_cases hj1 : i = j + 1
      · subst hj1
        rw [List.getElem?_set_self (by omega)] at hw
        cases hw
        rcases hv with q | q | q | q <;> rw [q] at hw8 <;> cases hw8
      · rw [List.getElem?_set_ne hj1] at hw
        refine h'.2.2 (j, zval B adK b u) (List.mem_cons_of_mem _ (List.mem_filter.mpr ⟨zlv_mem hu ?_, ?_⟩))
        · have e : ls.getD (j + 1) (9, 0) = w := by simp [List.getD, hw]
          exact Or.inr (Or.inr (Or.inr (Or.inr ⟨hu1, by rw [e]; exact hw8⟩)))
        · simp [Ne.symm hj, Ne.symm hj1]
/-- storing a long -/
theorem zlh_set2 {B : Nat} {adK : Nat → Nat} {b : Nat} {LS LS' : Array Slot} {nL : Nat} {ls : List zV} {i : Nat} {x : Int} (h : zlh B adK b LS nL ls) (hi : i + 1 < nL)
    (h' : lv_has LS' nL ((i, .long (Int64.ofInt x)) :: (zlv B adK b ls).filter (fun q => !(q.1 == i) && (!(q.1 == i + 1) && !(q.1 + 1 == i && q.2.category == 2))))) : zlh B adK b LS' nL ((ls.set i (1, x)).set (i + 1) (8, 0)) := by
  have hlen := h.2.1
  refine ⟨h'.1, by rw [List.length_set, List.length_set]; exact hlen, h'.2.1, ?_, ?_⟩
  · intro j u hu hut
    by_cases hj1 : i + 1 = j
    · subst hj1
      rw [List.getElem?_set_self (by rw [List.length_set]; omega)] at hu
      cases hu
      rcases hut with q | q | q | q <;> cases q
    · rw [List.getElem?_set_ne hj1] at hu
      by_cases hj : i = j
      · subst hj
        rw [List.getElem?_set_self (by omega)] at hu
        cases hu
        rcases hut with q | q | q | q <;> cases q
      · rw [List.getElem?_set_ne hj] at hu
        refine h'.2.2 (j, zval B adK b u) (List.mem_cons_of_mem _ (List.mem_filter.mpr ⟨zlv_mem hu ?_, ?_⟩))
        · rcases hut with q | q | q | q <;> simp [q]
        · have hc : (zval B adK b u).category = 1 := by
            unfold zval
            rcases hut with q | q | q | q <;> simp only [q] <;> first | rfl | (split <;> rfl)
          generalize zval B adK b u = z at hc ⊢
          simp [hc, Ne.symm hj, Ne.symm hj1]
  · intro j u w hu hw hu1 hw8
    by_cases hj1 : i + 1 = j
    · subst hj1
      rw [List.getElem?_set_self (by rw [List.length_set]; omega)] at hu
      cases hu
      cases hu1
    · rw [List.getElem?_set_ne hj1] at hu
      by_cases hj : i = j
      · subst hj
        rw [List.getElem?_set_self (by omega)] at hu
        cases hu
        exact h'.2.2 (i, _) List.mem_cons_self
      · rw [List.getElem?_set_ne hj] at hu
        by_cases hj2 : i + 1 = j + 1
        · omega
        · rw [List.getElem?_set_ne hj2] at hw
          by_cases hj3 : i = j + 1
          · subst hj3
            rw [List.getElem?_set_self (by omega)] at hw
            cases hw
            cases hw8
          · rw [List.getElem?_set_ne hj3] at hw
            refine h'.2.2 (j, zval B adK b u) (List.mem_cons_of_mem _ (List.mem_filter.mpr ⟨zlv_mem hu ?_, ?_⟩))
            · have e : ls.getD (j + 1) (9, 0) = w := by simp [List.getD, hw]
              exact Or.inr (Or.inr (Or.inr (Or.inr ⟨hu1, by rw [e]; exact hw8⟩)))
            · simp [Ne.symm hj, Ne.symm hj3, Ne.symm hj1]
