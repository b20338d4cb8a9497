/-! ways of least time, step by step -/
def zcd (w : zM) (D : Int → Int) (H : Int → Bool) (q : Int) : Bool := zany (fun s => H s && zany (fun t => gC w D s t && decide (wPl w t = q)) 88) 88
def zlst (w : zM) (D : Int → Int) (H : Int → Bool) : Int := zfst (zcd w D H) 64
def znx (w : zM) (D : Int → Int) (H : Int → Bool) (v : Int) : Int → Bool := fun t => zany (fun s => H s && gC w D s t) 88 && decide (wPl w t = v)
def zpw (w : zM) (D : Int → Int) (a : Int) : Nat → Int × (Int → Bool)
  | 0 => (a, cH w D (fun s => decide (s = a)) a)
  | i + 1 => (zlst w D (zpw w D a i).2, cH w D (znx w D (zpw w D a i).2 (zlst w D (zpw w D a i).2)) (zlst w D (zpw w D a i).2))
/-- what holds of a set of places on the way, K - i steps before the last that can be -/
def PI (w : zM) (D : Int → Int) (K i : Int) (p : Int) (H : Int → Bool) : Prop := HI w H p ∧ (∀ s, 0 ≤ s → s < 88 → H s = true → D s < 1000000 ∧ rk D s + i ≤ K) ∧ ∃ s, (0 ≤ s ∧ s < 88) ∧ H s = true
def Cls (w : zM) (D : Int → Int) (H : Int → Bool) : Prop := ∀ s t, 0 ≤ s → s < 88 → 0 ≤ t → t < 88 → H s = true → fC w D s t = true → H t = true
section STEPS
variable {w : zM} {D : Int → Int} {H : Int → Bool} {p K i to : Int}
theorem cFo_s (hH : HI w H p) (h : cFo w D H p = true) : wSt w p = true ∧ ∃ s, (0 ≤ s ∧ s < 88) ∧ H s = true ∧ D p ≤ D s := by
  have hp := hH.1
  unfold cFo at h
  simp only [Bool.or_eq_true, Bool.and_eq_true] at h
  rcases h with h | ⟨h1, h2⟩
  · exact ⟨(hH.2 p hp.1 (by omega) h).1, p, ⟨hp.1, by omega⟩, h, Int.le_refl _⟩
  · rw [zany_iff] at h2
    obtain ⟨a, a0, a1, h3⟩ := h2
    simp only [Bool.and_eq_true, decide_eq_true_eq] at h3
    exact ⟨h1, 64 + a, ⟨by omega, by omega⟩, h3.1, by omega⟩
theorem cH_s (hH : HI w H p) {t : Int} (h : cH w D H p t = true) : (wSt w t = true ∧ wPl w t = p) ∨ ¬ (0 ≤ t ∧ t < 88) := by
  have hp := hH.1
  unfold cH at h
  by_cases c : t < 64
  · rw [if_pos c] at h
    split at h
    next e =>
      left
      rw [e]
      exact ⟨(cFo_s hH h).1, wPl_lo hp.2⟩
    next => cases h
  · rw [if_neg c] at h
    simp only [Bool.or_eq_true, Bool.and_eq_true, decide_eq_true_eq] at h
    by_cases r : 0 ≤ t ∧ t < 88
    · left
      rcases h with h | ⟨-, h1, h2, -⟩
      · exact hH.2 t r.1 r.2 h
      · exact ⟨h1, h2⟩
    · right; exact r
theorem cH_le (hH : HI w H p) {t : Int} (t0 : 0 ≤ t) (t1 : t < 88) (h : cH w D H p t = true) : ∃ s, (0 ≤ s ∧ s < 88) ∧ H s = true ∧ D t ≤ D s := by
  unfold cH at h
  by_cases c : t < 64
  · rw [if_pos c] at h
    split at h
    next e =>
      obtain ⟨-, s, a, b, d⟩ := cFo_s hH h
      exact ⟨s, a, b, by rw [e]; exact d⟩
    next => cases h
  · rw [if_neg c] at h
    simp only [Bool.or_eq_true, Bool.and_eq_true, decide_eq_true_eq] at h
    rcases h with h | ⟨h0, h1, h2, h3⟩
    · exact ⟨t, ⟨t0, t1⟩, h, Int.le_refl _⟩
    · obtain ⟨-, s, a, b, d⟩ := cFo_s hH h0
      exact ⟨s, a, b, by omega⟩
theorem cH_sub (hH : HI w H p) {s : Int} (s0 : 0 ≤ s) (s1 : s < 88) (h : H s = true) : cH w D H p s = true := by
  unfold cH
  by_cases c : s < 64
  · have e := (hH.2 s s0 s1 h).2
    rw [wPl_lo c] at e
    rw [if_pos c, if_pos e]
    unfold cFo
    rw [e] at h
    rw [h, Bool.true_or]
  · rw [if_neg c, h, Bool.true_or]
theorem rk_mono {s t : Int} (h : D t ≤ D s) : rk D t ≤ rk D s := by
  unfold rk
  have mono : ∀ n : Nat, zcnt (fun x => decide (D x < D t)) n ≤ zcnt (fun x => decide (D x < D s)) n := by
    intro n
    induction n with
    | zero => exact Int.le_refl _
    | succ n ih =>
      simp only [zcnt]
      by_cases c : D n < D t
      · rw [if_pos (decide_eq_true c), if_pos (decide_eq_true (by omega))]; omega
      · rw [if_neg (by simpa using c)]
        split <;> omega
  exact mono 88
theorem PI_change (h : PI w D K i p H) : PI w D K i p (cH w D H p) ∧ Cls w D (cH w D H p) := by
  obtain ⟨hH, hf, s, ⟨s0, s1⟩, hs⟩ := h
  have hp := hH.1
  refine ⟨⟨⟨hp, fun t t0 t1 ht => ?_⟩, fun t t0 t1 ht => ?_, s, ⟨s0, s1⟩, cH_sub hH s0 s1 hs⟩, ?_⟩
  · rcases cH_s hH ht with q | q
    · exact q
    · exact absurd ⟨t0, t1⟩ q
  · obtain ⟨u, ⟨u0, u1⟩, hu, hd⟩ := cH_le hH t0 t1 ht
    have := hf u u0 u1 hu
    have := rk_mono hd
    exact ⟨by omega, by omega⟩
  · intro x t x0 x1 t0 t1 hx hxt
    have f := (fC_iff _ _).1 hxt
    by_cases c : x < 64
    · have d : ¬ t < 64 := fun q => f.1 ⟨fun _ => q, fun _ => c⟩
      unfold cH at hx ⊢
      rw [if_pos c] at hx
      rw [if_neg d]
      split at hx
      next e =>
        rw [hx]
        simp only [Bool.or_eq_true, Bool.and_eq_true, decide_eq_true_eq]
        right
        refine ⟨trivial, f.2.1, by rw [← f.2.2.1, e, wPl_lo hp.2], ?_⟩
        have := f.2.2.2
        rw [wTk_on c (by omega), if_pos (by rw [← f.2.2.1, wPl_lo c])] at this
        rw [← e]; omega
      next => cases hx
    · have d : t < 64 := by
        by_cases d : t < 64
        · exact d
        · exact absurd ⟨fun q => absurd q c, fun q => absurd q d⟩ f.1
      have px : wPl w x = p := by
        rcases cH_s hH hx with q | q
        · exact q.2
        · exact absurd ⟨x0, x1⟩ q
      have tp : t = p := by rw [← px, f.2.2.1, wPl_lo d]
      have cf : cFo w D H p = true := by
        unfold cH at hx
        rw [if_neg c] at hx
        simp only [Bool.or_eq_true, Bool.and_eq_true, decide_eq_true_eq] at hx
        rcases hx with q | q
        · unfold cFo
          simp only [Bool.or_eq_true, Bool.and_eq_true]
          right
          refine ⟨by rw [← tp]; exact f.2.1, ?_⟩
          rw [zany_iff]
          refine ⟨x - 64, by omega, by omega, ?_⟩
          simp only [Bool.and_eq_true, decide_eq_true_eq]
          rw [show 64 + (x - 64) = x by omega]
          refine ⟨q, ?_⟩
          have := f.2.2.2
          rw [wTk_off (by omega) d, if_pos (by rw [px, tp]), tp] at this
          omega
        · exact q.1
      unfold cH
      rw [if_pos d, if_pos tp]
      exact cf
theorem zcd_iff (q : Int) : zcd w D H q = true ↔ ∃ s t, (0 ≤ s ∧ s < 88) ∧ (0 ≤ t ∧ t < 88) ∧ H s = true ∧ gC w D s t = true ∧ wPl w t = q := by
  unfold zcd
  rw [zany_iff]
  constructor
  · rintro ⟨s, s0, s1, h⟩
    simp only [Bool.and_eq_true] at h
    obtain ⟨h1, h2⟩ := h
    rw [zany_iff] at h2
    obtain ⟨t, t0, t1, h3⟩ := h2
    simp only [Bool.and_eq_true, decide_eq_true_eq] at h3
    exact ⟨s, t, ⟨s0, by omega⟩, ⟨t0, by omega⟩, h1, h3.1, h3.2⟩
  · rintro ⟨s, t, ⟨s0, s1⟩, ⟨t0, t1⟩, h1, h2, h3⟩
    refine ⟨s, s0, by omega, ?_⟩
    simp only [Bool.and_eq_true]
    refine ⟨h1, ?_⟩
    rw [zany_iff]
    refine ⟨t, t0, by omega, ?_⟩
    simp only [Bool.and_eq_true, decide_eq_true_eq]
    exact ⟨h2, h3⟩
/-- stops lie on the board -/
def wStop (w : zM) : Prop := ∀ s, 0 ≤ s → s < 88 → wSt w s = true → 0 ≤ wPl w s ∧ wPl w s < 64
theorem zlst_ok (hS : wStop w) : (zlst w D H = -1 ∧ ∀ s t, 0 ≤ s → s < 88 → 0 ≤ t → t < 88 → H s = true → gC w D s t = true → False) ∨ ((0 ≤ zlst w D H ∧ zlst w D H < 64) ∧ (∃ s t, (0 ≤ s ∧ s < 88) ∧ (0 ≤ t ∧ t < 88) ∧ H s = true ∧ gC w D s t = true ∧ wPl w t = zlst w D H) ∧ ∀ s t, 0 ≤ s → s < 88 → 0 ≤ t → t < 88 → H s = true → gC w D s t = true → zlst w D H ≤ wPl w t) := by
  unfold zlst
  have first : ∀ (f : Int → Bool) (k : Nat), (zfst f k = -1 ∧ ∀ j : Int, 0 ≤ j → j < k → f j = false) ∨ (0 ≤ zfst f k ∧ zfst f k < k ∧ f (zfst f k) = true ∧ ∀ j : Int, 0 ≤ j → j < zfst f k → f j = false) := by
    intro f k
    induction k with
    | zero => left; exact ⟨rfl, fun j a b => by omega⟩
    | succ k ih =>
      simp only [zfst]
      rcases ih with ⟨a, b⟩ | ⟨a, b, c, d⟩
      · rw [a, if_neg (by omega)]
        by_cases h : f k = true
        · rw [if_pos h]; right; exact ⟨by omega, by omega, h, fun j j0 j1 => b j j0 j1⟩
        · rw [if_neg h]; left
          refine ⟨rfl, fun j j0 j1 => ?_⟩
          by_cases e : j = k
          · rw [e]; simpa using h
          · exact b j j0 (by omega)
      · rw [if_pos a]; right; exact ⟨a, by omega, c, d⟩
  rcases first (zcd w D H) 64 with ⟨a, b⟩ | ⟨a, b, c, d⟩
  · left
    refine ⟨a, fun s t s0 s1 t0 t1 hs hg => ?_⟩
    have pl := hS t t0 t1 ((gC_iff _ _).1 hg).2.2.1
    have := b (wPl w t) pl.1 (by omega)
    rw [(zcd_iff _).2 ⟨s, t, ⟨s0, s1⟩, ⟨t0, t1⟩, hs, hg, rfl⟩] at this
    cases this
  · right
    refine ⟨⟨a, by omega⟩, (zcd_iff _).1 c, fun s t s0 s1 t0 t1 hs hg => ?_⟩
    have pl := hS t t0 t1 ((gC_iff _ _).1 hg).2.2.1
    by_cases e : wPl w t < zfst (zcd w D H) 64
    · have := d (wPl w t) pl.1 e
      rw [(zcd_iff _).2 ⟨s, t, ⟨s0, s1⟩, ⟨t0, t1⟩, hs, hg, rfl⟩] at this
      cases this
    · omega
theorem znx_iff (v t : Int) : znx w D H v t = true ↔ (wPl w t = v ∧ ∃ s, (0 ≤ s ∧ s < 88) ∧ H s = true ∧ gC w D s t = true) := by
  unfold znx
  simp only [Bool.and_eq_true, decide_eq_true_eq]
  rw [zany_iff]
  constructor
  · rintro ⟨⟨s, s0, s1, h⟩, e⟩
    simp only [Bool.and_eq_true] at h
    exact ⟨e, s, ⟨s0, by omega⟩, h⟩
  · rintro ⟨e, s, ⟨s0, s1⟩, h⟩
    refine ⟨⟨s, s0, by omega, ?_⟩, e⟩
    simp only [Bool.and_eq_true]
    exact h
theorem PI_next (hV : MV w) (hCr : wCr w) (hS : wStop w) (hD : DFn w D to) (h : PI w D K i p H) (hm : 0 ≤ zlst w D H) : PI w D K (i + 1) (zlst w D H) (znx w D H (zlst w D H)) := by
  obtain ⟨hH, hf, -⟩ := h
  rcases zlst_ok (D := D) (H := H) hS with ⟨q, -⟩ | ⟨r1, ⟨s, t, ⟨s0, s1⟩, ⟨t0, t1⟩, hs, hg, he⟩, -⟩
  · omega
  generalize zlst w D H = v at *
  refine ⟨⟨r1, fun u u0 u1 hu => ?_⟩, fun u u0 u1 hu => ?_, t, ⟨t0, t1⟩, (znx_iff v t).2 ⟨he, s, ⟨s0, s1⟩, hs, hg⟩⟩
  · obtain ⟨e, x, -, -, hx⟩ := (znx_iff v u).1 hu
    exact ⟨((gC_iff _ _).1 hx).2.2.1, e⟩
  · obtain ⟨e, x, ⟨x0, x1⟩, hx, hgx⟩ := (znx_iff v u).1 hu
    have g := (gC_iff _ _).1 hgx
    have fx := hf x x0 x1 hx
    have tp := wTk_pos hV hCr (hH.2 x x0 x1 hx).1 g.2.2.1 g.1
    have lt : D u < D x := by omega
    have := rk_lt u0 u1 lt
    exact ⟨by omega, by omega⟩
theorem zps_PI (hV : MV w) (hCr : wCr w) (hS : wStop w) (hD : DFn w D to) (hto : 0 ≤ to ∧ to < 64) {a : Int} (ha : 0 ≤ a ∧ a < 64) (hr : D a < 1000000) (hK : rk D a ≤ K) (k : Nat) (hk : ∀ j : Nat, j < k → (zpw w D a j).2 to = false) : PI w D K k (zpw w D a k).1 (zpw w D a k).2 ∧ Cls w D (zpw w D a k).2 := by
  induction k with
  | zero =>
    have sa : wSt w a = true := by rcases hD.1 a ha.1 (by omega) with q | q; omega; exact q.2.2
    have p0 : PI w D K 0 a (fun s => decide (s = a)) := ⟨⟨ha, fun s s0 s1 hs => by have e := of_decide_eq_true hs; rw [e]; exact ⟨sa, wPl_lo ha.2⟩⟩, fun s s0 s1 hs => by have e := of_decide_eq_true hs; rw [e]; exact ⟨hr, by omega⟩, a, ⟨ha.1, by omega⟩, decide_eq_true rfl⟩
    exact PI_change p0
  | succ k ih =>
    obtain ⟨h1, h2⟩ := ih (fun j hj => hk j (by omega))
    have hn := hk k (by omega)
    obtain ⟨s, ⟨s0, s1⟩, hs⟩ := h1.2.2
    obtain ⟨x, t, hx, ht, hhx, hg⟩ := move_ex hD h1.1 (fun s s0 s1 hs => (h1.2.1 s s0 s1 hs).1) h2 hn (2 * D s + 2).toNat s s0 s1 hs (by
      have : 0 ≤ D s := by rcases hD.1 s s0 s1 with q | q <;> omega
      split <;> omega)
    have hm : 0 ≤ zlst w D (zpw w D a k).2 := by
      rcases zlst_ok (D := D) (H := (zpw w D a k).2) hS with ⟨-, q⟩ | ⟨q, -⟩
      · exact absurd (q x t hx.1 hx.2 ht.1 ht.2 hhx hg) (fun z => z)
      · exact q.1
    have := PI_change (PI_next hV hCr hS hD h1 hm)
    simp only [zpw]
    rw [show ((k + 1 : Nat) : Int) = (k : Int) + 1 by omega]
    exact this
/-- the way has an end -/
theorem zps_end (hV : MV w) (hCr : wCr w) (hS : wStop w) (hD : DFn w D to) (hto : 0 ≤ to ∧ to < 64) {a : Int} (ha : 0 ≤ a ∧ a < 64) (hr : D a < 1000000) (hK : rk D a ≤ K) : ∃ N : Nat, N ≤ K ∧ (zpw w D a N).2 to = true ∧ ∀ j : Nat, j < N → (zpw w D a j).2 to = false := by
  have key : ∀ k : Nat, (∀ j : Nat, j < k → (zpw w D a j).2 to = false) ∨ ∃ N : Nat, N < k ∧ (zpw w D a N).2 to = true ∧ ∀ j : Nat, j < N → (zpw w D a j).2 to = false := by
    intro k
    induction k with
    | zero => left; intro j hj; omega
    | succ k ih =>
      rcases ih with h | ⟨N, h1, h2, h3⟩
      · cases hc : (zpw w D a k).2 to with
        | false =>
          left
          intro j hj
          by_cases e : j = k
          · rw [e]; exact hc
          · exact h j (by omega)
        | true => right; exact ⟨k, by omega, hc, h⟩
      · right; exact ⟨N, by omega, h2, h3⟩
  have K0 : 0 ≤ K := by have := (rk_b (D := D) (s := a) ha.1 (by omega)).1; omega
  rcases key (K.toNat + 1) with h | ⟨N, h1, h2, h3⟩
  · exfalso
    obtain ⟨⟨-, hf, s, ⟨s0, s1⟩, hs⟩, -⟩ := zps_PI hV hCr hS hD hto ha hr hK (K.toNat + 1) h
    have := hf s s0 s1 hs
    have := (rk_b (D := D) s0 s1).1
    omega
  · exact ⟨N, by omega, h2, h3⟩
end STEPS
