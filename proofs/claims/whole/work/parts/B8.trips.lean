/-! trips, as functions of the model's memory -/
abbrev zTS := (Int → Int) × (Int → Int)
def zed (T : zTS) (t i : Int) : Int := wEd (T.2 (64 * t + (i - 1))) (T.2 (64 * t + i))
def tCw1 (T : zTS) (t e : Int) : Int := zcnt (fun i => decide (1 ≤ i ∧ zed T t i = e)) (T.1 t).toNat
def tCw (T : zTS) (n : Nat) (but e : Int) : Int := zsum (fun t => if t = but then 0 else tCw1 T t e) n
def tTk (x : zM) (T : zTS) (t : Int) : Int := zsum (fun i => if 1 ≤ i then wTk x (T.2 (64 * t + (i - 1))) (T.2 (64 * t + i)) else 0) (T.1 t).toNat
noncomputable def tGo (x : zM) (a b t : Int) (T : zTS) : zTS := (zrw T.1 t (pLn x (pD x b) a b + 1), fun j => if 64 * t ≤ j ∧ j ≤ 64 * t + pLn x (pD x b) a b then (zpw x (pD x b) a (j - 64 * t).toNat).1 else T.2 j)
def wZ (w : zM) : zM := wX w (fun _ => 0)
noncomputable def tIn (w : zM) : Nat → zTS
  | 0 => (fun _ => 0, fun _ => 0)
  | t + 1 => if pD (wZ w) (w 140 t) (w 139 t) < 1000000 then tGo (wZ w) (w 139 t) (w 140 t) t (tIn w t) else (zrw (tIn w t).1 t 0, (tIn w t).2)
noncomputable def tS1 (w : zM) (n : Nat) (t : Int) (S : zTS × Bool) : zTS × Bool := if 0 < S.1.1 t ∧ pD (wX w (tCw S.1 n t)) (w 140 t) (w 139 t) < tTk (wX w (tCw S.1 n t)) S.1 t then (tGo (wX w (tCw S.1 n t)) (w 139 t) (w 140 t) t S.1, true) else S
noncomputable def tRd (w : zM) (n : Nat) (T : zTS) : Nat → zTS × Bool
  | 0 => (T, false)
  | t + 1 => tS1 w n t (tRd w n T t)
noncomputable def tRs (w : zM) (n : Nat) : Nat → Int → zTS → Int × (Bool × zTS)
  | 0, r, T => (r, true, T)
  | k + 1, r, T => if (tRd w n T n).2 = true then tRs w n k (r + 1) (tRd w n T n).1 else (r + 1, false, (tRd w n T n).1)
/-- a trip's way is a way -/
def TOt (w : zM) (T : zTS) (t : Int) : Prop := (0 ≤ T.1 t ∧ T.1 t ≤ 64) ∧ (∀ i, 0 ≤ i → i < T.1 t → 0 ≤ T.2 (64 * t + i) ∧ T.2 (64 * t + i) < 64) ∧ ∀ i, 1 ≤ i → i < T.1 t → wSt (wZ w) (T.2 (64 * t + (i - 1))) = true ∧ wSt (wZ w) (T.2 (64 * t + i)) = true ∧ zfar (w 100 0) (T.2 (64 * t + (i - 1))) (T.2 (64 * t + i)) = 1
def TFt (w : zM) (n : Int) : Prop := ∀ t, 0 ≤ t → t < n → (0 ≤ w 139 t ∧ w 139 t < 64) ∧ 0 ≤ w 140 t ∧ w 140 t < 64
/-- the same trips on the same board -/
def zqT (n : Int) (w w' : zM) : Prop := (w' 100 0 = w 100 0 ∧ w' 100 1 = w 100 1) ∧ (∀ p, 0 ≤ p → p < 64 → w' 101 p = w 101 p ∧ w' 102 p = w 102 p) ∧ ∀ t, 0 ≤ t → t < n → w' 139 t = w 139 t ∧ w' 140 t = w 140 t
section TRIPS
variable {w w' x : zM} {T : zTS} {t n : Int} {c : Int → Int}
theorem wX_St (w : zM) (c : Int → Int) : wSt (wX w c) = wSt (wZ w) := by
  funext s
  unfold wZ wSt mN
  simp (disch := decide) only [wX_f, wX_b, wX_56]
theorem tGo_ne (x : zM) {a b t u : Int} (T : zTS) (hn : pLn x (pD x b) a b ≤ 63) (h : u ≠ t) : (tGo x a b t T).1 u = T.1 u ∧ ∀ i, 0 ≤ i → i < 64 → (tGo x a b t T).2 (64 * u + i) = T.2 (64 * u + i) := by
  unfold tGo
  refine ⟨zrw_ne h, fun i i0 i1 => ?_⟩
  dsimp only
  rw [if_neg (by omega)]
theorem tGo_at (x : zM) (a b t : Int) (T : zTS) : (tGo x a b t T).1 t = pLn x (pD x b) a b + 1 ∧ ∀ i : Int, 0 ≤ i → i ≤ pLn x (pD x b) a b → (tGo x a b t T).2 (64 * t + i) = (zpw x (pD x b) a i.toNat).1 := by
  unfold tGo
  refine ⟨zrw_at _ _ _, fun i i0 i1 => ?_⟩
  dsimp only
  rw [if_pos (by omega), show 64 * t + i - 64 * t = i by omega]
theorem TOt_c {T' : zTS} (h1 : T'.1 t = T.1 t) (h2 : ∀ i, 0 ≤ i → i < T.1 t → T'.2 (64 * t + i) = T.2 (64 * t + i)) (h : TOt w T t) : TOt w T' t := by
  obtain ⟨a, b, d⟩ := h
  refine ⟨by rw [h1]; exact a, fun i i0 i1 => ?_, fun i i0 i1 => ?_⟩
  · rw [h1] at i1
    rw [h2 i i0 i1]; exact b i i0 i1
  · rw [h1] at i1
    rw [h2 i (by omega) i1, h2 (i - 1) (by omega) (by omega)]; exact d i i0 i1
theorem tGo_f (hV : MV w) (hc : ∀ e, 0 ≤ e → e < 128 → 0 ≤ c e ∧ c e ≤ 1000) {a b : Int} (ha : 0 ≤ a ∧ a < 64) (hb : 0 ≤ b ∧ b < 64) (hr : pD (wX w c) b a < 1000000) : pLn (wX w c) (pD (wX w c) b) a b ≤ 63 ∧ zpe (wX w c) (pD (wX w c) b) a b (pLn (wX w c) (pD (wX w c) b) a b) := 
  pLn_foot (wX_MV hV c) (wX_Cr w hc) (wX_Stop w c) (wX_56 w c) (pD_DFn (wX_MV hV c) (wX_Cr w hc) ⟨hb.1, by omega⟩) hb ha hr
theorem tGo_ok (hV : MV w) (hc : ∀ e, 0 ≤ e → e < 128 → 0 ≤ c e ∧ c e ≤ 1000) {a b : Int} (ha : 0 ≤ a ∧ a < 64) (hb : 0 ≤ b ∧ b < 64) (hr : pD (wX w c) b a < 1000000) (t : Int) (T : zTS) : TOt w (tGo (wX w c) a b t T) t := by
  obtain ⟨hn, hz⟩ := tGo_f hV hc ha hb hr
  obtain ⟨e1, e2⟩ := tGo_at (wX w c) a b t T
  have hV' := wX_MV hV c
  have hC' := wX_Cr w hc
  have hD' := pD_DFn (to := b) hV' hC' ⟨hb.1, by omega⟩
  generalize hN : pLn (wX w c) (pD (wX w c) b) a b = N at *
  refine ⟨by omega, fun i i0 i1 => ?_, fun i i0 i1 => ?_⟩
  · rw [e2 i i0 (by omega)]
    exact zpw_pl hV' hC' (wX_Stop w c) hD' hb ha hr hz i.toNat (by omega)
  · have := zpw_st hV' hC' (wX_Stop w c) (wX_56 w c) hD' hb ha hr hz (i - 1).toNat (by omega)
    rw [wX_St, show (i - 1).toNat + 1 = i.toNat by omega, wX_f w c (by decide)] at this
    rw [e2 i (by omega) (by omega), e2 (i - 1) (by omega) (by omega)]
    exact this
theorem tCw1_b (h : T.1 t ≤ 64) (e : Int) : 0 ≤ tCw1 T t e ∧ tCw1 T t e ≤ 64 := by
  have := zcnt_bd (fun i => decide (1 ≤ i ∧ zed T t i = e)) (T.1 t).toNat
  unfold tCw1
  omega
theorem tCw_b {n : Nat} (hn : n ≤ 8) (h : ∀ t : Int, 0 ≤ t → t < n → TOt w T t) (but e : Int) : 0 ≤ tCw T n but e ∧ tCw T n but e ≤ 1000 := by
  have key : ∀ k : Nat, k ≤ n → 0 ≤ tCw T k but e ∧ tCw T k but e ≤ 64 * k := by
    intro k
    induction k with
    | zero => intro _; unfold tCw zsum; omega
    | succ k ih =>
      intro hk
      have := ih (by omega)
      have b := tCw1_b (T := T) (t := k) (h k (by omega) (by omega)).1.2 e
      unfold tCw at *
      simp only [zsum]
      split <;> omega
  have := key n (Nat.le_refl _)
  omega
theorem tCw1_c {T' : zTS} (h1 : T'.1 t = T.1 t) (h2 : ∀ i, 0 ≤ i → i < T.1 t → T'.2 (64 * t + i) = T.2 (64 * t + i)) (e : Int) : tCw1 T' t e = tCw1 T t e := by
  unfold tCw1
  rw [h1]
  refine zcnt_congr (fun i i0 i1 => ?_)
  apply decide_eq_decide.mpr
  constructor
  · rintro ⟨a, b⟩
    refine ⟨a, ?_⟩
    unfold zed at *
    rw [← h2 i (by omega) (by omega), ← h2 (i - 1) (by omega) (by omega)]; exact b
  · rintro ⟨a, b⟩
    refine ⟨a, ?_⟩
    unfold zed at *
    rw [h2 i (by omega) (by omega), h2 (i - 1) (by omega) (by omega)]; exact b
end TRIPS
