/-! trips: what holds of their ways -/
section TRIPS2
variable {w w' x : zM} {T : zTS} {t : Int} {n : Nat} {c : Int → Int}
theorem tTk_b (hV : MV w) (hc : ∀ e, 0 ≤ e → e < 128 → 0 ≤ c e ∧ c e ≤ 1000) (h : TOt w T t) : 0 ≤ tTk (wX w c) T t ∧ tTk (wX w c) T t < 200000 := by
  obtain ⟨⟨a0, a1⟩, b, d⟩ := h
  have key : ∀ k : Nat, (k : Int) ≤ T.1 t → 0 ≤ zsum (fun i => if 1 ≤ i then wTk (wX w c) (T.2 (64 * t + (i - 1))) (T.2 (64 * t + i)) else 0) k ∧ zsum (fun i => if 1 ≤ i then wTk (wX w c) (T.2 (64 * t + (i - 1))) (T.2 (64 * t + i)) else 0) k ≤ 2100 * k := by
    intro k
    induction k with
    | zero => intro _; simp only [zsum]; omega
    | succ k ih =>
      intro hk
      have := ih (by omega)
      simp only [zsum]
      by_cases o : (1 : Int) ≤ k
      · rw [if_pos o]
        obtain ⟨s1, s2, f⟩ := d k o (by omega)
        rw [← wX_St w c] at s1 s2
        have f1 := wSt_f (wX_56 w c) s1
        have f2 := wSt_f (wX_56 w c) s2
        have tb := wTk_b (wX_MV hV c) (wX_Cr w hc) s1 s2
        have tv : wTk (wX w c) (T.2 (64 * t + (k - 1))) (T.2 (64 * t + k)) < 1000000 := by
          have hV' := wX_MV hV c
          have p1 := (wSt_lo f1).1 s1
          have p2 := (wSt_lo f2).1 s2
          have h1 := (hV'.2.2 _ f1.1 p1.1).2.1
          have h2 := (hV'.2.2 _ f2.1 p2.1).2.1
          have ne : T.2 (64 * t + (k - 1)) ≠ T.2 (64 * t + k) := by intro e; rw [e] at f; unfold zfar zab at f; simp at f
          have eb := wEd_b f1 f2 ne
          have cr := wX_Cr w hc _ eb.1 eb.2
          have : zab (wX w c 102 (T.2 (64 * t + (k - 1))) - wX w c 102 (T.2 (64 * t + k))) ≤ 100 := by unfold zab; split <;> omega
          unfold wTk
          rw [if_pos (show T.2 (64 * t + (k - 1)) < 64 ∧ T.2 (64 * t + k) < 64 from ⟨f1.2, f2.2⟩), if_pos (by rw [wX_f w c (by decide)]; exact f)]
          split <;> omega
        have := tb.2 tv
        omega
      · rw [if_neg o]; omega
  have := key (T.1 t).toNat (by omega)
  unfold tTk
  omega
theorem tIn_ok (hV : MV w) (hF : TFt w n) (k : Nat) (hk : k ≤ n) : ∀ t : Int, 0 ≤ t → t < k → TOt w (tIn w k) t := by
  induction k with
  | zero => intro t t0 t1; omega
  | succ k ih =>
    intro t t0 t1
    have F := hF k (by omega) (by omega)
    have z0 : ∀ e, 0 ≤ e → e < 128 → 0 ≤ (fun _ : Int => (0 : Int)) e ∧ (fun _ : Int => (0 : Int)) e ≤ 1000 := fun e _ _ => by dsimp only; omega
    simp only [tIn]
    by_cases r : pD (wZ w) (w 140 k) (w 139 k) < 1000000
    · rw [if_pos r]
      by_cases e : t = k
      · rw [e]; exact tGo_ok hV z0 F.1 F.2 r _ _
      · have ne := tGo_ne (wZ w) (a := w 139 k) (b := w 140 k) (t := k) (u := t) (tIn w k) (tGo_f hV z0 F.1 F.2 r).1 e
        have o := ih (by omega) t t0 (by omega)
        exact TOt_c ne.1 (fun i i0 i1 => ne.2 i i0 (by have := o.1.2; omega)) o
    · rw [if_neg r]
      by_cases e : t = k
      · have z : zrw (tIn w k).1 k 0 k = 0 := zrw_at _ _ _
        rw [e]
        refine ⟨?_, fun i i0 i1 => ?_, fun i i0 i1 => ?_⟩
        · dsimp only; rw [z]; omega
        · dsimp only at i1; rw [z] at i1; omega
        · dsimp only at i1; rw [z] at i1; omega
      · exact TOt_c (zrw_ne e) (fun i i0 i1 => rfl) (ih (by omega) t t0 (by omega))
theorem tS1_ok (hV : MV w) (hF : TFt w n) (hn : n ≤ 8) {S : zTS × Bool} (hS : ∀ t : Int, 0 ≤ t → t < n → TOt w S.1 t) {k : Int} (hk : 0 ≤ k ∧ k < n) : ∀ t : Int, 0 ≤ t → t < n → TOt w (tS1 w n k S).1 t ∧ (0 < (tS1 w n k S).1.1 t ↔ 0 < S.1.1 t) := by
  intro t t0 t1
  have F := hF k hk.1 hk.2
  unfold tS1
  by_cases r : 0 < S.1.1 k ∧ pD (wX w (tCw S.1 n k)) (w 140 k) (w 139 k) < tTk (wX w (tCw S.1 n k)) S.1 k
  · rw [if_pos r]
    have cb := fun e (_ : 0 ≤ e) (_ : e < 128) => tCw_b hn hS k e
    have tb := tTk_b hV cb (hS k hk.1 hk.2)
    have r2 : pD (wX w (tCw S.1 n k)) (w 140 k) (w 139 k) < 1000000 := by omega
    by_cases e : t = k
    · rw [e]
      refine ⟨tGo_ok hV cb F.1 F.2 r2 _ _, ?_⟩
      dsimp only
      rw [(tGo_at _ _ _ _ _).1]
      constructor
      · intro _; exact r.1
      · intro _; omega
    · have ne := tGo_ne (wX w (tCw S.1 n k)) (a := w 139 k) (b := w 140 k) (t := k) (u := t) S.1 (tGo_f hV cb F.1 F.2 r2).1 e
      have o := hS t t0 t1
      refine ⟨TOt_c ne.1 (fun i i0 i1 => ne.2 i i0 (by have := o.1.2; omega)) o, ?_⟩
      dsimp only
      rw [ne.1]
  · rw [if_neg r]
    exact ⟨hS t t0 t1, Iff.rfl⟩
theorem tRd_ok (hV : MV w) (hF : TFt w n) (hn : n ≤ 8) (hT : ∀ t : Int, 0 ≤ t → t < n → TOt w T t) (k : Nat) (hk : k ≤ n) : ∀ t : Int, 0 ≤ t → t < n → TOt w (tRd w n T k).1 t ∧ (0 < (tRd w n T k).1.1 t ↔ 0 < T.1 t) := by
  induction k with
  | zero => intro t t0 t1; exact ⟨hT t t0 t1, Iff.rfl⟩
  | succ k ih =>
    intro t t0 t1
    have := tS1_ok hV hF hn (fun t t0 t1 => (ih (by omega) t t0 t1).1) (k := k) ⟨by omega, by omega⟩ t t0 t1
    simp only [tRd]
    exact ⟨this.1, this.2.trans (ih (by omega) t t0 t1).2⟩
/-- a round that changes nothing -/
theorem tRd_id (k : Nat) (h : (tRd w n T k).2 = false) : (tRd w n T k).1 = T ∧ ∀ j : Nat, j < k → ¬ (0 < T.1 j ∧ pD (wX w (tCw T n j)) (w 140 j) (w 139 j) < tTk (wX w (tCw T n j)) T j) := by
  induction k with
  | zero => exact ⟨rfl, fun j hj => by omega⟩
  | succ k ih =>
    simp only [tRd, tS1] at h ⊢
    by_cases r : 0 < (tRd w n T k).1.1 k ∧ pD (wX w (tCw (tRd w n T k).1 n k)) (w 140 k) (w 139 k) < tTk (wX w (tCw (tRd w n T k).1 n k)) (tRd w n T k).1 k
    · rw [if_pos r] at h; cases h
    · rw [if_neg r] at h ⊢
      obtain ⟨e, g⟩ := ih h
      rw [e] at r
      refine ⟨e, fun j hj => ?_⟩
      by_cases q : j = k
      · rw [q]; exact r
      · exact g j (by omega)
theorem zqT_q0 (h : zqT n w w') (c : Int → Int) : zq0 (wX w c) (wX w' c) := by
  obtain ⟨⟨h0, h1⟩, h2, h3⟩ := h
  refine ⟨wX_56 _ _, wX_56 _ _, ?_, ?_, fun p p0 p1 => ?_, fun e _ _ => by rw [wX_135, wX_135]⟩
  · rw [wX_f _ _ (by decide), wX_f _ _ (by decide), h0]
  · rw [wX_f _ _ (by decide), wX_f _ _ (by decide), h1]
  · rw [wX_b _ _ (by decide), wX_b _ _ (by decide), wX_b _ _ (by decide), wX_b _ _ (by decide)]; exact h2 p p0 p1
theorem tGo_c (hV : MV w) (h : zqT n w w') (hc : ∀ e, 0 ≤ e → e < 128 → 0 ≤ c e ∧ c e ≤ 1000) (a t : Int) {b : Int} (hb : 0 ≤ b ∧ b < 64) (T : zTS) : tGo (wX w' c) a b t T = tGo (wX w c) a b t T := by
  have q := zqT_q0 h c
  have e := zq0_pD (wX_MV hV c) (wX_Cr w hc) q (to := b) ⟨hb.1, by omega⟩
  unfold tGo
  rw [e, zq0_pLn q]
  simp only [zq0_zpw q]
theorem tTk_c (h : zqT n w w') (hT : TOt w T t) : tTk (wX w' c) T t = tTk (wX w c) T t := by
  unfold tTk
  have t0 := hT.1.1
  refine zsum_congr (fun i i0 i1 => ?_)
  by_cases o : 1 ≤ i
  · rw [if_pos o, if_pos o]
    exact zq0_Tk (zqT_q0 h c) (hT.2.1 (i - 1) (by omega) (by omega)) (hT.2.1 i i0 (by omega))
  · rw [if_neg o, if_neg o]
theorem tIn_c (hV : MV w) (hF : TFt w n) (h : zqT n w w') (k : Nat) (hk : k ≤ n) : tIn w' k = tIn w k := by
  induction k with
  | zero => rfl
  | succ k ih =>
    have F := hF k (by omega) (by omega)
    have z0 : ∀ e, 0 ≤ e → e < 128 → 0 ≤ (fun _ : Int => (0 : Int)) e ∧ (fun _ : Int => (0 : Int)) e ≤ 1000 := fun e _ _ => by dsimp only; omega
    have e := zq0_pD (wX_MV hV _) (wX_Cr w z0) (zqT_q0 h (fun _ => 0)) (to := w 140 k) ⟨F.2.1, by omega⟩
    simp only [tIn]
    rw [ih (by omega), (h.2.2 k (by omega) (by omega)).1, (h.2.2 k (by omega) (by omega)).2]
    unfold wZ
    rw [e, tGo_c hV h z0 _ _ F.2]
theorem tRd_c (hV : MV w) (hF : TFt w n) (hn : n ≤ 8) (h : zqT n w w') (hT : ∀ t : Int, 0 ≤ t → t < n → TOt w T t) (k : Nat) (hk : k ≤ n) : tRd w' n T k = tRd w n T k := by
  induction k with
  | zero => rfl
  | succ k ih =>
    have F := hF k (by omega) (by omega)
    have ok := fun t t0 t1 => (tRd_ok hV hF hn hT k (by omega) t t0 t1).1
    simp only [tRd]
    rw [ih (by omega)]
    unfold tS1
    have cb := fun e (_ : 0 ≤ e) (_ : e < 128) => tCw_b hn ok k e
    have e := zq0_pD (wX_MV hV _) (wX_Cr w cb) (zqT_q0 h _) (to := w 140 k) ⟨F.2.1, by omega⟩
    rw [(h.2.2 k (by omega) (by omega)).1, (h.2.2 k (by omega) (by omega)).2, e, tTk_c h (ok k (by omega) (by omega)), tGo_c hV h cb _ _ F.2]
theorem tRs_c (hV : MV w) (hF : TFt w n) (hn : n ≤ 8) (h : zqT n w w') (k : Nat) (r : Int) (T : zTS) (hT : ∀ t : Int, 0 ≤ t → t < n → TOt w T t) : tRs w' n k r T = tRs w n k r T := by
  induction k generalizing r T with
  | zero => rfl
  | succ k ih =>
    simp only [tRs]
    rw [tRd_c hV hF hn h hT n (Nat.le_refl _), ih _ _ (fun t t0 t1 => (tRd_ok hV hF hn hT n (Nat.le_refl _) t t0 t1).1)]
end TRIPS2
