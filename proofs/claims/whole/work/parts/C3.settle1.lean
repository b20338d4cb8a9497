/-! the class settles trips: measuring, tracing one -/
def QS (m x : zM) : Prop := (∀ b, b ≠ 70 → b ≠ 73 → b ≠ 74 → b ≠ 75 → b ≠ 76 → b ≠ 77 → b ≠ 78 → b ≠ 79 → b ≠ 82 → b ≠ 83 → b ≠ 84 → b ≠ 85 → b ≠ 86 → x b = m b) ∧ (∀ k, k ≠ 7 → k ≠ 10 → k ≠ 11 → k ≠ 13 → k ≠ 14 → x 70 k = m 70 k) ∧ (∀ k, k ≠ 2 → k ≠ 3 → k ≠ 4 → k ≠ 5 → x 79 k = m 79 k) ∧ (x 70 7 = m 70 7 ∨ x 70 7 = m 3 3)
section SETTLE1
variable {R m w x y z : zM} {T : zTS} {t : Int} {n : Nat} {c : Int → Int} {D : Int → Int}
theorem QS_self (m : zM) : QS m m := ⟨fun _ _ _ _ _ _ _ _ _ _ _ _ _ _ => rfl, fun _ _ _ _ _ _ => rfl, fun _ _ _ _ _ => rfl, Or.inl rfl⟩
theorem QS_tr (h : QS x y) (g : QS y z) : QS x z := ⟨fun b b1 b2 b3 b4 b5 b6 b7 b8 b9 b10 b11 b12 b13 => (g.1 b b1 b2 b3 b4 b5 b6 b7 b8 b9 b10 b11 b12 b13).trans (h.1 b b1 b2 b3 b4 b5 b6 b7 b8 b9 b10 b11 b12 b13), fun k k1 k2 k3 k4 k5 => (g.2.1 k k1 k2 k3 k4 k5).trans (h.2.1 k k1 k2 k3 k4 k5), fun k k1 k2 k3 k4 => (g.2.2.1 k k1 k2 k3 k4).trans (h.2.2.1 k k1 k2 k3 k4), by
  have e3 : y 3 = x 3 := h.1 3 (by decide) (by decide) (by decide) (by decide) (by decide) (by decide) (by decide) (by decide) (by decide) (by decide) (by decide) (by decide) (by decide)
  rcases g.2.2.2 with q | q
  · rw [q]; exact h.2.2.2
  · rw [q, e3]; exact Or.inr rfl⟩
theorem QS_zpr (m : zM) {b : Int} (f : Int → Int) (hb : b = 73 ∨ b = 74 ∨ b = 75 ∨ b = 76 ∨ b = 77 ∨ b = 78 ∨ b = 82 ∨ b = 83 ∨ b = 84 ∨ b = 85 ∨ b = 86) : QS m (zpr m b f) :=
  ⟨fun a a1 a2 a3 a4 a5 a6 a7 a8 a9 a10 a11 a12 a13 => zpr_ne (by rcases hb with h | h | h | h | h | h | h | h | h | h | h <;> rw [h] <;> assumption), fun k _ _ _ _ _ => by rw [zpr_ne (by rcases hb with h | h | h | h | h | h | h | h | h | h | h <;> rw [h] <;> decide)], fun k _ _ _ _ => by rw [zpr_ne (by rcases hb with h | h | h | h | h | h | h | h | h | h | h <;> rw [h] <;> decide)], Or.inl (by rw [zpr_ne (by rcases hb with h | h | h | h | h | h | h | h | h | h | h <;> rw [h] <;> decide)])⟩
theorem QS_WRs (h : QS m x) (hW : WRs m w) : WRs x w := WRs_c (fun b b0 b1 => h.1 b (by omega) (by omega) (by omega) (by omega) (by omega) (by omega) (by omega) (by omega) (by omega) (by omega) (by omega) (by omega) (by omega)) (h.2.1 1 (by decide) (by decide) (by decide) (by decide) (by decide)) (h.1 71 (by decide) (by decide) (by decide) (by decide) (by decide) (by decide) (by decide) (by decide) (by decide) (by decide) (by decide) (by decide) (by decide)) (h.1 72 (by decide) (by decide) (by decide) (by decide) (by decide) (by decide) (by decide) (by decide) (by decide) (by decide) (by decide) (by decide) (by decide)) hW
theorem QS_b (h : QS m x) {b : Int} (hb : b < 70 ∨ b = 80 ∨ b = 81 ∨ 86 < b) : x b = m b := h.1 b (by omega) (by omega) (by omega) (by omega) (by omega) (by omega) (by omega) (by omega) (by omega) (by omega) (by omega) (by omega) (by omega)
theorem CTr_g (h3 : ∀ b, 3 ≤ b → b ≤ 8 → y b = x b) (h1 : y 70 1 = x 70 1) (h10 : y 70 10 = x 70 10) (hb : ∀ b, 71 ≤ b → b ≤ 76 → y b = x b) (hT : CTr x w D) : CTr y w D := by
  obtain ⟨hL, hW, hC, hCr, hD⟩ := hT
  refine ⟨?_, WRs_c h3 h1 (hb 71 (by decide) (by decide)) (hb 72 (by decide) (by decide)) hW, ?_, hCr, ?_⟩
  · intro p d p0 p1 d0 d1
    have := hL p d p0 p1 d0 d1
    unfold LDr cGo cBs cGr cQ at *
    rw [h3 3 (by decide) (by decide), h3 4 (by decide) (by decide), h3 5 (by decide) (by decide), hb 73 (by decide) (by decide), hb 74 (by decide) (by decide)]
    exact this
  · unfold CRm at *
    rw [h10, hb 73 (by decide) (by decide), hb 75 (by decide) (by decide)]
    exact hC
  · rw [hb 76 (by decide) (by decide)]; exact hD
theorem tz_tmeasure (hWK : WK R) (hB : BK R 3) (hW : WRs x w) (hL : x 70 7 = x 3 3 → LDok x) (hC : CWd x c) (hc : ∀ e, 0 ≤ e → e < 128 → 0 ≤ c e ∧ c e ≤ 1000) {to : Int} (hto : 0 ≤ to ∧ to < 64) : ∃ y : zM, ev 153 0 [(2, 70), (0, to), (0, 1), (9, 0), (9, 0)] [] R x = some ((9, 0), R, y) ∧ CTr y (wX w c) (pD (wX w c) to) ∧ (∀ b, b ≠ 70 → b ≠ 73 → b ≠ 74 → b ≠ 76 → b ≠ 77 → y b = x b) ∧ (∀ k, k ≠ 7 → k ≠ 10 → y 70 k = x 70 k) ∧ y 70 7 = x 3 3 ∧ y 70 10 = 1 := by
  have hg := CRg_of hW.1.1.1 hC hc w
  have hV' := wX_MV hW.1.2.1 c
  obtain ⟨y, e1, a1, a2, a3, a4, a5, Q, hQ, a6⟩ := tz_measure hWK hB (wX_WRs hW c) (wX_Cr w hc) hL hto (Or.inr rfl) hg
  have hD := pD_DFn (to := to) hV' (wX_Cr w hc) ⟨hto.1, by omega⟩
  refine ⟨y, e1, ⟨a3, WRs_c (fun b b0 b1 => a1 b (by omega) (by omega) (by omega) (by omega) (by omega)) (a2 1 (by decide) (by decide)) (a1 71 (by decide) (by decide) (by decide) (by decide) (by decide)) (a1 72 (by decide) (by decide) (by decide) (by decide) (by decide)) (wX_WRs hW c), CRm_of hg a5 (a1 3 (by decide) (by decide) (by decide) (by decide) (by decide)) (a1 4 (by decide) (by decide) (by decide) (by decide) (by decide)) (a1 75 (by decide) (by decide) (by decide) (by decide) (by decide)) a3, wX_Cr w hc, fun s s0 s1 => ?_⟩, a1, a2, a4, a5⟩
  rw [a6 s s0 s1, pD_of hQ]
  refine ⟨rfl, ?_⟩
  rcases hD.1 s s0 s1 with q | q <;> omega
/-- after tracing: lengths and plots of a trip -/
theorem tz_retrace (hPK : PK R) (hWK : WK R) (hB : BK R 3) (hV : MV w) (hc : ∀ e, 0 ≤ e → e < 128 → 0 ≤ c e ∧ c e ≤ 1000) {a b : Int} (ha : 0 ≤ a ∧ a < 64) (hb : 0 ≤ b ∧ b < 64) (hT : CTr x (wX w c) (pD (wX w c) b)) (hr : pD (wX w c) b a < 1000000) (ht : 0 ≤ t ∧ t < x 79 1 ∧ t < 8) (T : zTS) : ∃ y z : zM, ev 165 0 [(2, 70), (0, a), (9, 0), (9, 0), (9, 0)] [] R x = some ((9, 0), R, y) ∧ ev 136 0 [(2, 79), (0, t), (9, 0)] [] R y = some ((9, 0), R, z) ∧ QS x z ∧ z 70 7 = x 70 7 ∧ z 70 10 = x 70 10 ∧ z 79 = x 79 ∧ (∀ u, 71 ≤ u → u ≤ 77 → z u = x u) ∧ (∀ u, 82 ≤ u → u ≤ 84 → z u = x u) ∧ TRw z (tGo (wX w c) a b t T) t ∧ ∀ u, u ≠ t → TRw x T u → T.1 u ≤ 64 → TRw z (tGo (wX w c) a b t T) u := by
  obtain ⟨n1, n2⟩ := tGo_f hV hc ha hb hr
  have hD := pD_DFn (to := b) (wX_MV hV c) (wX_Cr w hc) ⟨hb.1, by omega⟩
  obtain ⟨y, e1, q1, q2, q3⟩ := tz_trace hWK hB hT (wX_Stop w c) hD hb ha hr n2 (by omega)
  obtain ⟨g, e2, g1, g2⟩ := tz_keepTraced (R := R) (m := y) hPK hWK (t := t) (by rw [q1.1 79 (by decide) (by decide)]; exact ht) (by rw [q2]; omega)
  have at' := tGo_at (wX w c) a b t T
  have ne := fun u h => tGo_ne (wX w c) (a := a) (b := b) (t := t) (u := u) T n1 h
  rw [q2] at g1 e2
  have v85 : (zpr (zpr y 85 (zrw (y 85) t ((pLn (wX w c) (pD (wX w c) b) a b : Int) + 1))) 86 g) 85 = zrw (y 85) t ((pLn (wX w c) (pD (wX w c) b) a b : Int) + 1) := by rw [zpr_ne (by decide), zpr_at]
  have v86 : (zpr (zpr y 85 (zrw (y 85) t ((pLn (wX w c) (pD (wX w c) b) a b : Int) + 1))) 86 g) 86 = g := zpr_at _ _ _
  have vo : ∀ u, u ≠ 85 → u ≠ 86 → (zpr (zpr y 85 (zrw (y 85) t ((pLn (wX w c) (pD (wX w c) b) a b : Int) + 1))) 86 g) u = y u := fun u h1 h2 => by rw [zpr_ne h2, zpr_ne h1]
  refine ⟨y, _, e1, e2, ?_, ?_, ?_, ?_, ?_, ?_, ?_, ?_⟩
  · refine ⟨fun b b1 b2 b3 b4 b5 b6 b7 b8 b9 b10 b11 b12 b13 => by rw [vo b b12 b13, q1.1 b b1 b7], fun k k1 k2 k3 k4 k5 => by rw [vo 70 (by decide) (by decide), q1.2 k k3 k4 k5], fun k _ _ _ _ => by rw [vo 79 (by decide) (by decide), q1.1 79 (by decide) (by decide)], Or.inl (by rw [vo 70 (by decide) (by decide), q1.2 7 (by decide) (by decide) (by decide)])⟩
  · rw [vo 70 (by decide) (by decide), q1.2 7 (by decide) (by decide) (by decide)]
  · rw [vo 70 (by decide) (by decide), q1.2 10 (by decide) (by decide) (by decide)]
  · rw [vo 79 (by decide) (by decide), q1.1 79 (by decide) (by decide)]
  · intro u u0 u1
    rw [vo u (by omega) (by omega), q1.1 u (by omega) (by omega)]
  · intro u u0 u1
    rw [vo u (by omega) (by omega), q1.1 u (by omega) (by omega)]
  · unfold TRw
    rw [v85, v86, zrw_at, at'.1]
    refine ⟨rfl, fun i i0 i1 => ?_⟩
    rw [g1 i i0 i1, at'.2 i i0 (by omega)]
    have := q3 i.toNat (by omega)
    rw [show ((i.toNat : Nat) : Int) = i by omega] at this
    exact this
  · intro u hu hR hl
    obtain ⟨m1, m2⟩ := ne u hu
    unfold TRw at hR ⊢
    rw [v85, v86, zrw_ne hu, m1, q1.1 85 (by decide) (by decide)]
    refine ⟨hR.1, fun i i0 i1 => ?_⟩
    rw [g2 _ (by omega), m2 i i0 (by omega), q1.1 86 (by decide) (by decide)]
    exact hR.2 i i0 i1
theorem tz_retrace0 (hPK : PK R) (hWK : WK R) {a : Int} (ha : 0 ≤ a ∧ a < 64) (hr : ¬ x 76 a < 1000000) (ht : 0 ≤ t ∧ t < x 79 1 ∧ t < 8) (T : zTS) : ∃ y z : zM, ev 165 0 [(2, 70), (0, a), (9, 0), (9, 0), (9, 0)] [] R x = some ((9, 0), R, y) ∧ ev 136 0 [(2, 79), (0, t), (9, 0)] [] R y = some ((9, 0), R, z) ∧ QS x z ∧ z 70 7 = x 70 7 ∧ z 70 10 = x 70 10 ∧ z 79 = x 79 ∧ (∀ u, 71 ≤ u → u ≤ 77 → z u = x u) ∧ (∀ u, 82 ≤ u → u ≤ 84 → z u = x u) ∧ TRw z (zrw T.1 t 0, T.2) t ∧ ∀ u, u ≠ t → TRw x T u → T.1 u ≤ 64 → TRw z (zrw T.1 t 0, T.2) u := by
  have e1 := tz_trace0 (R := R) (m := x) hWK ha hr
  obtain ⟨y, hy⟩ : ∃ y, zup x 70 11 0 = y := ⟨_, rfl⟩
  have q1 : TQ x y := by rw [← hy]; exact TQ_n x 0
  have q2 : y 70 11 = 0 := by rw [← hy, zup_at]
  rw [hy] at e1
  obtain ⟨g, e2, g1, g2⟩ := tz_keepTraced (R := R) (m := y) hPK hWK (t := t) (by rw [q1.1 79 (by decide) (by decide)]; exact ht) (by rw [q2]; omega)
  rw [q2] at g1 e2
  have v85 : (zpr (zpr y 85 (zrw (y 85) t 0)) 86 g) 85 = zrw (y 85) t 0 := by rw [zpr_ne (by decide), zpr_at]
  have v86 : (zpr (zpr y 85 (zrw (y 85) t 0)) 86 g) 86 = g := zpr_at _ _ _
  have vo : ∀ u, u ≠ 85 → u ≠ 86 → (zpr (zpr y 85 (zrw (y 85) t 0)) 86 g) u = y u := fun u h1 h2 => by rw [zpr_ne h2, zpr_ne h1]
  refine ⟨y, _, e1, e2, ?_, ?_, ?_, ?_, ?_, ?_, ?_, ?_⟩
  · refine ⟨fun b b1 b2 b3 b4 b5 b6 b7 b8 b9 b10 b11 b12 b13 => by rw [vo b b12 b13, q1.1 b b1 b7], fun k k1 k2 k3 k4 k5 => by rw [vo 70 (by decide) (by decide), q1.2 k k3 k4 k5], fun k _ _ _ _ => by rw [vo 79 (by decide) (by decide), q1.1 79 (by decide) (by decide)], Or.inl (by rw [vo 70 (by decide) (by decide), q1.2 7 (by decide) (by decide) (by decide)])⟩
  · rw [vo 70 (by decide) (by decide), q1.2 7 (by decide) (by decide) (by decide)]
  · rw [vo 70 (by decide) (by decide), q1.2 10 (by decide) (by decide) (by decide)]
  · rw [vo 79 (by decide) (by decide), q1.1 79 (by decide) (by decide)]
  · intro u u0 u1
    rw [vo u (by omega) (by omega), q1.1 u (by omega) (by omega)]
  · intro u u0 u1
    rw [vo u (by omega) (by omega), q1.1 u (by omega) (by omega)]
  · unfold TRw
    rw [v85, v86, zrw_at]
    dsimp only
    rw [zrw_at]
    exact ⟨rfl, fun i i0 i1 => by omega⟩
  · intro u hu hR hl
    unfold TRw at hR ⊢
    rw [v85, v86, zrw_ne hu]
    dsimp only
    rw [zrw_ne hu, q1.1 85 (by decide) (by decide)]
    refine ⟨hR.1, fun i i0 i1 => ?_⟩
    rw [g2 _ (by omega), q1.1 86 (by decide) (by decide)]
    exact hR.2 i i0 i1
/-- crowds of all, of all but one -/
theorem tCw_s (T : zTS) (n : Nat) (e : Int) : tCw T (n + 1) (-1) e = tCw T n (-1) e + tCw1 T n e := by
  unfold tCw
  simp only [zsum]
  rw [if_neg (by omega)]
theorem tCw_but (T : zTS) (n : Nat) (t e : Int) (h0 : 0 ≤ t) (h1 : t < n) : tCw T n (-1) e = tCw T n t e + tCw1 T t e := by
  have key : ∀ k : Nat, tCw T k (-1) e = tCw T k t e + if t < k then tCw1 T t e else 0 := by
    intro k
    induction k with
    | zero => unfold tCw; simp only [zsum]; rw [if_neg (by omega)]; omega
    | succ k ih =>
      unfold tCw at *
      simp only [zsum]
      rw [ih, if_neg (show ¬ (k : Int) = -1 by omega)]
      by_cases q : (k : Int) = t
      · rw [if_pos q, if_neg (show ¬ t < (k : Int) by omega), if_pos (show t < ((k + 1 : Nat) : Int) by omega), q]
        try omega
      · rw [if_neg q]
        by_cases r : t < (k : Int)
        · rw [if_pos r, if_pos (show t < ((k + 1 : Nat) : Int) by omega)]; omega
        · rw [if_neg r, if_neg (show ¬ t < ((k + 1 : Nat) : Int) by omega)]; omega
  rw [key n, if_pos h1]
theorem tCw_ne {T T' : zTS} (n : Nat) (t e : Int) (h : ∀ u : Int, 0 ≤ u → u < n → u ≠ t → tCw1 T' u e = tCw1 T u e) : tCw T' n t e = tCw T n t e := by
  unfold tCw
  refine zsum_congr (fun k k0 k1 => ?_)
  by_cases q : k = t
  · rw [if_pos q, if_pos q]
  · rw [if_neg q, if_neg q, h k k0 k1 q]
end SETTLE1
