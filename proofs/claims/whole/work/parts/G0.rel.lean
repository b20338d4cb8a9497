/-! the whole relation of the class's memory and the model's (one memory), its parts and what keeps them -/
def KAn (m : zM) (K : Int) : Prop := (0 ≤ m 3 3 ∧ m 3 3 ≤ 1000 * K + 10) ∧ (0 ≤ m 31 3 ∧ m 31 3 ≤ 1000 * K + 10) ∧ NV m 31 ∧ BV m 31
def PAs (m : zM) : Prop := (∀ y p, 0 ≤ y → y < m 2 3 → 0 ≤ p → p < mN m → m 27 (64 * y + p) = m 118 (64 * y + p)) ∧ ∀ y i, 0 ≤ y → y < m 2 3 → 0 ≤ i → i < 4 → m 28 (4 * y + i) = m 119 (4 * y + i)
def TPe (m : zM) : Prop := m 63 0 = m 100 27 ∧ (0 ≤ m 100 27 ∧ m 100 27 ≤ 320) ∧ (∀ i, 0 ≤ i → i < m 100 27 → m 64 i = m 120 i ∧ 0 ≤ m 120 i ∧ m 120 i ≤ 255) ∧ m 63 1 = m 100 28 ∧ ZC m
def WTr (m : zM) : Prop := (m 70 1 = m 100 51 ∧ 0 ≤ m 100 51 ∧ m 100 51 ≤ 4) ∧ (∀ t, 0 ≤ t → t < 4 → m 72 t = if t < m 100 51 then m 131 t else 0) ∧ (∀ t, 0 ≤ t → t < m 100 51 → 2 ≤ m 131 t ∧ m 131 t ≤ 6) ∧ ∀ a, 0 ≤ a → a < 24 → a % 6 < m 72 (a / 6) → m 71 a = m 132 a ∧ 0 ≤ m 132 a ∧ m 132 a < mN m
def WLd (m : zM) : Prop := m 70 7 ≤ m 3 3 ∧ (m 70 7 = m 3 3 → LDok m) ∧ ∀ i, 0 ≤ i → i < 256 → 0 ≤ m 75 i ∧ m 75 i ≤ 1000
def TRi (m : zM) (n : Nat) : Prop := TPs m m n ∧ m 100 62 = n ∧ (-1 ≤ m 79 4 ∧ m 79 4 ≤ n) ∧ m 79 5 ≤ m 3 3 ∧ (m 79 4 = n → m 79 5 = m 3 3 → TDr m m n (tRs m n 40 0 (tIn m n)))
def PLa (m : zM) (n : Nat) : Prop := PLs m n (mN m) ∧ PLm m n ∧ ∀ k : Int, 0 ≤ k → k < n → m 88 k = m 143 k ∧ m 89 k = m 144 k ∧ m 90 k = m 145 k
def NTe (m : zM) : Prop := m 91 0 = m 100 71 ∧ (0 ≤ m 100 71 ∧ m 100 71 ≤ 16) ∧ ∀ k, 0 ≤ k → k < m 100 71 → m 92 k = m 146 k ∧ m 93 k = m 147 k ∧ m 94 k = m 148 k ∧ m 95 k = m 149 k
def SHe (m : zM) : Prop := ∀ k, 0 ≤ k → k < 4 → (m 97 k = -1 ∧ m 150 k = -4) ∨ ((0 ≤ m 97 k ∧ m 97 k ≤ 128) ∧ m 151 k = m 97 k ∧ m 98 k = m 150 k ∧ (0 ≤ m 150 k ∧ m 150 k ≤ 2) ∧ ∀ i, 0 ≤ i → i < m 97 k → m 99 (128 * k + i) = m 152 (128 * k + i))
def RelB (m : zM) (K : Int) : Prop := TR m m 2 ∧ KAn m K ∧ PAs m ∧ TPe m ∧ WTr m ∧ WLd m ∧ (∃ n, TRi m n) ∧ (∃ n, PLa m n) ∧ NTe m ∧ SHe m
def Rel (R m : zM) (S0 K : Int) : Prop := RT R S0 ∧ ARl R m m ∧ RelB m K
section RELF
variable {R m x y w w' : zM} {K K' S0 : Int} {n : Nat}
theorem KAn_le (h : KAn m K) (hk : K ≤ K') : KAn m K' := ⟨⟨h.1.1, by have := h.1.2; omega⟩, ⟨h.2.1.1, by have := h.2.1.2; omega⟩, h.2.2⟩
theorem KAn_c (h3 : x 3 = m 3) (hb : ∀ b, 31 ≤ b → b ≤ 36 → x b = m b) (h : KAn m K) (hk : K ≤ K') : KAn x K' := by
  obtain ⟨a, b, c, d⟩ := KAn_le h hk
  refine ⟨by rw [h3]; exact a, by rw [hb 31 (by decide) (by decide)]; exact b, NV_c (m := m) (by rw [hb 31 (by decide) (by decide)]) (by rw [hb 31 (by decide) (by decide)]) (hb 36 (by decide) (by decide)) c, ?_⟩
  unfold BV at *
  simp only [Int.reduceAdd] at *
  rw [hb 31 (by decide) (by decide), hb 32 (by decide) (by decide), hb 33 (by decide) (by decide), hb 34 (by decide) (by decide)]
  exact d
/-- the same, but the board has been changed d times -/
theorem KAn_up (h3 : m 3 3 ≤ x 3 3 ∧ x 3 3 ≤ m 3 3 + 1000) (hb : ∀ b, 31 ≤ b → b ≤ 36 → x b = m b) (h : KAn m K) : KAn x (K + 1) := by
  have g : KAn (zpr x 3 (m 3)) (K + 1) := KAn_c (m := m) (zpr_at _ _ _) (fun b b0 b1 => by rw [zpr_ne (by omega)]; exact hb b b0 b1) h (by omega)
  obtain ⟨a, b, c, d⟩ := g
  refine ⟨by have := h.1; omega, by rw [zpr_ne (by decide)] at b; exact b, NV_c (m := zpr x 3 (m 3)) (by rw [zpr_ne (by decide)]) (by rw [zpr_ne (by decide)]) (by rw [zpr_ne (by decide)]) c, ?_⟩
  unfold BV at *
  simp only [Int.reduceAdd] at *
  rw [zpr_ne (by decide), zpr_ne (by decide), zpr_ne (by decide), zpr_ne (by decide)] at d
  exact d
theorem PAs_c (h3 : x 2 3 = m 2 3) (h27 : x 27 = m 27) (h28 : x 28 = m 28) (h118 : x 118 = m 118) (h119 : x 119 = m 119) (h0 : x 100 0 = m 100 0) (h1 : x 100 1 = m 100 1) (h : PAs m) : PAs x := by
  unfold PAs mN at *
  rw [h3, h27, h28, h118, h119, h0, h1]
  exact h
theorem TPe_c (h0 : x 63 0 = m 63 0) (h1 : x 63 1 = m 63 1) (h64 : x 64 = m 64) (h27 : x 100 27 = m 100 27) (h28 : x 100 28 = m 100 28) (h120 : x 120 = m 120) (h122 : x 122 = m 122) (h123 : x 123 = m 123) (h : TPe m) : TPe x := by
  unfold TPe ZC at *
  rw [h0, h1, h64, h27, h28, h120, h122, h123]
  exact h
theorem WTr_c (h1 : x 70 1 = m 70 1) (h71 : x 71 = m 71) (h72 : x 72 = m 72) (h51 : x 100 51 = m 100 51) (h131 : x 131 = m 131) (h132 : x 132 = m 132) (h0 : x 100 0 = m 100 0) (hh : x 100 1 = m 100 1) (h : WTr m) : WTr x := by
  unfold WTr mN at *
  rw [h1, h71, h72, h51, h131, h132, h0, hh]
  exact h
theorem WRs_of (hT : TR m m 2) (h : WTr m) : WRs m m := ⟨hT.1, h.1, h.2.1, h.2.2.1, h.2.2.2⟩
theorem LDok_c (h3 : x 3 = m 3) (h4 : x 4 = m 4) (h5 : x 5 = m 5) (h73 : x 73 = m 73) (h74 : x 74 = m 74) (h : LDok m) : LDok x := by
  unfold LDok LDr cGo cBs cGr cQ at *
  rw [h3, h4, h5, h73, h74]
  exact h
theorem WLd_c (h3 : x 3 = m 3) (h4 : x 4 = m 4) (h5 : x 5 = m 5) (h73 : x 73 = m 73) (h74 : x 74 = m 74) (h75 : x 75 = m 75) (h7 : x 70 7 = m 70 7) (h : WLd m) : WLd x := by
  obtain ⟨a, b, c⟩ := h
  refine ⟨by rw [h7, h3]; exact a, fun e => LDok_c h3 h4 h5 h73 h74 (b (by rw [h7, h3] at e; exact e)), by rw [h75]; exact c⟩
theorem WLd_up (h3 : m 3 3 < x 3 3) (h7 : x 70 7 = m 70 7) (h75 : x 75 = m 75) (h : WLd m) : WLd x := by
  obtain ⟨a, b, c⟩ := h
  exact ⟨by rw [h7]; omega, fun e => by rw [h7] at e; omega, by rw [h75]; exact c⟩
theorem TDr_c {r : Int × (Bool × zTS)} (hV : MV w) (hF : TFt w n) (hn : n ≤ 8) (hq : zqT n w w') (h79 : y 79 2 = x 79 2 ∧ y 79 3 = x 79 3) (hb : ∀ b, 82 ≤ b → b ≤ 86 → y b = x b) (h : TDr x w n r) : TDr y w' n r := by
  obtain ⟨a, b, c⟩ := h
  have ok := fun t t0 t1 => (c t t0 t1).2.2.2.1
  refine ⟨by rw [h79.1]; exact a, by rw [h79.2]; exact b, fun u u0 u1 => ?_⟩
  obtain ⟨c1, c2, c3, c4, c5⟩ := c u u0 u1
  have F := hF u u0 u1
  refine ⟨TRw_c (hb 85 (by decide) (by decide)) (hb 86 (by decide) (by decide)) c1, by rw [hb 82 (by decide) (by decide)]; exact c2, ?_, ?_, fun hf hp => ?_⟩
  · rw [hb 83 (by decide) (by decide), c3, (hq.2.2 u u0 u1).1, (hq.2.2 u u0 u1).2, zq0_pD (wX_MV hV _) (wX_Cr w z0b) (zqT_q0 hq (fun _ => 0)) (to := w 140 u) ⟨F.2.1, by omega⟩]
  · unfold TOt at c4 ⊢
    have e : wSt (wZ w') = wSt (wZ w) := by unfold wZ; exact zq0_St (zqT_q0 hq (fun _ => 0))
    rw [e, hq.1.1]
    exact c4
  · rw [hb 84 (by decide) (by decide), tTk_c hq c4]
    exact c5 hf hp
theorem TRi_c (hV : MV m) (hr : ∀ b, 79 ≤ b → b ≤ 86 → x b = m b) (h139 : x 139 = m 139) (h140 : x 140 = m 140) (h62 : x 100 62 = m 100 62) (h3 : m 3 3 ≤ x 3 3) (hq : x 3 3 = m 3 3 → (x 100 0 = m 100 0 ∧ x 100 1 = m 100 1) ∧ ∀ p, 0 ≤ p → p < 64 → x 101 p = m 101 p ∧ x 102 p = m 102 p) (h : TRi m n) : TRi x n := by
  obtain ⟨⟨p1, p2, p3, p4⟩, b, c, d, e⟩ := h
  have F' : TFt x n := by unfold TFt at *; rw [h139, h140]; exact p3
  refine ⟨⟨by rw [hr 79 (by decide) (by decide)]; exact p1, p2, F', ?_⟩, by rw [h62]; exact b, by rw [hr 79 (by decide) (by decide)]; exact c, by rw [hr 79 (by decide) (by decide)]; omega, fun e1 e2 => ?_⟩
  · rw [hr 80 (by decide) (by decide), hr 81 (by decide) (by decide), h139, h140]; exact p4
  · rw [hr 79 (by decide) (by decide)] at e1 e2
    have e3 : x 3 3 = m 3 3 := by omega
    obtain ⟨q1, q2⟩ := hq e3
    have qq : zqT n m x := ⟨q1, q2, fun t _ _ => by rw [h139, h140]; exact ⟨rfl, rfl⟩⟩
    have D := e e1 (by rw [← e3]; exact e2)
    have ok := tIn_ok hV p3 n (Nat.le_refl _)
    rw [tIn_c hV p3 qq n (Nat.le_refl _), tRs_c hV p3 p2 qq 40 0 (tIn m n) ok]
    exact TDr_c hV p3 p2 qq (by rw [hr 79 (by decide) (by decide)]; exact ⟨rfl, rfl⟩) (fun b b0 b1 => hr b (by omega) b1) D
theorem PLa_c (hr : ∀ b, 87 ≤ b → b ≤ 90 → b ≠ 87 → x b = m b) (h87 : x 87 0 = m 87 0) (h143 : x 143 = m 143) (h144 : x 144 = m 144) (h145 : x 145 = m 145) (h67 : x 100 67 = m 100 67) (h0 : x 100 0 = m 100 0) (h1 : x 100 1 = m 100 1) (h : PLa m n) : PLa x n := by
  unfold PLa PLs PLm mN at *
  rw [h87, hr 88 (by decide) (by decide) (by decide), hr 89 (by decide) (by decide) (by decide), hr 90 (by decide) (by decide) (by decide), h143, h144, h145, h67, h0, h1]
  exact h
theorem NTe_c (hr : ∀ b, 92 ≤ b → b ≤ 95 → x b = m b) (h91 : x 91 0 = m 91 0) (h71 : x 100 71 = m 100 71) (hs : ∀ b, 146 ≤ b → b ≤ 149 → x b = m b) (h : NTe m) : NTe x := by
  unfold NTe at *
  rw [h91, h71, hr 92 (by decide) (by decide), hr 93 (by decide) (by decide), hr 94 (by decide) (by decide), hr 95 (by decide) (by decide), hs 146 (by decide) (by decide), hs 147 (by decide) (by decide), hs 148 (by decide) (by decide), hs 149 (by decide) (by decide)]
  exact h
theorem SHe_c (hr : ∀ b, 97 ≤ b → b ≤ 99 → x b = m b) (hs : ∀ b, 150 ≤ b → b ≤ 152 → x b = m b) (h : SHe m) : SHe x := by
  unfold SHe at *
  rw [hr 97 (by decide) (by decide), hr 98 (by decide) (by decide), hr 99 (by decide) (by decide), hs 150 (by decide) (by decide), hs 151 (by decide) (by decide), hs 152 (by decide) (by decide)]
  exact h
theorem ARl_c (hr : ∀ b, 59 ≤ b → b ≤ 61 → x b = m b) (h58 : x 58 0 = m 58 0) (hl : ∀ b, 153 ≤ b → x b = m b) (hs : ∀ b, (106 ≤ b ∧ b ≤ 109) ∨ (114 ≤ b ∧ b ≤ 117) → x b = m b) (hk : x 100 0 = m 100 0 ∧ x 100 1 = m 100 1 ∧ x 100 6 = m 100 6 ∧ x 100 10 = m 100 10 ∧ x 100 19 = m 100 19) (h : ARl R m m) : ARl R x x := by
  obtain ⟨k0, k1, k6, k10, k19⟩ := hk
  obtain ⟨a, b, c, d, e, f⟩ := h
  have ez : ∀ i, zc3 x i = zc3 m i := fun i => by unfold zc3; rw [hs 114 (by omega)]
  have eN : mN x = mN m := by unfold mN; rw [k0, k1]
  unfold ARl
  simp only [ez, k6, k10, k19, h58, hs 106 (by omega), hs 107 (by omega), hs 108 (by omega), hs 109 (by omega), hs 114 (by omega), hs 115 (by omega), hs 116 (by omega)]
  refine ⟨a, b, fun i i0 i1 => ?_, d, e, f⟩
  obtain ⟨c1, c2⟩ := c i i0 i1
  refine ⟨?_, c2⟩
  obtain ⟨h0, h1, h3, h4, h5, h6, h7, h8, h9, h10⟩ := c1
  unfold AOk
  rw [hr 59 (by decide) (by decide), hr 60 (by decide) (by decide), hr 61 (by decide) (by decide), hs 114 (by omega), hs 115 (by omega), hs 116 (by omega), hs 117 (by omega), eN]
  refine ⟨h0, h1, h3, h4, h5, h6, h7, h8, h9, fun z => ?_⟩
  obtain ⟨q1, q2, q3, q4, q5⟩ := h10 z
  rw [hl _ q1, hl (R 62 i + 1) (by omega)]
  exact ⟨q1, q2, q3, q4, q5⟩
theorem Rel_K (h : Rel R m S0 K) (hk : K ≤ K') : Rel R m S0 K' := ⟨h.1, h.2.1, h.2.2.1, KAn_le h.2.2.2.1 hk, h.2.2.2.2⟩
/-- the facts of the layout, out of the relation -/
theorem Rel_RK (h : Rel R m S0 K) : RK R := h.1.1
end RELF
/-- a call of the class and of the model: they answer alike, and the relation holds again -/
def Top (yc ym : Nat) (ac am : List zV) : Prop := ∀ (R m : zM) (S0 K : Int), Rel R m S0 K → 0 ≤ K → K < 512 → ∃ (v : Int) (R' m1 m2 : zM), ev yc 0 ((2, 1) :: ac) [] R m = some ((0, v), R', m1) ∧ ev ym 0 ((2, 100) :: am) [] R' m1 = some ((0, v), R', m2) ∧ Rel R' m2 S0 (K + 1) ∧ ∀ k, k ≠ 0 → k ≠ 1 → R' 0 k = R 0 k
theorem Top_same {yc ym : Nat} {ac am : List zV} (h : ∀ (R m : zM) (S0 K : Int), Rel R m S0 K → ∃ v : Int, ev yc 0 ((2, 1) :: ac) [] R m = some ((0, v), R, m) ∧ ev ym 0 ((2, 100) :: am) [] R m = some ((0, v), R, m)) : Top yc ym ac am := by
  intro R m S0 K hR _ _
  obtain ⟨v, e1, e2⟩ := h R m S0 K hR
  exact ⟨v, R, m, m, e1, e2, Rel_K hR (by omega), fun _ _ _ => rfl⟩
