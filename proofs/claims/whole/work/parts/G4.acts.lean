/-! calls that are acts: what is kept of one more -/
section ACTS4
variable {R R' m x : zM} {a k S0 K : Int}
theorem zc3_c (h : ∀ i, 0 ≤ i → i < a → x 114 i = m 114 i) {j : Int} (hj : j ≤ a) : zc3 x j = zc3 m j := by
  unfold zc3
  exact zcnt_congr (fun i i0 i1 => by rw [h i i0 (by omega)])
theorem LW_c2 {n : Int} {L L' : Int → Int} (h : ∀ j q, 0 ≤ j → j < n → 0 ≤ q → q < 7 → L' (7 * j + q) = L (7 * j + q)) (hL : LW n L) : LW n L' := by
  have h0 : ∀ j, 0 ≤ j → j < n → L' (7 * j) = L (7 * j) := fun j j0 j1 => by
    have := h j 0 j0 j1 (by omega) (by omega)
    rwa [Int.add_zero] at this
  refine ⟨hL.1, fun k k0 k1 => ?_, fun j k j0 jk k1 => ?_⟩
  · rw [h0 k k0 k1, h k 1 k0 k1 (by omega) (by omega), h k 2 k0 k1 (by omega) (by omega), h k 3 k0 k1 (by omega) (by omega), h k 4 k0 k1 (by omega) (by omega), h k 5 k0 k1 (by omega) (by omega)]
    exact hL.2.1 k k0 k1
  · rw [h0 j j0 (by omega), h0 k (by omega) k1, h j 1 j0 (by omega) (by omega) (by omega), h k 1 (by omega) k1 (by omega) (by omega), h j 2 j0 (by omega) (by omega) (by omega), h k 2 (by omega) k1 (by omega) (by omega)]
    exact hL.2.2 j k j0 jk k1
theorem ARl_add (hy : 0 ≤ m 100 6) (h : ARl R m m) (ha : m 100 19 = a) (ha2 : a < 60) (hk : 0 ≤ k ∧ k ≤ 4) (h58 : x 58 0 = a + 1) (h19 : x 100 19 = a + 1) (h6 : x 100 6 = m 100 6) (hN : mN x = mN m)
    (r59 : x 59 = zrw (m 59) a k) (r60 : x 60 = zrw (m 60) a (m 100 6)) (r114 : x 114 = zrw (m 114) a k) (r115 : x 115 = zrw (m 115) a (m 100 6))
    (r61 : ∀ q, q < 4 * a → x 61 q = m 61 q) (r116 : ∀ q, q < 4 * a → x 116 q = m 116 q) (r117 : ∀ q, q < 84 * a → x 117 q = m 117 q)
    (hR : ∀ i, 0 ≤ i → i < a → m 114 i = 4 → R' 62 i = R 62 i ∧ LK R' (R 62 i) ∧ x (R 62 i) 0 = m (R 62 i) 0 ∧ ∀ j q, 0 ≤ j → j < m (R 62 i) 0 → 0 ≤ q → q < 7 → x (R 62 i + 1) (7 * j + q) = m (R 62 i + 1) (7 * j + q))
    (hA : AOk R' x x a)
    (h10 : x 100 10 = m 100 10 + if k = 3 then 1 else 0)
    (hs : ∀ b, 106 ≤ b → b ≤ 109 → ∀ q, q < m 100 10 → x b q = m b q)
    (h3 : k = 3 → x 106 (m 100 10) = x 116 (4 * a) ∧ x 107 (m 100 10) = x 116 (4 * a + 1) ∧ x 108 (m 100 10) = x 116 (4 * a + 2) ∧ x 109 (m 100 10) = x 116 (4 * a + 3)) : ARl R' x x := by
  obtain ⟨b0, b1, b2, b3, b4, b5⟩ := h
  rw [ha] at b0 b1 b2 b3 b4 b5
  have e114 : ∀ i, 0 ≤ i → i < a → x 114 i = m 114 i := fun i i0 i1 => by rw [r114, zrw_ne (by omega)]
  have ez : ∀ j, j ≤ a → zc3 x j = zc3 m j := fun j hj => zc3_c e114 hj
  have x114a : x 114 a = k := by rw [r114, zrw_at]
  have zs : zc3 x (a + 1) = zc3 m a + if k = 3 then 1 else 0 := by
    rw [zc3_step x b0.1, ez a (by omega), x114a]
  refine ⟨by rw [h19]; omega, by rw [h19]; exact h58, fun i i0 i1 => ?_, fun i j i0 ij j1 => ?_, by rw [h19, zs, b4, h10], fun i i0 i1 hi => ?_⟩
  · rw [h19] at i1
    by_cases e : i = a
    · rw [e]
      refine ⟨hA, ?_⟩
      rw [r115, zrw_at, h6]
      omega
    · obtain ⟨c1, c2⟩ := b2 i i0 (by omega)
      refine ⟨?_, by rw [r115, zrw_ne e, h6]; exact c2⟩
      obtain ⟨d0, d1, d3, d4, d5, d6, d7, d8, d9, d10⟩ := c1
      have g116 : ∀ q, q < 4 → x 116 (4 * i + q) = m 116 (4 * i + q) := fun q hq => r116 _ (by omega)
      have g61 : ∀ q, q < 4 → x 61 (4 * i + q) = m 61 (4 * i + q) := fun q hq => r61 _ (by omega)
      have g0 : x 116 (4 * i) = m 116 (4 * i) := r116 _ (by omega)
      have g0' : x 61 (4 * i) = m 61 (4 * i) := r61 _ (by omega)
      unfold AOk
      rw [e114 i i0 (by omega), r59, zrw_ne e, r60, zrw_ne e, r115, zrw_ne e, g0, g0', g116 1 (by omega), g116 2 (by omega), g116 3 (by omega), g61 1 (by omega), g61 2 (by omega), g61 3 (by omega), hN]
      refine ⟨d0, d1, d3, d4, d5, d6, d7, d8, d9, fun z => ?_⟩
      obtain ⟨q1, q2, q3, q4, q5⟩ := d10 z
      obtain ⟨p1, p2, p3, p4⟩ := hR i i0 (by omega) z
      rw [p1, p3]
      refine ⟨q1, p2, q3, ?_, fun j q j0 j1 k0 k1 => ?_⟩
      · exact LW_c2 (fun j q j0 j1 k0 k1 => p4 j q j0 j1 k0 k1) q4
      · have p40 := p4 j 0 j0 j1 (by omega) (by omega)
        rw [Int.add_zero] at p40
        have := q5 j q j0 j1 k0 k1
        dsimp only at this ⊢
        rw [r117 _ (by have := q4.1; omega), p4 j q j0 j1 k0 k1, p40]
        exact this
  · rw [h19] at j1
    rw [r115]
    by_cases e : j = a
    · rw [e, zrw_at]
      by_cases e2 : i = a
      · rw [e2, zrw_at]; omega
      · rw [zrw_ne e2]; exact (b2 i i0 (by omega)).2.2
    · rw [zrw_ne e, zrw_ne (by omega)]
      exact b3 i j i0 ij (by omega)
  · rw [h19] at i1
    by_cases e : i = a
    · rw [e, x114a] at hi
      rw [e, ez a (by omega), b4]
      exact h3 hi
    · rw [e114 i i0 (by omega)] at hi
      obtain ⟨q1, q2, q3, q4⟩ := b5 i i0 (by omega) hi
      have lt : zc3 m i < m 100 10 := by
        have s := zc3_step m i0
        rw [hi, if_pos rfl] at s
        have := zc3_le m (i := i + 1) (j := a) (by omega)
        omega
      rw [ez i (by omega), hs 106 (by omega) (by omega) _ lt, hs 107 (by omega) (by omega) _ lt, hs 108 (by omega) (by omega) _ lt, hs 109 (by omega) (by omega) _ lt, r116 _ (by omega), r116 (4 * i + 1) (by omega), r116 (4 * i + 2) (by omega), r116 (4 * i + 3) (by omega)]
      exact ⟨q1, q2, q3, q4⟩
theorem Rel_act (h : Rel R m S0 K) (hRT : RT R' S0) (hA : ARl R' x x) (hT : TR x x 2) (hPA : PAs x) (hTP : TPe x) (f : ∀ b, (31 ≤ b ∧ b ≤ 36) ∨ (70 ≤ b ∧ b ≤ 75) ∨ (79 ≤ b ∧ b ≤ 99) ∨ b = 131 ∨ b = 132 ∨ b = 139 ∨ b = 140 ∨ (143 ≤ b ∧ b ≤ 152) → x b = m b) (hk : ∀ k, k = 0 ∨ k = 1 ∨ k = 51 ∨ k = 62 ∨ k = 67 ∨ k = 71 → x 100 k = m 100 k) (h3 : (x 3 = m 3 ∧ x 4 = m 4 ∧ x 5 = m 5 ∧ x 101 = m 101 ∧ x 102 = m 102) ∨ (m 3 3 < x 3 3 ∧ x 3 3 ≤ m 3 3 + 1000)) : Rel R' x S0 (K + 1) := by
  obtain ⟨-, -, hT0, hKA, -, -, hWT, hWL, ⟨ntr, hTR⟩, ⟨npl, hPL⟩, hNT, hSH⟩ := h
  have e33 : m 3 3 ≤ x 3 3 ∧ x 3 3 ≤ m 3 3 + 1000 := by
    rcases h3 with ⟨q, -⟩ | q
    · rw [q]; omega
    · omega
  refine ⟨hRT, hA, hT, KAn_up e33 (fun b b0 b1 => f b (by omega)) hKA, hPA, hTP, WTr_c (by rw [f 70 (by omega)]) (f 71 (by omega)) (f 72 (by omega)) (hk 51 (by omega)) (f 131 (by omega)) (f 132 (by omega)) (hk 0 (by omega)) (hk 1 (by omega)) hWT, ?_, ⟨ntr, TRi_c hT0.1.2.1 (fun b b0 b1 => f b (by omega)) (f 139 (by omega)) (f 140 (by omega)) (hk 62 (by omega)) e33.1 (fun e => ?_) hTR⟩, ⟨npl, PLa_c (fun b b0 b1 _ => f b (by omega)) (by rw [f 87 (by omega)]) (f 143 (by omega)) (f 144 (by omega)) (f 145 (by omega)) (hk 67 (by omega)) (hk 0 (by omega)) (hk 1 (by omega)) hPL⟩, NTe_c (fun b b0 b1 => f b (by omega)) (by rw [f 91 (by omega)]) (hk 71 (by omega)) (fun b b0 b1 => f b (by omega)) hNT, SHe_c (fun b b0 b1 => f b (by omega)) (fun b b0 b1 => f b (by omega)) hSH⟩
  · rcases h3 with ⟨q1, q2, q3, q4, q5⟩ | q
    · exact WLd_c q1 q2 q3 (f 73 (by omega)) (f 74 (by omega)) (f 75 (by omega)) (by rw [f 70 (by omega)]) hWL
    · exact WLd_up q.1 (by rw [f 70 (by omega)]) (f 75 (by omega)) hWL
  · rcases h3 with ⟨q1, q2, q3, q4, q5⟩ | q
    · exact ⟨⟨hk 0 (by omega), hk 1 (by omega)⟩, fun p _ _ => by rw [q4, q5]; exact ⟨rfl, rfl⟩⟩
    · omega
theorem zkeep_rows (m : zM) (k y p v : Int) : zkeep m k y p v 59 = zrw (m 59) (m 58 0) k ∧ zkeep m k y p v 60 = zrw (m 60) (m 58 0) y ∧ zkeep m k y p v 58 = zrw (m 58) 0 (m 58 0 + 1) ∧ zkeep m k y p v 61 = zrw (zrw (m 61) (4 * m 58 0) p) (4 * m 58 0 + 1) v ∧ ∀ b, b < 58 ∨ 61 < b → zkeep m k y p v b = m b := by
  unfold zkeep
  refine ⟨?_, ?_, ?_, zpr_at _ _ _, fun b hb => by rw [zpr_ne (by omega), zpr_ne (by omega), zpr_ne (by omega), zpr_ne (by omega)]⟩ <;> simp (disch := decide) only [zpr_ne, zpr_at]
theorem zmrec_rows (w : zM) (k a b c d : Int) : zmrec w k a b c d 114 = zrw (w 114) (w 100 19) k ∧ zmrec w k a b c d 115 = zrw (w 115) (w 100 19) (w 100 6) ∧ zmrec w k a b c d 116 = zrw (zrw (zrw (zrw (w 116) (4 * w 100 19) a) (4 * w 100 19 + 1) b) (4 * w 100 19 + 2) c) (4 * w 100 19 + 3) d ∧ zmrec w k a b c d 100 = zrw (w 100) 19 (w 100 19 + 1) ∧ ∀ q, q ≠ 100 → q ≠ 114 → q ≠ 115 → q ≠ 116 → zmrec w k a b c d q = w q := by
  unfold zmrec
  refine ⟨?_, ?_, ?_, zpr_at _ _ _, fun q q1 q2 q3 q4 => by rw [zpr_ne q1, zpr_ne q4, zpr_ne q3, zpr_ne q2]⟩ <;> simp (disch := decide) only [zpr_ne, zpr_at]
/-- an act of ground, height, use is kept -/
theorem ARl_k2 (hy : 0 ≤ m 100 6) (h : ARl R m m) (ha : m 100 19 < 60) {p v : Int} (hk : 0 ≤ k ∧ k ≤ 2) (hp : 0 ≤ p ∧ p < mN m) (hv : (k = 0 → 0 ≤ v ∧ v ≤ 2) ∧ (k = 1 → 0 ≤ v ∧ v ≤ 9) ∧ (k = 2 → 0 ≤ v ∧ v ≤ 3))
    (hx : ∀ b, 58 ≤ b → b ≤ 61 → x b = zkeep m k (m 100 6) p v b) (hm : ∀ b, 114 ≤ b → b ≤ 117 → x b = zmrec m k p v 0 0 b) (hk' : ∀ j, j = 0 ∨ j = 1 ∨ j = 6 ∨ j = 10 ∨ j = 19 → x 100 j = zmrec m k p v 0 0 100 j) (hs : ∀ b, 106 ≤ b → b ≤ 109 → x b = m b) (hl : ∀ b, 153 ≤ b → x b = m b) : ARl R x x := by
  obtain ⟨k59, k60, k58, k61, -⟩ := zkeep_rows m k (m 100 6) p v
  obtain ⟨r114, r115, r116, r100, ro⟩ := zmrec_rows m k p v 0 0
  have e58 : m 58 0 = m 100 19 := h.2.1
  rw [e58] at k59 k60 k58 k61
  have hk0 := hk' 0 (by omega)
  have hk1 := hk' 1 (by omega)
  have hk6 := hk' 6 (by omega)
  have hk10 := hk' 10 (by omega)
  have hk19 := hk' 19 (by omega)
  rw [r100, zrw_ne (by decide)] at hk0 hk1 hk6 hk10
  rw [r100, zrw_at] at hk19
  have a0 := h.1.1
  have x61 : x 61 (4 * m 100 19) = p ∧ x 61 (4 * m 100 19 + 1) = v := by
    rw [hx 61 (by omega) (by omega), k61, zrw_at, zrw_ne (by omega), zrw_at]; exact ⟨rfl, rfl⟩
  have x116 : x 116 (4 * m 100 19) = p ∧ x 116 (4 * m 100 19 + 1) = v := by
    rw [hm 116 (by omega) (by omega), r116, zrw_ne (by omega), zrw_ne (by omega), zrw_ne (by omega), zrw_at, zrw_ne (by omega), zrw_ne (by omega), zrw_at]; exact ⟨rfl, rfl⟩
  have x114 : x 114 (m 100 19) = k := by rw [hm 114 (by omega) (by omega), r114, zrw_at]
  refine ARl_add hy h rfl ha ⟨hk.1, by omega⟩ (by rw [hx 58 (by omega) (by omega), k58, zrw_at]) hk19 hk6 (by unfold mN; rw [hk0, hk1]) (by rw [hx 59 (by omega) (by omega), k59]) (by rw [hx 60 (by omega) (by omega), k60]) (by rw [hm 114 (by omega) (by omega), r114]) (by rw [hm 115 (by omega) (by omega), r115]) (fun q hq => by rw [hx 61 (by omega) (by omega), k61, zrw_ne (by omega), zrw_ne (by omega)]) (fun q hq => by rw [hm 116 (by omega) (by omega), r116, zrw_ne (by omega), zrw_ne (by omega), zrw_ne (by omega), zrw_ne (by omega)]) (fun q hq => by rw [hm 117 (by omega) (by omega), ro 117 (by decide) (by decide) (by decide) (by decide)]) (fun i i0 i1 hi => ?_) ?_ (by rw [hk10, if_neg (by omega)]; omega) (fun b b0 b1 q hq => by rw [hs b b0 b1]) (fun e => by omega)
  · obtain ⟨c1, -⟩ := h.2.2.1 i i0 i1
    obtain ⟨q1, q2, q3, q4, q5⟩ := c1.2.2.2.2.2.2.2.2.2 hi
    refine ⟨rfl, q2, by rw [hl _ q1], fun j q _ _ _ _ => by rw [hl _ (by omega)]⟩
  · unfold AOk
    rw [x114, x61.1, x61.2, x116.1, x116.2, hx 59 (by omega) (by omega), k59, zrw_at, hx 60 (by omega) (by omega), k60, zrw_at, hm 115 (by omega) (by omega), r115, zrw_at]
    refine ⟨⟨hk.1, by omega⟩, rfl, rfl, fun _ => ⟨rfl, rfl⟩, fun _ => ?_, hv.1, hv.2.1, hv.2.2, fun e => by omega, fun e => by omega⟩
    rw [show mN x = mN m by unfold mN; rw [hk0, hk1]]
    exact hp
end ACTS4
