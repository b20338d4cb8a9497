/-! the town: worths -/
theorem tn_1_1 (x : Int) : x + 1 + 1 = x + 2 := by omega
theorem tn_1_2 (x : Int) : x + 1 + 2 = x + 3 := by omega
theorem tn_1_3 (x : Int) : x + 1 + 3 = x + 4 := by omega
theorem tn_1_4 (x : Int) : x + 1 + 4 = x + 5 := by omega
theorem tn_1_5 (x : Int) : x + 1 + 5 = x + 6 := by omega
theorem tn_7_1 (x : Int) : x + 7 + 1 = x + 8 := by omega
theorem tn_9_1 (x : Int) : x + 9 + 1 = x + 10 := by omega
theorem tn_9_2 (x : Int) : x + 9 + 2 = x + 11 := by omega
theorem tn_9_3 (x : Int) : x + 9 + 3 = x + 12 := by omega
theorem tn_9_4 (x : Int) : x + 9 + 4 = x + 13 := by omega
theorem tn_9_5 (x : Int) : x + 9 + 5 = x + 14 := by omega
theorem tn_9_6 (x : Int) : x + 9 + 6 = x + 15 := by omega
theorem tn_9_7 (x : Int) : x + 9 + 7 = x + 16 := by omega
theorem tn_9_8 (x : Int) : x + 9 + 8 = x + 17 := by omega
theorem tn_9_9 (x : Int) : x + 9 + 9 = x + 18 := by omega
theorem tn_9_10 (x : Int) : x + 9 + 10 = x + 19 := by omega
theorem tn_9_11 (x : Int) : x + 9 + 11 = x + 20 := by omega
theorem tn_9_12 (x : Int) : x + 9 + 12 = x + 21 := by omega
theorem tn_9_13 (x : Int) : x + 9 + 13 = x + 22 := by omega
theorem tn_9_14 (x : Int) : x + 9 + 14 = x + 23 := by omega
theorem tn_9_15 (x : Int) : x + 9 + 15 = x + 24 := by omega
theorem TK_B {R : zM} {t : Int} (h : TK R t) : BK R (t + 1) := by
  obtain ⟨hTK0, hTK1, hTK2, hTK3, hTK4, hTK5, hTK6, hTK7, hTK8, hTK9, hTK10, hTK11, hTK12, hTK13, hTK14, hTK15, hTK16, hTK17, hTK18, hTK19, hTK20, hTK21, hTK22, hTK23, hTK24, hTK25, hTK26, hTK27, hTK28, hTK29, hTK30, hTK31, hTK32, hTK33, hTK34, hTK35, hTK36, hTK37, hTK38, hTK39, hTK40, hTK41, hTK42, hTK43, hTK44, hTK45, hTK46, hTK47, hTK48, hTK49, hTK50, hTK51, hTK52, hTK53, hTK54, hTK55, hTK56, hTK57, hTK58, hTK59, hTK60, hTK61, hTK62, hTK63, hTK64, hTK65, hTK66, hTK67, hTK68, hTK69, hTK70, hTK71, hTK72, hTK73, hTK74, hTK75, hTK76, hTK77, hTK78⟩ := h
  simp only [BK, tn_1_1, tn_1_2, tn_1_3, tn_1_4, tn_1_5, tn_7_1, tn_9_1, tn_9_2, tn_9_3, tn_9_4, tn_9_5, tn_9_6, tn_9_7, tn_9_8, tn_9_9, tn_9_10, tn_9_11, tn_9_12, tn_9_13, tn_9_14, tn_9_15, hTK0, hTK1, hTK2, hTK3, hTK4, hTK5, hTK6, hTK7, hTK8, hTK9, hTK10, hTK11, hTK12, hTK13, hTK14, hTK15, hTK16, hTK17, hTK18, hTK19, hTK20, hTK21, hTK22, hTK23, hTK24, hTK25, hTK26, hTK27, hTK28, hTK29, hTK30, hTK31, hTK32, hTK33, hTK34, hTK35, hTK36, hTK37, hTK38, hTK39, hTK40, hTK41, hTK42, hTK43, hTK44, hTK45, hTK46, hTK47, hTK48, hTK49, hTK50, hTK51, hTK52, hTK53, hTK54, hTK55, hTK56, hTK57, hTK58, hTK59, hTK60, hTK61, hTK62, hTK63, hTK64, hTK65, hTK66, hTK67, hTK68, hTK69, hTK70, hTK71, hTK72, hTK73, hTK74, hTK75, hTK76, hTK77, hTK78, and_self]
theorem TK_L {R : zM} {t : Int} (h : TK R t) : LK R (t + 7) := by
  obtain ⟨hTK0, hTK1, hTK2, hTK3, hTK4, hTK5, hTK6, hTK7, hTK8, hTK9, hTK10, hTK11, hTK12, hTK13, hTK14, hTK15, hTK16, hTK17, hTK18, hTK19, hTK20, hTK21, hTK22, hTK23, hTK24, hTK25, hTK26, hTK27, hTK28, hTK29, hTK30, hTK31, hTK32, hTK33, hTK34, hTK35, hTK36, hTK37, hTK38, hTK39, hTK40, hTK41, hTK42, hTK43, hTK44, hTK45, hTK46, hTK47, hTK48, hTK49, hTK50, hTK51, hTK52, hTK53, hTK54, hTK55, hTK56, hTK57, hTK58, hTK59, hTK60, hTK61, hTK62, hTK63, hTK64, hTK65, hTK66, hTK67, hTK68, hTK69, hTK70, hTK71, hTK72, hTK73, hTK74, hTK75, hTK76, hTK77, hTK78⟩ := h
  apply LK_D
  simp only [tn_1_1, tn_1_2, tn_1_3, tn_1_4, tn_1_5, tn_7_1, tn_9_1, tn_9_2, tn_9_3, tn_9_4, tn_9_5, tn_9_6, tn_9_7, tn_9_8, tn_9_9, tn_9_10, tn_9_11, tn_9_12, tn_9_13, tn_9_14, tn_9_15, hTK0, hTK1, hTK2, hTK3, hTK4, hTK5, hTK6, hTK7, hTK8, hTK9, hTK10, hTK11, hTK12, hTK13, hTK14, hTK15, hTK16, hTK17, hTK18, hTK19, hTK20, hTK21, hTK22, hTK23, hTK24, hTK25, hTK26, hTK27, hTK28, hTK29, hTK30, hTK31, hTK32, hTK33, hTK34, hTK35, hTK36, hTK37, hTK38, hTK39, hTK40, hTK41, hTK42, hTK43, hTK44, hTK45, hTK46, hTK47, hTK48, hTK49, hTK50, hTK51, hTK52, hTK53, hTK54, hTK55, hTK56, hTK57, hTK58, hTK59, hTK60, hTK61, hTK62, hTK63, hTK64, hTK65, hTK66, hTK67, hTK68, hTK69, hTK70, hTK71, hTK72, hTK73, hTK74, hTK75, hTK76, hTK77, hTK78, and_self]
theorem TK_S {R : zM} {t : Int} (h : TK R t) : SK R (t + 9) := by
  obtain ⟨hTK0, hTK1, hTK2, hTK3, hTK4, hTK5, hTK6, hTK7, hTK8, hTK9, hTK10, hTK11, hTK12, hTK13, hTK14, hTK15, hTK16, hTK17, hTK18, hTK19, hTK20, hTK21, hTK22, hTK23, hTK24, hTK25, hTK26, hTK27, hTK28, hTK29, hTK30, hTK31, hTK32, hTK33, hTK34, hTK35, hTK36, hTK37, hTK38, hTK39, hTK40, hTK41, hTK42, hTK43, hTK44, hTK45, hTK46, hTK47, hTK48, hTK49, hTK50, hTK51, hTK52, hTK53, hTK54, hTK55, hTK56, hTK57, hTK58, hTK59, hTK60, hTK61, hTK62, hTK63, hTK64, hTK65, hTK66, hTK67, hTK68, hTK69, hTK70, hTK71, hTK72, hTK73, hTK74, hTK75, hTK76, hTK77, hTK78⟩ := h
  simp only [SK, tn_1_1, tn_1_2, tn_1_3, tn_1_4, tn_1_5, tn_7_1, tn_9_1, tn_9_2, tn_9_3, tn_9_4, tn_9_5, tn_9_6, tn_9_7, tn_9_8, tn_9_9, tn_9_10, tn_9_11, tn_9_12, tn_9_13, tn_9_14, tn_9_15, hTK0, hTK1, hTK2, hTK3, hTK4, hTK5, hTK6, hTK7, hTK8, hTK9, hTK10, hTK11, hTK12, hTK13, hTK14, hTK15, hTK16, hTK17, hTK18, hTK19, hTK20, hTK21, hTK22, hTK23, hTK24, hTK25, hTK26, hTK27, hTK28, hTK29, hTK30, hTK31, hTK32, hTK33, hTK34, hTK35, hTK36, hTK37, hTK38, hTK39, hTK40, hTK41, hTK42, hTK43, hTK44, hTK45, hTK46, hTK47, hTK48, hTK49, hTK50, hTK51, hTK52, hTK53, hTK54, hTK55, hTK56, hTK57, hTK58, hTK59, hTK60, hTK61, hTK62, hTK63, hTK64, hTK65, hTK66, hTK67, hTK68, hTK69, hTK70, hTK71, hTK72, hTK73, hTK74, hTK75, hTK76, hTK77, hTK78, and_self]
/-- whether a plot is a thing: 0 to 2 the uses from 1 on, 3 water, 4 road -/
def zthing (G U : Int → Int) (i q : Int) : Bool := if i < 3 then decide (U q = i + 1) else decide (G q = i - 2)
def TV (m : zM) (o : Int) : Prop := ∀ i q, 0 ≤ i → i < 5 → 0 ≤ q → q < 64 → zbt (m (o + 4) i) q = (decide (q < m o 2) && zthing (m (o + 1)) (m (o + 3)) i q)
def zwish (n w : Int) (G U : Int → Int) (p d i : Int) : Int := zcnt (fun q => decide (1 ≤ zfar w p q ∧ zfar w p q ≤ d) && zthing G U i q) n.toNat
def zadds (n w : Int) (G U L : Int → Int) (y p u k : Int) : Int := if L (7 * k) = 1 ∧ L (7 * k + 2) = u ∧ L (7 * k + 1) ≤ y then L (7 * k + 5) * zwish n w G U p (L (7 * k + 4)) (L (7 * k + 3)) else 0
def zworth (n w ln y : Int) (G U L : Int → Int) (p u : Int) : Int := 10 + zsum (fun k => zadds n w G U L y p u k) ln.toNat
def zuses (n : Int) (U : Int → Int) (u : Int) : Int := zcnt (fun q => decide (U q = u)) n.toNat
def zmay (n w ln y : Int) (G U L : Int → Int) (p u : Int) : Bool := decide (G p = 0 ∧ U p = 0) && zzon ln L u (p % w) (p / w) y && decide ((znum L 3 u y ln.toNat).1 < 0 ∨ zuses n U u < (znum L 3 u y ln.toNat).1)
/-- laws are in order -/
def LW (n : Int) (L : Int → Int) : Prop := (0 ≤ n ∧ n ≤ 12) ∧ (∀ k, 0 ≤ k → k < n → (0 ≤ L (7 * k) ∧ L (7 * k) ≤ 4) ∧ (0 ≤ L (7 * k + 1) ∧ L (7 * k + 1) ≤ 99) ∧ (1 ≤ L (7 * k + 2) ∧ L (7 * k + 2) ≤ 3) ∧ (L (7 * k) = 1 → (0 ≤ L (7 * k + 3) ∧ L (7 * k + 3) < 5) ∧ (1 ≤ L (7 * k + 4) ∧ L (7 * k + 4) ≤ 14) ∧ (-99 ≤ L (7 * k + 5) ∧ L (7 * k + 5) ≤ 99)) ∧ (2 ≤ L (7 * k) → 0 ≤ L (7 * k + 3) ∧ L (7 * k + 3) ≤ 999) ∧ (L (7 * k) = 2 → L (7 * k + 3) ≤ 100)) ∧ (∀ j k, 0 ≤ j → j < k → k < n → 2 ≤ L (7 * k) → ¬ (L (7 * j) = L (7 * k) ∧ L (7 * j + 1) = L (7 * k + 1) ∧ L (7 * j + 2) = L (7 * k + 2)))
theorem zwish_bd (n w : Int) (G U : Int → Int) (p d i : Int) (hn : 0 ≤ n) : 0 ≤ zwish n w G U p d i ∧ zwish n w G U p d i ≤ n := by
  have := zcnt_bd (fun q => decide (1 ≤ zfar w p q ∧ zfar w p q ≤ d) && zthing G U i q) n.toNat
  unfold zwish
  omega
theorem zmul_bd {a b A B : Int} (ha : -A ≤ a ∧ a ≤ A) (hb : 0 ≤ b ∧ b ≤ B) : -(A * B) ≤ a * b ∧ a * b ≤ A * B := by
  have hA : 0 ≤ A := by omega
  have h1 : a * b ≤ A * b := Int.mul_le_mul_of_nonneg_right ha.2 hb.1
  have h2 : A * b ≤ A * B := Int.mul_le_mul_of_nonneg_left hb.2 hA
  have h3 : -A * b ≤ a * b := Int.mul_le_mul_of_nonneg_right ha.1 hb.1
  rw [Int.neg_mul] at h3
  omega
theorem zadds_bd {n w ln y : Int} {G U L : Int → Int} (hn : 0 ≤ n ∧ n ≤ 64) (hL : LW ln L) {p u k : Int} (hk : 0 ≤ k ∧ k < ln) : -6336 ≤ zadds n w G U L y p u k ∧ zadds n w G U L y p u k ≤ 6336 := by
  unfold zadds
  split
  next h =>
    have h1 := ((hL.2.1 k hk.1 hk.2).2.2.2.1 h.1).2.2
    have h2 := zwish_bd n w G U p (L (7 * k + 4)) (L (7 * k + 3)) hn.1
    have := zmul_bd (A := 99) (B := 64) h1 ⟨h2.1, by omega⟩
    omega
  next => omega
theorem zworth_bd {n w ln y : Int} {G U L : Int → Int} (hn : 0 ≤ n ∧ n ≤ 64) (hL : LW ln L) (p u : Int) : -80000 ≤ zworth n w ln y G U L p u ∧ zworth n w ln y G U L p u ≤ 80000 := by
  have h0 := hL.1
  have := zsum_bd (f := fun k => zadds n w G U L y p u k) (n := ln.toNat) (lo := -6336) (hi := 6336) (fun k h1 h2 => zadds_bd hn hL ⟨h1, by omega⟩)
  unfold zworth
  omega
theorem zsum_le {f : Int → Int} {N : Nat} {lo hi : Int} (h : ∀ k : Int, 0 ≤ k → k < N → lo ≤ f k ∧ f k ≤ hi) {k : Nat} (hk : k ≤ N) : lo * k ≤ zsum f k ∧ zsum f k ≤ hi * k := zsum_bd (fun j h1 h2 => h j h1 (by omega))
section TOWN
variable {t : Int} {R m : zM}
theorem z_near {o p d i : Int} (hV : BV m o) (hN : NV m o) (hT : TV m o) (hp : 0 ≤ p ∧ p < m o 2) (hd : 1 ≤ d ∧ d ≤ 14) (hi : 0 ≤ i ∧ i < 5) : zcnt (fun q => zbt (m (o + 5) (p * 15 + d)) q && zbt (m (o + 4) i) q) 64 = zwish (m o 2) (m o 0) (m (o + 1)) (m (o + 3)) p d i := by
  have h64 := hV.2.2.2.2.2.1
  have h1 := hV.2.2.2.2.2.2.1
  unfold zwish
  have e : ∀ q, 0 ≤ q → q < 64 → (zbt (m (o + 5) (p * 15 + d)) q && zbt (m (o + 4) i) q) = (decide (q < m o 2) && (decide (1 ≤ zfar (m o 0) p q ∧ zfar (m o 0) p q ≤ d) && zthing (m (o + 1)) (m (o + 3)) i q)) := by
    intro q h1 h2
    rw [hN p hp.1 hp.2 d q hd.1 hd.2 h1 h2, hT i q hi.1 hi.2 h1 h2]
    by_cases hq : q < m o 2
    · simp [hq]
    · simp [hq]
  have e2 := zcnt_le (p := fun q => zbt (m (o + 5) (p * 15 + d)) q && zbt (m (o + 4) i) q) (a := (m o 2).toNat) (b := 64) (by omega) (fun q h1 h2 => by
    rw [e q (by omega) (by omega)]
    have : ¬ q < m o 2 := by omega
    simp [this])
  rw [e2]
  apply zcnt_congr
  intro q h1 h2
  rw [e q h1 (by omega)]
  have : q < m o 2 := by omega
  simp [this]
theorem z_countu {o u : Int} (hV : BV m o) (hT : TV m o) (hu : 1 ≤ u ∧ u ≤ 3) : zcnt (zbt (m (o + 4) (u - 1))) 64 = zuses (m o 2) (m (o + 3)) u := by
  have h64 := hV.2.2.2.2.2.1
  have h1 := hV.2.2.2.2.2.2.1
  have e : ∀ q, 0 ≤ q → q < 64 → zbt (m (o + 4) (u - 1)) q = (decide (q < m o 2) && decide (m (o + 3) q = u)) := by
    intro q h1 h2
    rw [hT (u - 1) q (by omega) (by omega) h1 h2]
    unfold zthing
    rw [if_pos (by omega), show u - 1 + 1 = u by omega]
  have e2 := zcnt_le (p := zbt (m (o + 4) (u - 1))) (a := (m o 2).toNat) (b := 64) (by omega) (fun q h1 h2 => by
    rw [e q (by omega) (by omega)]
    have : ¬ q < m o 2 := by omega
    simp [this])
  unfold zuses
  rw [e2]
  apply zcnt_congr
  intro q h1 h2
  rw [e q h1 (by omega)]
  have : q < m o 2 := by omega
  simp [this]
/-- a town in order -/
def TG (m : zM) (t : Int) : Prop := BV m (t + 1) ∧ NV m (t + 1) ∧ TV m (t + 1) ∧ LW (m (t + 7) 0) (m (t + 8))
theorem tz_tadds (hB : TK R t) (hG : TG m t) {p k : Int} (u : Int) (hp : 0 ≤ p ∧ p < m (t + 1) 2) (hk : 0 ≤ k ∧ k < m (t + 7) 0) : ev 119 0 [(2, t), (0, p), (0, u), (0, k), (9, 0), (9, 0)] [] R m = some ((0, zadds (m (t + 1) 2) (m (t + 1) 0) (m (t + 2)) (m (t + 4)) (m (t + 8)) (m t 3) p u k), R, m) := by
  obtain ⟨hV, hN, hT, hL⟩ := hG
  have h0 := hL.1
  have hl := hL.2.1 k hk.1 hk.2
  have A := fun i h3 h4 => tz_at (m := m) (k := k) (i := i) (TK_L hB) hL.1.2 hk.1 hk.2 h3 h4
  have Cn := fun d i hd hi => tz_countNear (m := m) (p := p) (d := d) (t := i) (TK_B hB) hV hp hd hi
  have Zn := fun d i hd hi => z_near (m := m) (d := d) (i := i) hV hN hT hp hd hi
  have hbd := zadds_bd (n := m (t + 1) 2) (w := m (t + 1) 0) (y := m t 3) (G := m (t + 2)) (U := m (t + 4)) (p := p) (u := u) ⟨by have := hV.2.2.2.2.2.2.1; omega, hV.2.2.2.2.2.1⟩ hL hk
  obtain ⟨hTK0, hTK1, hTK2, hTK3, hTK4, hTK5, hTK6, hTK7, hTK8, hTK9, hTK10, hTK11, hTK12, hTK13, hTK14, hTK15, hTK16, hTK17, hTK18, hTK19, hTK20, hTK21, hTK22, hTK23, hTK24, hTK25, hTK26, hTK27, hTK28, hTK29, hTK30, hTK31, hTK32, hTK33, hTK34, hTK35, hTK36, hTK37, hTK38, hTK39, hTK40, hTK41, hTK42, hTK43, hTK44, hTK45, hTK46, hTK47, hTK48, hTK49, hTK50, hTK51, hTK52, hTK53, hTK54, hTK55, hTK56, hTK57, hTK58, hTK59, hTK60, hTK61, hTK62, hTK63, hTK64, hTK65, hTK66, hTK67, hTK68, hTK69, hTK70, hTK71, hTK72, hTK73, hTK74, hTK75, hTK76, hTK77, hTK78⟩ := hB
  simp only [tn_1_1, tn_1_2, tn_1_3, tn_1_4, tn_1_5, tn_7_1, tn_9_1, tn_9_2, tn_9_3, tn_9_4, tn_9_5, tn_9_6, tn_9_7, tn_9_8, tn_9_9, tn_9_10, tn_9_11, tn_9_12, tn_9_13, tn_9_14, tn_9_15] at A Cn Zn
  simp (disch := omega) only [s119_0, s119_1, s119_4, s119_5, s119_6, s119_9, s119_10, s119_13, s119_14, s119_17, s119_18, s119_19, s119_22, s119_23, s119_26, s119_27, s119_30, s119_31, s119_33, s119_35, s119_38, s119_39, s119_42, s119_43, s119_44, s119_47, s119_48, s119_51, s119_54, s119_55, s119_56, s119_57, s119_60, s119_61, s119_62, s119_65, s119_66, s119_67, s119_70, s119_71, s119_74, s119_75, s119_76, s119_79, s119_82, s119_84, s119_85, s119_88, s119_89, s119_90, s119_93, s119_95, s119_96, zps_0, zps_1, zps_2, zps_3, zps_9, Option.bind_some, Option.bind_none, Int.reduceEq, Int.reduceNe, Int.reduceLT, Int.reduceLE, Int.reduceNeg, Int.reduceAdd, Int.reduceSub, Int.reduceMul, reduceIte, if_true, if_false, true_and, and_true, false_and, and_false, or_true, true_or, or_false, false_or, not_true_eq_false, not_false_eq_true, ite_not, z_b0, z_b1, z_b01, hTK0, hTK1, hTK2, hTK3, hTK4, hTK5, hTK6, hTK7, hTK8, hTK9, hTK10, hTK11, hTK12, hTK13, hTK14, hTK15, hTK16, hTK17, hTK18, hTK19, hTK20, hTK21, hTK22, hTK23, hTK24, hTK25, hTK26, hTK27, hTK28, hTK29, hTK30, hTK31, hTK32, hTK33, hTK34, hTK35, hTK36, hTK37, hTK38, hTK39, hTK40, hTK41, hTK42, hTK43, hTK44, hTK45, hTK46, hTK47, hTK48, hTK49, hTK50, hTK51, hTK52, hTK53, hTK54, hTK55, hTK56, hTK57, hTK58, hTK59, hTK60, hTK61, hTK62, hTK63, hTK64, hTK65, hTK66, hTK67, hTK68, hTK69, hTK70, hTK71, hTK72, hTK73, hTK74, hTK75, hTK76, hTK77, hTK78, A, Int.add_zero]
  unfold zadds at hbd ⊢
  by_cases c1 : m (t + 8) (7 * k) = 1
  · have c1v := hl.2.2.2.1 c1
    rw [if_pos c1]
    by_cases c2 : m (t + 8) (7 * k + 2) = u
    · rw [if_pos c2]
      by_cases c3 : m (t + 8) (7 * k + 1) ≤ m t 3
      · rw [if_pos ⟨c1, c2, c3⟩] at hbd
        rw [if_pos c3, if_pos ⟨c1, c2, c3⟩, Cn _ _ c1v.2.1 c1v.1]
        simp (disch := omega) only [s119_0, s119_1, s119_4, s119_5, s119_6, s119_9, s119_10, s119_13, s119_14, s119_17, s119_18, s119_19, s119_22, s119_23, s119_26, s119_27, s119_30, s119_31, s119_33, s119_35, s119_38, s119_39, s119_42, s119_43, s119_44, s119_47, s119_48, s119_51, s119_54, s119_55, s119_56, s119_57, s119_60, s119_61, s119_62, s119_65, s119_66, s119_67, s119_70, s119_71, s119_74, s119_75, s119_76, s119_79, s119_82, s119_84, s119_85, s119_88, s119_89, s119_90, s119_93, s119_95, s119_96, zps_0, zps_1, zps_2, zps_3, zps_9, Option.bind_some, Option.bind_none, Int.reduceEq, Int.reduceNe, Int.reduceLT, Int.reduceLE, Int.reduceNeg, Int.reduceAdd, Int.reduceSub, Int.reduceMul, reduceIte, if_true, if_false, true_and, and_true, false_and, and_false, or_true, true_or, or_false, false_or, not_true_eq_false, not_false_eq_true, ite_not, z_b0, z_b1, z_b01, hTK0, hTK1, hTK2, hTK3, hTK4, hTK5, hTK6, hTK7, hTK8, hTK9, hTK10, hTK11, hTK12, hTK13, hTK14, hTK15, hTK16, hTK17, hTK18, hTK19, hTK20, hTK21, hTK22, hTK23, hTK24, hTK25, hTK26, hTK27, hTK28, hTK29, hTK30, hTK31, hTK32, hTK33, hTK34, hTK35, hTK36, hTK37, hTK38, hTK39, hTK40, hTK41, hTK42, hTK43, hTK44, hTK45, hTK46, hTK47, hTK48, hTK49, hTK50, hTK51, hTK52, hTK53, hTK54, hTK55, hTK56, hTK57, hTK58, hTK59, hTK60, hTK61, hTK62, hTK63, hTK64, hTK65, hTK66, hTK67, hTK68, hTK69, hTK70, hTK71, hTK72, hTK73, hTK74, hTK75, hTK76, hTK77, hTK78, A]
        rw [Zn _ _ c1v.2.1 c1v.1, zw_i (by omega) (by omega)]
      · rw [if_neg c3, if_neg (fun z => c3 z.2.2)]
    · rw [if_neg c2, if_neg (fun z => c2 z.2.1)]
  · rw [if_neg c1, if_neg (fun z => c1 z.1)]
theorem tz_tworth (hB : TK R t) (hG : TG m t) {p : Int} (u : Int) (hp : 0 ≤ p ∧ p < m (t + 1) 2) : ev 118 0 [(2, t), (0, p), (0, u), (9, 0), (9, 0)] [] R m = some ((0, zworth (m (t + 1) 2) (m (t + 1) 0) (m (t + 7) 0) (m t 3) (m (t + 2)) (m (t + 4)) (m (t + 8)) p u), R, m) := by
  have A := fun k hk => tz_tadds (m := m) (k := k) hB hG u hp hk
  obtain ⟨hV, hN, hT, hL⟩ := hG
  have h0 := hL.1
  have hn : 0 ≤ m (t + 1) 2 ∧ m (t + 1) 2 ≤ 64 := ⟨by have := hV.2.2.2.2.2.2.1; omega, hV.2.2.2.2.2.1⟩
  have bd := fun k hk => zadds_bd (w := m (t + 1) 0) (y := m t 3) (G := m (t + 2)) (U := m (t + 4)) (p := p) (u := u) (k := k) hn hL hk
  obtain ⟨hTK0, hTK1, hTK2, hTK3, hTK4, hTK5, hTK6, hTK7, hTK8, hTK9, hTK10, hTK11, hTK12, hTK13, hTK14, hTK15, hTK16, hTK17, hTK18, hTK19, hTK20, hTK21, hTK22, hTK23, hTK24, hTK25, hTK26, hTK27, hTK28, hTK29, hTK30, hTK31, hTK32, hTK33, hTK34, hTK35, hTK36, hTK37, hTK38, hTK39, hTK40, hTK41, hTK42, hTK43, hTK44, hTK45, hTK46, hTK47, hTK48, hTK49, hTK50, hTK51, hTK52, hTK53, hTK54, hTK55, hTK56, hTK57, hTK58, hTK59, hTK60, hTK61, hTK62, hTK63, hTK64, hTK65, hTK66, hTK67, hTK68, hTK69, hTK70, hTK71, hTK72, hTK73, hTK74, hTK75, hTK76, hTK77, hTK78⟩ := hB
  simp only [s118_0, s118_2, s118_3, s118_4, s118_8, s118_9, s118_12, s118_15, s118_18, s118_19, s118_20, s118_21, s118_22, s118_24, s118_27, s118_28, s118_29, s118_32, s118_35, s118_36, zps_0, zps_1, zps_2, zps_3, zps_9, Option.bind_some, Option.bind_none, Int.reduceEq, Int.reduceNe, Int.reduceLT, Int.reduceLE, Int.reduceNeg, Int.reduceAdd, Int.reduceSub, Int.reduceMul, reduceIte, if_true, if_false, true_and, and_true, false_and, and_false, or_true, true_or, or_false, false_or, not_true_eq_false, not_false_eq_true, ite_not, z_b0, z_b1, z_b01, hTK0, hTK1, hTK2, hTK3, hTK4, hTK5, hTK6, hTK7, hTK8, hTK9, hTK10, hTK11, hTK12, hTK13, hTK14, hTK15, hTK16, hTK17, hTK18, hTK19, hTK20, hTK21, hTK22, hTK23, hTK24, hTK25, hTK26, hTK27, hTK28, hTK29, hTK30, hTK31, hTK32, hTK33, hTK34, hTK35, hTK36, hTK37, hTK38, hTK39, hTK40, hTK41, hTK42, hTK43, hTK44, hTK45, hTK46, hTK47, hTK48, hTK49, hTK50, hTK51, hTK52, hTK53, hTK54, hTK55, hTK56, hTK57, hTK58, hTK59, hTK60, hTK61, hTK62, hTK63, hTK64, hTK65, hTK66, hTK67, hTK68, hTK69, hTK70, hTK71, hTK72, hTK73, hTK74, hTK75, hTK76, hTK77, hTK78]
  unfold zworth
  generalize hF : (fun k => zadds (m (t + 1) 2) (m (t + 1) 0) (m (t + 2)) (m (t + 4)) (m (t + 8)) (m t 3) p u k) = F at *
  have hF2 : ∀ k, zadds (m (t + 1) 2) (m (t + 1) 0) (m (t + 2)) (m (t + 4)) (m (t + 8)) (m t 3) p u k = F k := fun k => by rw [← hF]
  simp only [hF2] at A bd
  have bs : ∀ k : Int, 0 ≤ k → k ≤ m (t + 7) 0 → -76032 ≤ zsum F k.toNat ∧ zsum F k.toNat ≤ 76032 := by
    intro k h1 h2
    have := zsum_le (f := F) (N := (m (t + 7) 0).toNat) (lo := -6336) (hi := 6336) (fun j h3 h4 => bd j ⟨h3, by omega⟩) (k := k.toNat) (by omega)
    omega
  refine zloop (fun r => r = some ((0, 10 + zsum F (m (t + 7) 0).toNat), R, m)) (fun k (s : Int) => ev 118 6 [(2, t), (0, p), (0, u), (0, s), (0, k)] [] R m) (m (t + 7) 0) (fun k s => 0 ≤ k ∧ s = 10 + zsum F k.toNat) ?_ ?_ 0 10 (by omega) ⟨by omega, rfl⟩
  · intro k s hk ⟨h1, hI⟩ ih
    rw [s118_6]
    simp only [s118_0, s118_2, s118_3, s118_4, s118_8, s118_9, s118_12, s118_15, s118_18, s118_19, s118_20, s118_21, s118_22, s118_24, s118_27, s118_28, s118_29, s118_32, s118_35, s118_36, zps_0, zps_1, zps_2, zps_3, zps_9, Option.bind_some, Option.bind_none, Int.reduceEq, Int.reduceNe, Int.reduceLT, Int.reduceLE, Int.reduceNeg, Int.reduceAdd, Int.reduceSub, Int.reduceMul, reduceIte, if_true, if_false, true_and, and_true, false_and, and_false, or_true, true_or, or_false, false_or, not_true_eq_false, not_false_eq_true, ite_not, z_b0, z_b1, z_b01, hTK0, hTK1, hTK2, hTK3, hTK4, hTK5, hTK6, hTK7, hTK8, hTK9, hTK10, hTK11, hTK12, hTK13, hTK14, hTK15, hTK16, hTK17, hTK18, hTK19, hTK20, hTK21, hTK22, hTK23, hTK24, hTK25, hTK26, hTK27, hTK28, hTK29, hTK30, hTK31, hTK32, hTK33, hTK34, hTK35, hTK36, hTK37, hTK38, hTK39, hTK40, hTK41, hTK42, hTK43, hTK44, hTK45, hTK46, hTK47, hTK48, hTK49, hTK50, hTK51, hTK52, hTK53, hTK54, hTK55, hTK56, hTK57, hTK58, hTK59, hTK60, hTK61, hTK62, hTK63, hTK64, hTK65, hTK66, hTK67, hTK68, hTK69, hTK70, hTK71, hTK72, hTK73, hTK74, hTK75, hTK76, hTK77, hTK78, if_neg (show ¬ m (t + 7) 0 ≤ k by omega), A k ⟨h1, hk⟩]
    have b1 := bd k ⟨h1, hk⟩
    have b2 := bs k h1 (by omega)
    rw [zw_i (x := k + 1) (by omega) (by omega), zw_i (x := s + F k) (by omega) (by omega)]
    exact ih _ ⟨by omega, by rw [zsum_step _ h1]; omega⟩
  · intro s ⟨h1, hI⟩
    rw [s118_6]
    simp only [s118_0, s118_2, s118_3, s118_4, s118_8, s118_9, s118_12, s118_15, s118_18, s118_19, s118_20, s118_21, s118_22, s118_24, s118_27, s118_28, s118_29, s118_32, s118_35, s118_36, zps_0, zps_1, zps_2, zps_3, zps_9, Option.bind_some, Option.bind_none, Int.reduceEq, Int.reduceNe, Int.reduceLT, Int.reduceLE, Int.reduceNeg, Int.reduceAdd, Int.reduceSub, Int.reduceMul, reduceIte, if_true, if_false, true_and, and_true, false_and, and_false, or_true, true_or, or_false, false_or, not_true_eq_false, not_false_eq_true, ite_not, z_b0, z_b1, z_b01, hTK0, hTK1, hTK2, hTK3, hTK4, hTK5, hTK6, hTK7, hTK8, hTK9, hTK10, hTK11, hTK12, hTK13, hTK14, hTK15, hTK16, hTK17, hTK18, hTK19, hTK20, hTK21, hTK22, hTK23, hTK24, hTK25, hTK26, hTK27, hTK28, hTK29, hTK30, hTK31, hTK32, hTK33, hTK34, hTK35, hTK36, hTK37, hTK38, hTK39, hTK40, hTK41, hTK42, hTK43, hTK44, hTK45, hTK46, hTK47, hTK48, hTK49, hTK50, hTK51, hTK52, hTK53, hTK54, hTK55, hTK56, hTK57, hTK58, hTK59, hTK60, hTK61, hTK62, hTK63, hTK64, hTK65, hTK66, hTK67, hTK68, hTK69, hTK70, hTK71, hTK72, hTK73, hTK74, hTK75, hTK76, hTK77, hTK78, if_pos (show m (t + 7) 0 ≤ m (t + 7) 0 by omega), hI]
theorem tz_tmay (hB : TK R t) (hG : TG m t) {p u : Int} (hu : 1 ≤ u ∧ u ≤ 3) (hp : 0 ≤ p ∧ p < m (t + 1) 2) : ev 120 0 [(2, t), (0, p), (0, u), (9, 0)] [] R m = some ((0, if zmay (m (t + 1) 2) (m (t + 1) 0) (m (t + 7) 0) (m t 3) (m (t + 2)) (m (t + 4)) (m (t + 8)) p u = true then 1 else 0), R, m) := by
  obtain ⟨hV, hN, hT, hL⟩ := hG
  have h0 := hL.1
  have h64 := hV.2.2.2.2.2.1
  have Fr := tz_isFree (m := m) (TK_B hB) hV p
  have X := tz_xOf (m := m) (p := p) (TK_B hB) hV ⟨hp.1, by omega⟩
  have Y := tz_yOf (m := m) (p := p) (TK_B hB) hV ⟨hp.1, by omega⟩
  have Z := fun x y yr => tz_lzones (m := m) (TK_L hB) h0 u x y yr
  have Nm := fun y => tz_lnumber (m := m) (TK_L hB) h0 3 u y
  have Cu := tz_countUse (m := m) (TK_B hB) u
  have Zu := z_countu (m := m) hV hT hu
  obtain ⟨hTK0, hTK1, hTK2, hTK3, hTK4, hTK5, hTK6, hTK7, hTK8, hTK9, hTK10, hTK11, hTK12, hTK13, hTK14, hTK15, hTK16, hTK17, hTK18, hTK19, hTK20, hTK21, hTK22, hTK23, hTK24, hTK25, hTK26, hTK27, hTK28, hTK29, hTK30, hTK31, hTK32, hTK33, hTK34, hTK35, hTK36, hTK37, hTK38, hTK39, hTK40, hTK41, hTK42, hTK43, hTK44, hTK45, hTK46, hTK47, hTK48, hTK49, hTK50, hTK51, hTK52, hTK53, hTK54, hTK55, hTK56, hTK57, hTK58, hTK59, hTK60, hTK61, hTK62, hTK63, hTK64, hTK65, hTK66, hTK67, hTK68, hTK69, hTK70, hTK71, hTK72, hTK73, hTK74, hTK75, hTK76, hTK77, hTK78⟩ := hB
  simp only [tn_1_1, tn_1_2, tn_1_3, tn_1_4, tn_1_5, tn_7_1, tn_9_1, tn_9_2, tn_9_3, tn_9_4, tn_9_5, tn_9_6, tn_9_7, tn_9_8, tn_9_9, tn_9_10, tn_9_11, tn_9_12, tn_9_13, tn_9_14, tn_9_15] at Fr X Y Z Nm Cu Zu
  simp only [s120_0, s120_1, s120_4, s120_5, s120_8, s120_11, s120_12, s120_15, s120_16, s120_17, s120_20, s120_21, s120_24, s120_25, s120_28, s120_29, s120_32, s120_33, s120_36, s120_39, s120_42, s120_43, s120_44, s120_45, s120_48, s120_49, s120_50, s120_51, s120_54, s120_57, s120_58, s120_59, s120_62, s120_63, s120_66, s120_67, s120_70, s120_71, s120_74, s120_75, s120_78, s120_79, zps_0, zps_1, zps_2, zps_3, zps_9, Option.bind_some, Option.bind_none, Int.reduceEq, Int.reduceNe, Int.reduceLT, Int.reduceLE, Int.reduceNeg, Int.reduceAdd, Int.reduceSub, Int.reduceMul, reduceIte, if_true, if_false, true_and, and_true, false_and, and_false, or_true, true_or, or_false, false_or, not_true_eq_false, not_false_eq_true, ite_not, z_b0, z_b1, z_b01, hTK0, hTK1, hTK2, hTK3, hTK4, hTK5, hTK6, hTK7, hTK8, hTK9, hTK10, hTK11, hTK12, hTK13, hTK14, hTK15, hTK16, hTK17, hTK18, hTK19, hTK20, hTK21, hTK22, hTK23, hTK24, hTK25, hTK26, hTK27, hTK28, hTK29, hTK30, hTK31, hTK32, hTK33, hTK34, hTK35, hTK36, hTK37, hTK38, hTK39, hTK40, hTK41, hTK42, hTK43, hTK44, hTK45, hTK46, hTK47, hTK48, hTK49, hTK50, hTK51, hTK52, hTK53, hTK54, hTK55, hTK56, hTK57, hTK58, hTK59, hTK60, hTK61, hTK62, hTK63, hTK64, hTK65, hTK66, hTK67, hTK68, hTK69, hTK70, hTK71, hTK72, hTK73, hTK74, hTK75, hTK76, hTK77, hTK78, Fr, X, Y, Z, hp]
  unfold zmay
  by_cases c1 : m (t + 2) p = 0 ∧ m (t + 4) p = 0
  · rw [if_pos c1]
    by_cases c2 : zzon (m (t + 7) 0) (m (t + 8)) u (p % m (t + 1) 0) (p / m (t + 1) 0) (m t 3) = true
    · rw [if_pos c2]
      simp only [s120_0, s120_1, s120_4, s120_5, s120_8, s120_11, s120_12, s120_15, s120_16, s120_17, s120_20, s120_21, s120_24, s120_25, s120_28, s120_29, s120_32, s120_33, s120_36, s120_39, s120_42, s120_43, s120_44, s120_45, s120_48, s120_49, s120_50, s120_51, s120_54, s120_57, s120_58, s120_59, s120_62, s120_63, s120_66, s120_67, s120_70, s120_71, s120_74, s120_75, s120_78, s120_79, zps_0, zps_1, zps_2, zps_3, zps_9, Option.bind_some, Option.bind_none, Int.reduceEq, Int.reduceNe, Int.reduceLT, Int.reduceLE, Int.reduceNeg, Int.reduceAdd, Int.reduceSub, Int.reduceMul, reduceIte, if_true, if_false, true_and, and_true, false_and, and_false, or_true, true_or, or_false, false_or, not_true_eq_false, not_false_eq_true, ite_not, z_b0, z_b1, z_b01, hTK0, hTK1, hTK2, hTK3, hTK4, hTK5, hTK6, hTK7, hTK8, hTK9, hTK10, hTK11, hTK12, hTK13, hTK14, hTK15, hTK16, hTK17, hTK18, hTK19, hTK20, hTK21, hTK22, hTK23, hTK24, hTK25, hTK26, hTK27, hTK28, hTK29, hTK30, hTK31, hTK32, hTK33, hTK34, hTK35, hTK36, hTK37, hTK38, hTK39, hTK40, hTK41, hTK42, hTK43, hTK44, hTK45, hTK46, hTK47, hTK48, hTK49, hTK50, hTK51, hTK52, hTK53, hTK54, hTK55, hTK56, hTK57, hTK58, hTK59, hTK60, hTK61, hTK62, hTK63, hTK64, hTK65, hTK66, hTK67, hTK68, hTK69, hTK70, hTK71, hTK72, hTK73, hTK74, hTK75, hTK76, hTK77, hTK78, Nm, Cu, hu, Zu, c1, c2, decide_true, Bool.true_and]
      simp only [decide_eq_true_eq]
      (repeat' split) <;> first | rfl | (exfalso; omega)
    · rw [if_neg c2]
      rw [Bool.not_eq_true] at c2
      simp [c2]
  · rw [if_neg c1]
    simp [c1]
end TOWN
