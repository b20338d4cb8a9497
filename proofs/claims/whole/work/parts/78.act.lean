/-! an act done again keeps the relation -/
theorem zlo_b {lo j n : Int} (h0 : 0 ≤ j) (h1 : j < n - if 0 ≤ lo ∧ lo < n then 1 else 0) : 0 ≤ zlo lo j ∧ zlo lo j < n := by
  unfold zlo
  split at h1 <;> split <;> omega
theorem zlo_m {lo j k : Int} (h : j < k) : zlo lo j < zlo lo k := by
  unfold zlo
  split <;> split <;> omega
theorem LW_take {n lo : Int} {L f : Int → Int} (h : LW n L) (hf : ∀ j i, 0 ≤ j → j < (n - if 0 ≤ lo ∧ lo < n then 1 else 0) → 0 ≤ i → i < 7 → f (7 * j + i) = L (7 * zlo lo j + i)) : LW (n - if 0 ≤ lo ∧ lo < n then 1 else 0) f := by
  obtain ⟨h0, h1, h2⟩ := h
  have f0 : ∀ j, 0 ≤ j → j < (n - if 0 ≤ lo ∧ lo < n then 1 else 0) → f (7 * j) = L (7 * zlo lo j) := by
    intro j j0 j1
    have := hf j 0 j0 j1 (by omega) (by omega)
    rw [Int.add_zero, Int.add_zero] at this
    exact this
  refine ⟨by split <;> omega, fun k k0 k1 => ?_, fun j k j0 jk k1 => ?_⟩
  · have b := zlo_b k0 k1
    have := h1 _ b.1 b.2
    rw [f0 k k0 k1, hf k 1 k0 k1 (by omega) (by omega), hf k 2 k0 k1 (by omega) (by omega), hf k 3 k0 k1 (by omega) (by omega), hf k 4 k0 k1 (by omega) (by omega), hf k 5 k0 k1 (by omega) (by omega)]
    exact this
  · have b := zlo_b j0 (Int.lt_trans jk k1)
    have b2 := zlo_b (lo := lo) (n := n) (Int.le_trans j0 (Int.le_of_lt jk)) k1
    have := h2 _ _ b.1 (zlo_m (lo := lo) jk) b2.2
    rw [f0 k (by omega) k1, f0 j j0 (by omega), hf k 1 (by omega) k1 (by omega) (by omega), hf k 2 (by omega) k1 (by omega) (by omega), hf j 1 j0 (by omega) (by omega) (by omega), hf j 2 j0 (by omega) (by omega) (by omega)]
    exact this
theorem RL_take {n lo : Int} {L L' f f' : Int → Int} (h : RL n L L') (hf : ∀ j i, 0 ≤ j → j < (n - if 0 ≤ lo ∧ lo < n then 1 else 0) → 0 ≤ i → i < 7 → f (7 * j + i) = L (7 * zlo lo j + i)) (hf' : ∀ j i, 0 ≤ j → j < (n - if 0 ≤ lo ∧ lo < n then 1 else 0) → 0 ≤ i → i < 7 → f' (7 * j + i) = L' (7 * zlo lo j + i)) : RL (n - if 0 ≤ lo ∧ lo < n then 1 else 0) f f' := by
  intro k i k0 k1 i0 i1
  have b := zlo_b k0 k1
  have := h _ i b.1 b.2 i0 i1
  have f0 := hf k 0 k0 k1 (by omega) (by omega)
  rw [Int.add_zero, Int.add_zero] at f0
  rw [hf' k i k0 k1 i0 i1, hf k i k0 k1 i0 i1, f0]
  exact this
/-- what holds of an act that is kept, in class and model -/
def AOk (R m w : zM) (a : Int) : Prop := (0 ≤ w 114 a ∧ w 114 a ≤ 4) ∧ m 59 a = w 114 a ∧ m 60 a = w 115 a ∧ (w 114 a ≤ 3 → m 61 (4 * a) = w 116 (4 * a) ∧ m 61 (4 * a + 1) = w 116 (4 * a + 1)) ∧ (w 114 a ≤ 2 → 0 ≤ w 116 (4 * a) ∧ w 116 (4 * a) < mN w) ∧ (w 114 a = 0 → 0 ≤ w 116 (4 * a + 1) ∧ w 116 (4 * a + 1) ≤ 2) ∧ (w 114 a = 1 → 0 ≤ w 116 (4 * a + 1) ∧ w 116 (4 * a + 1) ≤ 9) ∧ (w 114 a = 2 → 0 ≤ w 116 (4 * a + 1) ∧ w 116 (4 * a + 1) ≤ 3) ∧ (w 114 a = 3 → m 61 (4 * a + 2) = w 116 (4 * a + 2) ∧ m 61 (4 * a + 3) = w 116 (4 * a + 3) ∧ (1 ≤ w 116 (4 * a) ∧ w 116 (4 * a) ≤ 3) ∧ (1 ≤ w 116 (4 * a + 1) ∧ w 116 (4 * a + 1) ≤ 999) ∧ (-9 ≤ w 116 (4 * a + 2) ∧ w 116 (4 * a + 2) ≤ 9)) ∧ (w 114 a = 4 → 153 ≤ R 62 a ∧ LK R (R 62 a) ∧ m (R 62 a) 0 = w 116 (4 * a) ∧ LW (m (R 62 a) 0) (m (R 62 a + 1)) ∧ RL (m (R 62 a) 0) (m (R 62 a + 1)) (fun i => w 117 (84 * a + i)))
section ACT
variable {R m w : zM} {t : Int}
/-- what an act done again leaves of the seekers' rows -/
def ASk (w g g' : zM) (a : Int) : Prop := (w 114 a = 3 → g' 106 = zrw (g 106) (g 100 10) (w 116 (4 * a)) ∧ g' 107 = zrw (g 107) (g 100 10) (w 116 (4 * a + 1)) ∧ g' 108 = zrw (g 108) (g 100 10) (w 116 (4 * a + 2)) ∧ g' 109 = zrw (g 109) (g 100 10) (w 116 (4 * a + 3)) ∧ g' 100 10 = g 100 10 + 1) ∧ (w 114 a ≠ 3 → g' 106 = g 106 ∧ g' 107 = g 107 ∧ g' 108 = g 108 ∧ g' 109 = g 109 ∧ g' 100 10 = g 100 10)
def ARes (R m' : zM) (w g : zM) (t a lo : Int) : Prop := ∃ g' : zM, ev 281 0 [(2, 100), (0, a), (0, lo), (9, 0), (9, 0), (9, 0), (9, 0)] [] R g = some ((9, 0), R, g') ∧ TR m' g' t ∧ (∀ b, b < 100 ∨ 113 < b → g' b = g b) ∧ (∀ k, k ≠ 8 → k ≠ 10 → g' 100 k = g 100 k) ∧ ASk w g g' a
theorem zsadd_rows (m : zM) (o u pu ta y : Int) : zsadd m o u pu ta y o = zrw (m o) 0 (m o 0 + 1) ∧ zsadd m o u pu ta y (o + 1) = zrw (m (o + 1)) (m o 0) u ∧ zsadd m o u pu ta y (o + 2) = zrw (m (o + 2)) (m o 0) pu ∧ zsadd m o u pu ta y (o + 3) = zrw (m (o + 3)) (m o 0) ta ∧ zsadd m o u pu ta y (o + 4) = zrw (m (o + 4)) (m o 0) y ∧ zsadd m o u pu ta y (o + 5) = zrw (m (o + 5)) (m o 0) (-4) ∧ zsadd m o u pu ta y (o + 6) = zrw (m (o + 6)) (m o 0) 0 ∧ zsadd m o u pu ta y (o + 7) = zrw (m (o + 7)) (m o 0) 0 ∧ zsadd m o u pu ta y (o + 8) = zrw (m (o + 8)) (m o 0) (-4) ∧ ∀ a, a < o ∨ o + 8 < a → zsadd m o u pu ta y a = m a := by
  unfold zsadd
  refine ⟨?_, ?_, ?_, ?_, ?_, ?_, ?_, ?_, ?_, ?_⟩
  case refine_10 => intro a ha; simp (disch := omega) only [zpr_ne]
  all_goals simp (disch := omega) only [zpr_ne, zpr_at]
theorem zmadd_rows (w : zM) (c u pu ta y : Int) : zmadd w c u pu ta y 100 = zrw (w 100) 10 (c + 1) ∧ zmadd w c u pu ta y 106 = zrw (w 106) c u ∧ zmadd w c u pu ta y 107 = zrw (w 107) c pu ∧ zmadd w c u pu ta y 108 = zrw (w 108) c ta ∧ zmadd w c u pu ta y 109 = zrw (w 109) c y ∧ zmadd w c u pu ta y 110 = zrw (w 110) c (-4) ∧ zmadd w c u pu ta y 111 = zrw (w 111) c 0 ∧ zmadd w c u pu ta y 112 = zrw (w 112) c 0 ∧ zmadd w c u pu ta y 113 = zrw (w 113) c (-4) ∧ ∀ a, a ≠ 100 → a < 106 ∨ 113 < a → zmadd w c u pu ta y a = w a := by
  unfold zmadd
  refine ⟨?_, ?_, ?_, ?_, ?_, ?_, ?_, ?_, ?_, ?_⟩
  case refine_10 => intro a ha hb; simp (disch := omega) only [zpr_ne]
  all_goals simp (disch := omega) only [zpr_ne, zpr_at]
theorem TR_addz (h : TR m w t) {u pu ta y : Int} (h20 : w 100 10 < 20) (hu : 1 ≤ u ∧ u ≤ 3) (hpu : 1 ≤ pu ∧ pu ≤ 999) (hta : -9 ≤ ta ∧ ta ≤ 9) : TR (zsadd m (t + 9) u pu ta y) (zmadd w (w 100 10) u pu ta y) t := by
  obtain ⟨a0, a1, a2, a3, a4, a5, a6, a7, a8, aa⟩ := zsadd_rows m (t + 9) u pu ta y
  obtain ⟨b0, b1, b2, b3, b4, b5, b6, b7, b8, bb⟩ := zmadd_rows w (w 100 10) u pu ta y
  have e := h.2.2.1.2.1
  rw [e] at a0 a1 a2 a3 a4 a5 a6 a7 a8
  simp only [tn_1_1, tn_1_2, tn_1_3, tn_1_4, tn_1_5, tn_7_1, tn_9_1, tn_9_2, tn_9_3, tn_9_4, tn_9_5, tn_9_6, tn_9_7, tn_9_8, tn_9_9, tn_9_10, tn_9_11, tn_9_12, tn_9_13, tn_9_14, tn_9_15] at a0 a1 a2 a3 a4 a5 a6 a7 a8 aa ⊢
  refine TR_add h rfl h20 hu hpu hta (fun a q0 q1 => aa a (by omega)) (by rw [a0, zrw_at]) ⟨a1, a2, a3, a4, a5, a6, a7, a8⟩ (fun a q0 q1 => bb a (by omega) (by omega)) ?_ ?_ ?_ ?_ ?_ ?_ ⟨b1, b2, b3, b4, b5, b6, b7, b8⟩
  all_goals rw [b0]; rfl
theorem tz_act (hB : TK R t) (hAK : AK R) (hM : MK R) (ht : 2 ≤ t ∧ t + 27 < 58) (h60 : m 58 0 ≤ 60) {a : Int} (ha : 0 ≤ a ∧ a < m 58 0) {g0 : zM} (hT0 : TR m g0 t) (hC : 0 ≤ m (t + 1) 3 ∧ m (t + 1) 3 < 2000000000) (hA : AOk R m w a) (hN : mN g0 = mN w) (hs : w 114 a = 3 → m (t + 9) 0 < 20) (lo : Int) : ∃ m' : zM, ev 10 0 [(2, 58), (0, a), (2, t), (0, lo), (9, 0), (9, 0)] [] R m = some ((9, 0), R, m') ∧ (∀ b, b < t + 1 ∨ t + 17 < b → m' b = m b) ∧ (m' (t + 1) 3 = m (t + 1) 3 ∨ m' (t + 1) 3 = m (t + 1) 3 + 1) ∧ ∀ g, TR m g t → g 114 = w 114 → g 116 = w 116 → g 117 = w 117 → ARes R m' w g t a lo := by
  obtain ⟨hk, m59, -, hxy, hp, h0, h1, h2, h3, h4⟩ := hA
  have st := tz_redoA (R := R) (t := t) hAK h60 ha m59 lo
  rw [st]
  have hV := hT0.1.1.1
  have en := RB_n hT0.1
  have hn := MV_n hT0.1.2.1
  have a60 : 0 ≤ a ∧ a < 60 := by omega
  have sg : ∀ g : zM, g 114 = w 114 → g 116 = w 116 → ev 281 0 [(2, 100), (0, a), (0, lo), (9, 0), (9, 0), (9, 0), (9, 0)] [] R g = ev 281 27 [(2, 100), (0, a), (0, lo), (0, w 116 (4 * a)), (0, w 116 (4 * a + 1)), (9, 0), (9, 0)] [(0, w 114 a)] R g := by
    intro g e4 e6
    have := tz_agA (R := R) hM a60 (w := g) rfl lo
    rw [e4, e6] at this
    exact this
  have eNg : ∀ g, TR m g t → mN g = mN w := fun g hg => by rw [← hN, ← en, ← RB_n hg.1]
  have : w 114 a = 0 ∨ w 114 a = 1 ∨ w 114 a = 2 ∨ w 114 a = 3 ∨ w 114 a = 4 := by omega
  rcases this with e | e | e | e | e
  · obtain ⟨x1, x2⟩ := hxy (by omega)
    have p0 := hp (by omega)
    have v0 := h0 e
    rw [x1, x2, e, tz_redo0 hB hV hC (by rw [en, hN]; exact p0) v0]
    refine ⟨_, rfl, ?_, ?_, ?_⟩
    · intro b hb
      split
      · exact (zgput_rows m (t + 1) _ _).2.2.2 b (by omega) (by omega) (by omega)
      · rfl
    · split
      · right; rw [(zgput_rows m (t + 1) _ _).2.1, zrw_at]
      · left; rfl
    · intro g hg e4 e6 e7
      have eg := (hg.1.2.2.2.2 (w 116 (4 * a)) p0.1 (by rw [eNg g hg]; exact p0.2)).2.2
      refine ⟨_, (sg g e4 e6).trans (by rw [e]; exact tz_ag0 hM (by omega)), ?_, ?_, ?_, ?_, ?_⟩
      · rw [eg]
        by_cases c : g 103 (w 116 (4 * a)) = 0
        · rw [if_pos c, if_pos c]
          exact TR_ground hg (by rw [eNg g hg]; exact p0) v0
        · rw [if_neg c, if_neg c]
          have : zrw (g 101) (w 116 (4 * a)) (g 101 (w 116 (4 * a))) = g 101 := by funext q; rw [zrw_if]; split <;> simp_all
          rw [this, zpr_self]
          exact hg
      · intro b hb; rw [zpr_ne (by omega)]
      · intro k _ _; rw [zpr_ne (by decide)]
      · intro z; omega
      · intro _
        simp (disch := decide) only [zpr_ne]
        exact ⟨trivial, trivial, trivial, trivial, trivial⟩
  · obtain ⟨x1, x2⟩ := hxy (by omega)
    have p0 := hp (by omega)
    have v0 := h1 e
    rw [x1, x2, e, tz_redo1 hB hV hC (by rw [en, hN]; exact p0) v0]
    refine ⟨_, rfl, ?_, ?_, ?_⟩
    · intro b hb
      exact (zhput_rows m (t + 1) _ _).2.2 b (by omega) (by omega)
    · right; rw [(zhput_rows m (t + 1) _ _).2.1, zrw_at]
    · intro g hg e4 e6 e7
      refine ⟨_, (sg g e4 e6).trans (by rw [e]; exact tz_ag1 hM (by omega)), ?_, ?_, ?_, ?_, ?_⟩
      · exact TR_height hg (by rw [eNg g hg]; exact p0) v0
      · intro b hb; rw [zpr_ne (by omega)]
      · intro k _ _; rw [zpr_ne (by decide)]
      · intro z; omega
      · intro _
        simp (disch := decide) only [zpr_ne]
        exact ⟨trivial, trivial, trivial, trivial, trivial⟩
  · obtain ⟨x1, x2⟩ := hxy (by omega)
    have p0 := hp (by omega)
    have v0 := h2 e
    obtain ⟨m1, e1, f1⟩ := tz_tputUse (R := R) hB hV (by rw [hT0.2.2.1.2.1]; exact hT0.2.2.1.1) (p := w 116 (4 * a)) (g := w 116 (4 * a + 1)) (by rw [en, hN]; exact p0) v0
    rw [x1, x2, e, tz_redo2 hB hV (by rw [en, hN]; exact p0) e1]
    have mf : ∀ b, b ≠ t + 14 → b ≠ t + 15 → m1 b = m b := by
      intro b b1 b2
      rcases f1 with ⟨-, e⟩ | ⟨r, -, -, -, -, e⟩
      · rw [e]
      · rw [e, zpr_ne b2, zpr_ne b1]
    refine ⟨_, rfl, ?_, ?_, ?_⟩
    · intro b hb
      split
      · rw [(zuput_rows m1 (t + 1) _ _).2.2 b (by omega) (by omega), mf b (by omega) (by omega)]
      · rfl
    · left
      split
      · rw [(zuput_rows m1 (t + 1) _ _).2.2 (t + 1) (by omega) (by omega), mf (t + 1) (by omega) (by omega)]
      · rfl
    · intro g hg e4 e6 e7
      have eg := (hg.1.2.2.2.2 (w 116 (4 * a)) p0.1 (by rw [eNg g hg]; exact p0.2)).1
      have ho : g 104 (w 116 (4 * a)) = -4 ∨ (0 ≤ g 104 (w 116 (4 * a)) ∧ g 104 (w 116 (4 * a)) < 20) := by
        have := hg.2.2.1.2.2.2 (w 116 (4 * a)) p0.1 (by rw [eNg g hg]; exact p0.2)
        have := hg.2.2.1.1
        omega
      refine ⟨_, (sg g e4 e6).trans (by rw [e]; exact tz_ag2 hM (by omega) ho), ?_, ?_, ?_, ?_, ?_⟩
      · rw [eg]
        by_cases c : w 116 (4 * a + 1) = 0 ∨ g 101 (w 116 (4 * a)) = 0
        · rw [if_pos c, if_pos c]
          exact TR_use hg (by rw [eNg g hg]; exact p0) v0 f1
        · rw [if_neg c, if_neg c]
          exact hg
      · intro b hb
        split
        · rw [zpr_ne (by omega)]
          unfold zmfree
          split <;> simp (disch := omega) only [zpr_ne]
        · rfl
      · intro k _ _
        split
        · rw [zpr_ne (by decide)]
          unfold zmfree
          split <;> simp (disch := decide) only [zpr_ne]
        · rfl
      · intro z; omega
      · intro _
        split
        · simp (disch := decide) only [zpr_ne]
          unfold zmfree
          split
          · simp (disch := decide) only [zpr_ne]
            exact ⟨trivial, trivial, trivial, trivial, trivial⟩
          · simp (disch := decide) only [zpr_ne]
            exact ⟨trivial, trivial, trivial, trivial, trivial⟩
        · exact ⟨rfl, rfl, rfl, rfl, rfl⟩
  · obtain ⟨x1, x2⟩ := hxy (by omega)
    obtain ⟨x3, x4, v1, v2, v3⟩ := h3 e
    have s20 := hs e
    have enc := hT0.2.2.1.2.1
    rw [x1, x2, e, tz_redo3 hB hAK h60 ha (by rw [enc] at s20 ⊢; exact ⟨hT0.2.2.1.1.1, s20⟩), x3, x4]
    obtain ⟨a0, -, -, -, -, -, -, -, -, aa⟩ := zsadd_rows m (t + 9) (w 116 (4 * a)) (w 116 (4 * a + 1)) (w 116 (4 * a + 2)) (w 116 (4 * a + 3))
    refine ⟨_, rfl, ?_, ?_, ?_⟩
    · intro b hb
      exact aa b (by omega)
    · left; rw [aa (t + 1) (by omega)]
    · intro g hg e4 e6 e7
      have g20 : g 100 10 < 20 := by rw [← hg.2.2.1.2.1]; exact s20
      have S := tz_ag3 (R := R) (w := g) (a := a) (p := w 116 (4 * a)) (v := w 116 (4 * a + 1)) (lo := lo) hM a60 rfl ⟨hg.2.2.1.1.1, g20⟩
      rw [e6] at S
      obtain ⟨b0, b1, b2, b3, b4, b5, b6, b7, b8, bb⟩ := zmadd_rows g (g 100 10) (w 116 (4 * a)) (w 116 (4 * a + 1)) (w 116 (4 * a + 2)) (w 116 (4 * a + 3))
      refine ⟨_, (sg g e4 e6).trans (by rw [e]; exact S), TR_addz hg g20 v1 v2 v3, ?_, ?_, ?_, ?_⟩
      · intro b hb; exact bb b (by omega) (by omega)
      · intro k _ k10; rw [b0, zrw_ne k10]
      · intro _; rw [b0, zrw_at]; exact ⟨b1, b2, b3, b4, rfl⟩
      · intro z; exact absurd e z
  · obtain ⟨l0, l1, l2, l3, l4⟩ := h4 e
    rw [e]
    obtain ⟨f, S, hf⟩ := tz_ltake (R := R) (m := m) (TK_L hB) l1 (by omega) (l3.1) lo
    have n0 : R 62 a ≠ 0 := by omega
    simp only [tn_1_1, tn_1_2, tn_1_3, tn_1_4, tn_1_5, tn_7_1, tn_9_1, tn_9_2, tn_9_3, tn_9_4, tn_9_5, tn_9_6, tn_9_7, tn_9_8, tn_9_9, tn_9_10, tn_9_11, tn_9_12, tn_9_13, tn_9_14, tn_9_15] at S
    rw [tz_redo4 hB hAK a60 rfl n0 S]
    refine ⟨_, rfl, ?_, ?_, ?_⟩
    · intro b hb
      rw [zpr_ne (by omega), zpr_ne (by omega)]
    · left; rw [zpr_ne (by omega), zpr_ne (by omega)]
    · intro g hg e4 e6 e7
      have x12 := l3.1
      rw [l2] at x12
      obtain ⟨f', S', hf'⟩ := tz_ag4 (R := R) (w := g) (a := a) (x := w 116 (4 * a)) (v := w 116 (4 * a + 1)) (lo := lo) hM a60 x12
      rw [e7] at hf'
      refine ⟨_, (sg g e4 e6).trans (by rw [e]; exact S'), ?_, ?_, ?_, ?_, ?_⟩
      · have r7 : zpr (zpr m (t + 7) (zrw (m (t + 7)) 0 (m (R 62 a) 0 - if 0 ≤ lo ∧ lo < m (R 62 a) 0 then 1 else 0))) (t + 8) f (t + 7) 0 = m (R 62 a) 0 - if 0 ≤ lo ∧ lo < m (R 62 a) 0 then 1 else 0 := by rw [zpr_ne (by omega), zpr_at, zrw_at]
        have r8 : zpr (zpr m (t + 7) (zrw (m (t + 7)) 0 (m (R 62 a) 0 - if 0 ≤ lo ∧ lo < m (R 62 a) 0 then 1 else 0))) (t + 8) f (t + 8) = f := by rw [zpr_at]
        refine TR_laws hg ?_ ?_ ?_ ?_ ?_ ?_
        · rw [r7, r8]
          exact LW_take l3 hf
        · rw [r7, r8, zpr_ne (show (105 : Int) ≠ 100 by decide), zpr_at]
          rw [← l2] at hf'
          exact RL_take l4 hf hf'
        · rw [r7, zpr_at, zrw_at, l2]
        · intro b q0 q1 q2 q3
          rw [zpr_ne q3, zpr_ne q2]
        · intro b q0 q1 q2
          rw [zpr_ne (by omega), zpr_ne q2]
        · rw [zpr_at]
          exact ⟨rfl, rfl, rfl, rfl, rfl⟩
      · intro b hb; rw [zpr_ne (by omega), zpr_ne (by omega)]
      · intro k k8 _; rw [zpr_at, zrw_ne k8]
      · intro z; omega
      · intro _
        simp (disch := decide) only [zpr_ne, zpr_at]
        exact ⟨trivial, trivial, trivial, trivial, rfl⟩
end ACT
