/-! those who leave; the year whole -/
def zlim (m : zM) (t s : Int) : Int := (znum (m (t + 8)) 4 (m (t + 10) s) (m t 3) (m (t + 7) 0).toNat).1
def zlvs (m : zM) (t s : Int) : Bool := decide (m (t + 14) s ≠ -4 ∧ 0 ≤ zlim m t s ∧ m (t + 27) s < zlim m t s)
theorem zwish_congr {n w : Int} {G G' U U' : Int → Int} (h : ∀ q, 0 ≤ q → q < n → G q = G' q ∧ U q = U' q) (p d i : Int) : zwish n w G U p d i = zwish n w G' U' p d i := by
  unfold zwish
  apply zcnt_congr
  intro q h1 h2
  have := h q h1 (by omega)
  unfold zthing
  rw [this.1, this.2]
theorem zworth_congr {n w ln y : Int} {G G' U U' L : Int → Int} (h : ∀ q, 0 ≤ q → q < n → G q = G' q ∧ U q = U' q) (p u : Int) : zworth n w ln y G U L p u = zworth n w ln y G' U' L p u := by
  unfold zworth
  congr 1
  apply zsum_congr
  intro k h1 h2
  unfold zadds
  rw [zwish_congr h]
section GROW3
variable {t : Int} {R m : zM}
theorem tz_sendAway (hB : TK R t) (hV : BV m (t + 1)) (hT : TV m (t + 1)) (hL : LW (m (t + 7) 0) (m (t + 8))) {nc : Int} (hnc : m (t + 9) 0 = nc) (hS : 0 ≤ nc ∧ nc ≤ 20) (hP : ∀ s, 0 ≤ s → s < nc → m (t + 14) s = -4 ∨ (0 ≤ m (t + 14) s ∧ m (t + 14) s < m (t + 1) 2)) :
    ∃ m' : zM, ev 125 0 [(2, t), (9, 0), (9, 0), (9, 0), (9, 0)] [] R m = some ((0, zcnt (zlvs m t) nc.toNat), R, m') ∧ zfr [t + 4, t + 5, t + 14, t + 15] m m' ∧ BV m' (t + 1) ∧ TV m' (t + 1) ∧ (∀ p, 0 ≤ p → p < m (t + 1) 2 → m' (t + 4) p = if zany (fun s => zlvs m t s && decide (m (t + 14) s = p)) nc.toNat = true then 0 else m (t + 4) p) ∧ ∀ s, 0 ≤ s → s < nc → m' (t + 14) s = (if zlvs m t s = true then -4 else m (t + 14) s) ∧ m' (t + 15) s = (if zlvs m t s = true then 1 else m (t + 15) s) := by
  have row : ∀ m' : zM, zfr [t + 4, t + 5, t + 14, t + 15] m m' → ∀ a, (a ≠ t + 4 ∧ a ≠ t + 5 ∧ a ≠ t + 14 ∧ a ≠ t + 15) → m' a = m a := fun m' hf a ha => hf a (by
    simp only [List.mem_cons, List.not_mem_nil, or_false, not_or]
    exact ha)
  have st : ev 125 0 [(2, t), (9, 0), (9, 0), (9, 0), (9, 0)] [] R m = ev 125 4 [(2, t), (0, 0), (0, 0), (9, 0), (9, 0)] [] R m := by simp only [s125_0, s125_1, s125_2, s125_3, s125_5, s125_6, s125_9, s125_12, s125_15, s125_16, s125_17, s125_20, s125_21, s125_24, s125_25, s125_28, s125_29, s125_32, s125_33, s125_34, s125_36, s125_39, s125_42, s125_43, s125_46, s125_47, s125_48, s125_51, s125_52, s125_55, s125_56, s125_59, s125_62, s125_64, s125_66, s125_69, s125_70, s125_73, s125_74, s125_75, s125_77, s125_80, s125_83, s125_84, s125_87, s125_88, s125_91, s125_92, s125_95, s125_96, s125_97, s125_100, s125_101, s125_104, s125_107, s125_110, s125_111, zps_0, zps_1, zps_2, zps_3, zps_9, Option.bind_some, Option.bind_none, Int.reduceEq, Int.reduceNe, Int.reduceLT, Int.reduceLE, Int.reduceNeg, Int.reduceAdd, Int.reduceSub, Int.reduceMul, reduceIte, if_true, if_false, true_and, and_true, false_and, and_false, or_true, true_or, or_false, false_or, not_true_eq_false, not_false_eq_true, ite_not, z_b0, z_b1, z_b01]
  rw [st]
  refine zloop (fun r => ∃ m' : zM, r = some ((0, zcnt (zlvs m t) nc.toNat), R, m') ∧ zfr [t + 4, t + 5, t + 14, t + 15] m m' ∧ BV m' (t + 1) ∧ TV m' (t + 1) ∧ (∀ p, 0 ≤ p → p < m (t + 1) 2 → m' (t + 4) p = if zany (fun s => zlvs m t s && decide (m (t + 14) s = p)) nc.toNat = true then 0 else m (t + 4) p) ∧ ∀ s, 0 ≤ s → s < nc → m' (t + 14) s = (if zlvs m t s = true then -4 else m (t + 14) s) ∧ m' (t + 15) s = (if zlvs m t s = true then 1 else m (t + 15) s)) (fun s (a : zM × Int × zV × zV) => ev 125 4 [(2, t), (0, a.2.1), (0, s), a.2.2.1, a.2.2.2] [] R a.1) nc
    (fun k a => 0 ≤ k ∧ a.2.1 = zcnt (zlvs m t) k.toNat ∧ zfr [t + 4, t + 5, t + 14, t + 15] m a.1 ∧ BV a.1 (t + 1) ∧ TV a.1 (t + 1) ∧ (∀ p, 0 ≤ p → p < m (t + 1) 2 → a.1 (t + 4) p = if zany (fun s => zlvs m t s && decide (m (t + 14) s = p)) k.toNat = true then 0 else m (t + 4) p) ∧ ∀ s, 0 ≤ s → s < nc → a.1 (t + 14) s = (if zlvs m t s = true ∧ s < k then -4 else m (t + 14) s) ∧ a.1 (t + 15) s = (if zlvs m t s = true ∧ s < k then 1 else m (t + 15) s)) ?_ ?_ 0 (m, 0, (9, 0), (9, 0)) (by omega) ⟨by omega, rfl, zfr_rf _ _, hV, hT, fun p h1 h2 => by simp [zany], fun s h1 h2 => by rw [if_neg (by omega), if_neg (by omega)]; exact ⟨rfl, rfl⟩⟩
  · intro s ⟨m1, c, l3, l4⟩ hs ⟨hs0, hc, hf, hV1, hT1, hI, hJ⟩ ih
    dsimp only at hc hf hV1 hT1 hI hJ ⊢
    have r9 := row m1 hf (t + 9) (by omega)
    have r10 := row m1 hf (t + 10) (by omega)
    have r27 := row m1 hf (t + 27) (by omega)
    have r7 := row m1 hf (t + 7) (by omega)
    have r8 := row m1 hf (t + 8) (by omega)
    have r1 := row m1 hf (t + 1) (by omega)
    have rt := row m1 hf t (by omega)
    have cb := zcnt_bd (zlvs m t) s.toNat
    have ih2 := fun a h => ih a ⟨by omega, h⟩
    simp only [zcnt_step _ hs0, zany_step _ hs0] at ih2
    have hJs := hJ s hs0 hs
    rw [if_neg (by omega), if_neg (by omega)] at hJs
    have skip : zlvs m t s = false → ∀ l3 l4, ev 125 4 [(2, t), (0, c), (0, s + 1), l3, l4] [] R m1 = ev 125 4 [(2, t), (0, c), (0, s + 1), l3, l4] [] R m1 → ∃ m' : zM, ev 125 4 [(2, t), (0, c), (0, s + 1), l3, l4] [] R m1 = some ((0, zcnt (zlvs m t) nc.toNat), R, m') ∧ zfr [t + 4, t + 5, t + 14, t + 15] m m' ∧ BV m' (t + 1) ∧ TV m' (t + 1) ∧ (∀ p, 0 ≤ p → p < m (t + 1) 2 → m' (t + 4) p = if zany (fun s => zlvs m t s && decide (m (t + 14) s = p)) nc.toNat = true then 0 else m (t + 4) p) ∧ ∀ s, 0 ≤ s → s < nc → m' (t + 14) s = (if zlvs m t s = true then -4 else m (t + 14) s) ∧ m' (t + 15) s = (if zlvs m t s = true then 1 else m (t + 15) s) := by
      intro hz l3 l4 _
      refine ih2 (m1, c, l3, l4) ⟨by simp [hz, hc], hf, hV1, hT1, ?_, ?_⟩
      · intro p h1 h2
        dsimp only
        rw [hI p h1 h2, hz]
        simp
      · intro q h1 h2
        dsimp only
        have := hJ q h1 h2
        rw [this.1, this.2]
        have e3 : (zlvs m t q = true ∧ q < s) ↔ (zlvs m t q = true ∧ q < s + 1) := by
          by_cases e : q = s
          · subst e; simp [hz]
          · constructor <;> (intro h; exact ⟨h.1, by omega⟩)
        simp only [e3, and_self]
    by_cases hq : m (t + 14) s = -4
    · rw [tz_sa0 hB (by rw [r9, hnc]) hS.2 ⟨hs0, hs⟩ (by rw [hJs.1, hq])]
      exact skip (by unfold zlvs; simp [hq]) _ _ rfl
    · have hp : 0 ≤ m (t + 14) s ∧ m (t + 14) s < m (t + 1) 2 := by rcases hP s hs0 hs with h | h <;> omega
      by_cases hl : 0 ≤ zlim m t s ∧ m (t + 27) s < zlim m t s
      · have hz : zlvs m t s = true := by unfold zlvs; rw [decide_eq_true_eq]; exact ⟨hq, hl⟩
        rw [tz_sa2 hB hV1 hT1 (by rw [r7, r8]; exact hL) (by rw [r9, hnc]) hS.2 ⟨hs0, hs⟩ ⟨by omega, by omega⟩ hJs.1 (by rw [r1]; exact hp) (by rw [r7, r8, r10, rt, r27]; exact hl)]
        obtain ⟨w5, w6, ww⟩ := zlve_rows m1 (t + 9) s
        have hBT := BT_fr (m := m1) (m' := zlve m1 (t + 9) s) (o := t + 1) (fun a h1 h2 => ww a (by omega) (by omega)) hV1 hT1
        have ok := zuput_ok (g := 0) hBT.1 hBT.2 (p := m (t + 14) s) (by rw [ww _ (by omega) (by omega), r1]; exact hp) (by omega)
        obtain ⟨v3, v4, vv⟩ := zuput_rows (zlve m1 (t + 9) s) (t + 1) (m (t + 14) s) 0
        refine ih2 (zuput (zlve m1 (t + 9) s) (t + 1) (m (t + 14) s) 0, c + 1, (0, m (t + 14) s), _) ⟨by simp [hz, hc], ?_, ok.1, ok.2, ?_, ?_⟩
        · intro a ha
          dsimp only
          have h2 := hf a ha
          simp only [List.mem_cons, List.not_mem_nil, or_false, not_or] at ha
          rw [vv a (by omega) (by omega), ww a (by omega) (by omega), h2]
        · intro p h1 h2
          dsimp only
          rw [show t + 4 = t + 1 + 3 by omega, v3, ww _ (by omega) (by omega), zrw_if, show t + 1 + 3 = t + 4 by omega, hI p h1 h2, hz]
          by_cases e : p = m (t + 14) s
          · rw [if_pos e, if_pos (by simp [e])]
          · rw [if_neg e]
            have : ¬ m (t + 14) s = p := fun h => e h.symm
            simp [this]
        · intro q h1 h2
          dsimp only
          rw [vv (t + 14) (by omega) (by omega), vv (t + 15) (by omega) (by omega), show t + 14 = t + 9 + 5 by omega, show t + 15 = t + 9 + 6 by omega, w5, w6, show t + 9 + 5 = t + 14 by omega, show t + 9 + 6 = t + 15 by omega]
          have := hJ q h1 h2
          by_cases e : q = s
          · subst e
            rw [zrw_at, zrw_at, if_pos ⟨hz, by omega⟩, if_pos ⟨hz, by omega⟩]
            exact ⟨rfl, rfl⟩
          · rw [zrw_ne e, zrw_ne e, this.1, this.2]
            have e3 : (zlvs m t q = true ∧ q < s) ↔ (zlvs m t q = true ∧ q < s + 1) := by
              constructor <;> (intro h; exact ⟨h.1, by omega⟩)
            simp only [e3, and_self]
      · rw [tz_sa1 hB (by rw [r7, r8]; exact hL) (by rw [r9, hnc]) hS.2 ⟨hs0, hs⟩ hJs.1 hp.1 (by rw [r7, r8, r10, rt, r27]; exact hl)]
        exact skip (by unfold zlvs; rw [decide_eq_false_iff_not]; exact fun z => hl z.2) _ _ rfl
  · intro ⟨m1, c, l3, l4⟩ ⟨hs0, hc, hf, hV1, hT1, hI, hJ⟩
    dsimp only at hc hf hV1 hT1 hI hJ ⊢
    have r9 := row m1 hf (t + 9) (by omega)
    rw [tz_sa3 hB (by rw [r9, hnc])]
    refine ⟨m1, by rw [hc], hf, hV1, hT1, hI, fun s h1 h2 => ?_⟩
    have := hJ s h1 h2
    rw [this.1, this.2]
    have : (zlvs m t s = true ∧ s < nc) ↔ zlvs m t s = true := ⟨fun h => h.1, fun h => ⟨h, h2⟩⟩
    simp only [this, and_self]
end GROW3
