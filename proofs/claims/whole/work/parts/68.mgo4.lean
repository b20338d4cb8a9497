/-! the model: a year's phases B, C, D -/
section MGO4
variable {R m : zM} {ln nc : Int} {L : Int → Int}
theorem tz_mpB (hM : MK R) (hV : MV m) (h20 : 0 ≤ nc ∧ nc ≤ 20) {Q : zP} (hu : ∀ s, 0 ≤ s → s < nc → 1 ≤ m 106 s ∧ m 106 s ≤ 3) (hC : MS m nc Q) (hP : zPI (mN m) nc Q) (l2 : zV) : ∃ (f : Int → Int) (k2 : zV), ev 273 96 [(2, 100), (0, 0), l2] [] R m = ev 273 149 [(2, 100), (0, 0), k2] [] R (zpr m 103 f) ∧ ∀ p, 0 ≤ p → p < mN m → f p = uA m Q p := by
  have hN := MV_n hV
  have hq : ∀ p, m 124 p = Q.2.2 p → m 124 p = -4 ∨ (0 ≤ m 124 p ∧ m 124 p < nc) := by
    intro p e
    rw [e]
    rcases hP.2 p with h | ⟨-, -, h1, h2, -⟩
    · exact Or.inl h
    · exact Or.inr ⟨h1, h2⟩
  have hr : ∀ p, 0 ≤ p → p < mN m → 0 ≤ uA m Q p ∧ uA m Q p ≤ 3 := by
    intro p p0 p1
    unfold uA
    split
    next h =>
      rcases hP.2 p with h1 | ⟨-, -, h1, h2, -⟩
      · omega
      · have := hu _ h1 h2; omega
    next => exact (hV.2.2 p p0 p1).2.2
  have key : ∀ X : Option zR, (∀ (f : Int → Int) (k2 : zV), (∀ p, 0 ≤ p → p < mN m → f p = uA m Q p) → ev 273 149 [(2, 100), (0, 0), k2] [] R (zpr m 103 f) ≠ X) → ev 273 96 [(2, 100), (0, 0), l2] [] R m ≠ X := by
    intro X hX
    refine zloop (fun r => r ≠ X) (fun p (f : Int → Int) => ev 273 96 [(2, 100), (0, p), l2] [] R (zpr m 103 f)) (mN m) (fun k f => 0 ≤ k ∧ ∀ p, 0 ≤ p → p < mN m → f p = if p < k then uA m Q p else m 103 p) ?_ ?_ 0 (m 103) (by omega) ⟨by omega, fun p h1 h2 => by rw [if_neg (by omega)]⟩ |> fun h => by rw [zpr_self] at h; exact h
    · intro p f hp ⟨p0, hI⟩ ih
      have e : ∀ a, a ≠ 103 → zpr m 103 f a = m a := fun a h => zpr_ne h
      have eN : mN (zpr m 103 f) = mN m := mN_e (by rw [e 100 (by decide)]) (by rw [e 100 (by decide)])
      have hV1 : MV (zpr m 103 f) := MV_e (by rw [e 100 (by decide)]) (by rw [e 100 (by decide)]) (e 101 (by decide)) (e 102 (by decide)) (fun q q0 q1 => by
        rw [zpr_at, hI q q0 q1]
        split
        · exact hr q q0 q1
        · exact (hV.2.2 q q0 q1).2.2) hV
      have h124 := hC.2.2 p p0 (by omega)
      rw [tz_mgB hM hV1 (by rw [eN]; exact ⟨p0, hp⟩) (by rw [e 124 (by decide)]; have := hq p h124; omega)]
      rw [e 124 (by decide), e 106 (by decide), zpr_at, zpr_zpr, hI p p0 hp, if_neg (show ¬ p < p by omega), h124]
      refine ih _ ⟨by omega, fun q q0 q1 => ?_⟩
      rw [zrw_if]
      by_cases eq : q = p
      · subst eq
        rw [if_pos rfl, if_pos (show q < q + 1 by omega)]
        rfl
      · rw [if_neg eq, hI q q0 q1]
        by_cases h : q < p
        · rw [if_pos h, if_pos (by omega)]
        · rw [if_neg h, if_neg (by omega)]
    · intro f ⟨p0, hI⟩
      have e : ∀ a, a ≠ 103 → zpr m 103 f a = m a := fun a h => zpr_ne h
      have eN : mN (zpr m 103 f) = mN m := mN_e (by rw [e 100 (by decide)]) (by rw [e 100 (by decide)])
      have hV1 : MV (zpr m 103 f) := MV_e (by rw [e 100 (by decide)]) (by rw [e 100 (by decide)]) (e 101 (by decide)) (e 102 (by decide)) (fun q q0 q1 => by
        rw [zpr_at, hI q q0 q1, if_pos q1]
        exact hr q q0 q1) hV
      have B2 := tz_mgB2 (R := R) hM hV1 (l2 := l2)
      rw [eN] at B2
      rw [B2]
      exact hX f l2 (fun p h1 h2 => by rw [hI p h1 h2, if_pos h2])
  exact Classical.byContradiction fun hno => key _ (fun f k2 h1 h2 => hno ⟨f, k2, h2.symm, h1⟩) rfl
/-- the worth as it is at taxes -/
def wC (m : zM) (ln : Int) (L : Int → Int) (p : Int) : Int := zworth (mN m) (m 100 0) ln (m 100 6) (m 101) (m 103) L p (m 103 p)
def tC (m : zM) (ln : Int) (L : Int → Int) (p : Int) : Int := if m 104 p = -4 then 0 else mtax (zlmt ln.toNat L 2 (m 103 p) (m 100 6)) (wC m ln L p)
theorem mtax_bd {a w : Int} (hw : -80000 ≤ w ∧ w ≤ 80000) (ha : a = -4 ∨ (0 ≤ a ∧ a ≤ 100)) : 0 ≤ mtax a w ∧ mtax a w ≤ 80000 := by
  unfold mtax
  split
  · omega
  · split
    next h2 =>
      have := zmtx hw (show 0 ≤ a ∧ a ≤ 100 by omega)
      have h3 : 0 ≤ w * a := Int.mul_nonneg (by omega) (by omega)
      omega
    next => omega
theorem tC_bd (hV : MV m) (hL : ML m ln L) (p : Int) : 0 ≤ tC m ln L p ∧ tC m ln L p ≤ 80000 := by
  have hN := MV_n hV
  unfold tC
  split
  · omega
  · have hab := znum_bd (a := 2) (u := m 103 p) (y := m 100 6) hL.2.1 (by omega)
    have hal := zlmt_num (a := 2) hL.2.1 (by omega) (m 103 p) (m 100 6)
    have := hab.2.2 rfl
    exact mtax_bd (zworth_bd ⟨by omega, hN.2⟩ hL.2.1 _ _) (by omega)
theorem tz_mpC (hM : MK R) (hV : MV m) (hL : ML m ln L) (h46 : m 100 46 = 0) (l2 : zV) : ∃ (f : Int → Int) (k2 : zV), ev 273 149 [(2, 100), (0, 0), l2] [] R m = ev 273 252 [(2, 100), (0, 0), k2] [] R (zpr (zpr m 129 f) 100 (zrw (m 100) 46 (zsum (tC m ln L) (mN m).toNat))) ∧ ∀ p, 0 ≤ p → p < mN m → m 104 p ≠ -4 → f p = wC m ln L p := by
  have hN := MV_n hV
  have bS : ∀ k : Nat, k ≤ 64 → 0 ≤ zsum (tC m ln L) k ∧ zsum (tC m ln L) k ≤ 5120000 := by
    intro k hk
    have := zsum_bd (f := tC m ln L) (n := k) (lo := 0) (hi := 80000) (fun j _ _ => tC_bd hV hL j)
    omega
  have e : ∀ (f : Int → Int) (x : Int) a, a ≠ 129 → a ≠ 100 → zpr (zpr m 129 f) 100 (zrw (m 100) 46 x) a = m a := fun f x a h1 h2 => by rw [zpr_ne h2, zpr_ne h1]
  have e0 : ∀ (f : Int → Int) (x : Int) k, k ≠ 46 → zpr (zpr m 129 f) 100 (zrw (m 100) 46 x) 100 k = m 100 k := fun f x k h => by rw [zpr_at, zrw_ne h]
  have e129 : ∀ (f : Int → Int) (x : Int), zpr (zpr m 129 f) 100 (zrw (m 100) 46 x) 129 = f := fun f x => by rw [zpr_ne (by decide), zpr_at]
  have eN : ∀ (f : Int → Int) (x : Int), mN (zpr (zpr m 129 f) 100 (zrw (m 100) 46 x)) = mN m := fun f x => mN_e (e0 f x 0 (by decide)) (e0 f x 1 (by decide))
  have hV1 : ∀ (f : Int → Int) (x : Int), MV (zpr (zpr m 129 f) 100 (zrw (m 100) 46 x)) := fun f x => MV_e (e0 f x 0 (by decide)) (e0 f x 1 (by decide)) (e f x 101 (by decide) (by decide)) (e f x 102 (by decide) (by decide)) (fun q q0 q1 => by rw [e f x 103 (by decide) (by decide)]; exact (hV.2.2 q q0 q1).2.2) hV
  have hL1 : ∀ (f : Int → Int) (x : Int), ML (zpr (zpr m 129 f) 100 (zrw (m 100) 46 x)) ln L := fun f x => ML_e (e0 f x 8 (by decide)) (e f x 105 (by decide) (by decide)) hL
  have key : ∀ X : Option zR, (∀ (f : Int → Int) (k2 : zV), (∀ p, 0 ≤ p → p < mN m → m 104 p ≠ -4 → f p = wC m ln L p) → ev 273 252 [(2, 100), (0, 0), k2] [] R (zpr (zpr m 129 f) 100 (zrw (m 100) 46 (zsum (tC m ln L) (mN m).toNat))) ≠ X) → ev 273 149 [(2, 100), (0, 0), l2] [] R (zpr (zpr m 129 (m 129)) 100 (zrw (m 100) 46 0)) ≠ X := by
    intro X hX
    refine zloop (fun r => r ≠ X) (fun p (a : (Int → Int) × zV) => ev 273 149 [(2, 100), (0, p), a.2] [] R (zpr (zpr m 129 a.1) 100 (zrw (m 100) 46 (zsum (tC m ln L) p.toNat)))) (mN m) (fun k a => 0 ≤ k ∧ ∀ p, 0 ≤ p → p < k → m 104 p ≠ -4 → a.1 p = wC m ln L p) ?_ ?_ 0 (m 129, l2) (by omega) ⟨by omega, fun p h1 h2 => by omega⟩
    · intro p ⟨f, l2⟩ hp ⟨p0, hI⟩ ih
      dsimp only at hI ih ⊢
      have ih2 := fun a h => ih a ⟨by omega, h⟩
      rw [zsum_step _ p0] at ih2
      have bs := bS p.toNat (by omega)
      generalize hx : zsum (tC m ln L) p.toNat = x at *
      by_cases ho : m 104 p = -4
      · rw [tz_mgC0 hM (hV1 f x) (by rw [eN]; exact ⟨p0, hp⟩) (by rw [e f x 104 (by decide) (by decide)]; exact ho)]
        have et : tC m ln L p = 0 := by unfold tC; rw [if_pos ho]
        rw [et, Int.add_zero] at ih2
        refine ih2 (f, l2) (fun q q0 q1 h => ?_)
        by_cases eq : q = p
        · subst eq; exact absurd ho h
        · exact hI q q0 (by omega) h
      · have ew : zworth (mN (zpr (zpr m 129 f) 100 (zrw (m 100) 46 x))) (zpr (zpr m 129 f) 100 (zrw (m 100) 46 x) 100 0) ln (zpr (zpr m 129 f) 100 (zrw (m 100) 46 x) 100 6) (zpr (zpr m 129 f) 100 (zrw (m 100) 46 x) 101) (zpr (zpr m 129 f) 100 (zrw (m 100) 46 x) 103) L p (zpr (zpr m 129 f) 100 (zrw (m 100) 46 x) 103 p) = wC m ln L p := by
          rw [eN, e0 f x 0 (by decide), e0 f x 6 (by decide), e f x 101 (by decide) (by decide), e f x 103 (by decide) (by decide)]
          rfl
        rw [tz_mgC1 hM (hV1 f x) (hL1 f x) (by rw [eN]; exact ⟨p0, hp⟩) (by rw [e f x 104 (by decide) (by decide)]; exact ho) ew (by rw [e0 f x 6 (by decide), e f x 103 (by decide) (by decide)]) (by rw [zpr_at, zrw_at]; omega)]
        have et : tC m ln L p = mtax (zlmt ln.toNat L 2 (m 103 p) (m 100 6)) (wC m ln L p) := by unfold tC; rw [if_neg ho]
        rw [← et]
        have em : zmC (zpr (zpr m 129 f) 100 (zrw (m 100) 46 x)) p (wC m ln L p) (tC m ln L p) = zpr (zpr m 129 (zrw f p (wC m ln L p))) 100 (zrw (m 100) 46 (x + tC m ln L p)) := by
          unfold zmC
          rw [e129, zpr_at, zrw_at]
          funext a
          simp only [zpr]
          by_cases a1 : a = 100
          · subst a1
            simp only [reduceIte, if_true]
            funext k
            rw [zrw_if, zrw_if, zrw_if]
            split <;> rfl
          · by_cases a2 : a = 129
            · subst a2; simp
            · simp [a1, a2]
        rw [em]
        refine ih2 (zrw f p (wC m ln L p), _) (fun q q0 q1 h => ?_)
        dsimp only
        by_cases eq : q = p
        · subst eq; rw [zrw_at]
        · rw [zrw_ne eq]; exact hI q q0 (by omega) h
    · intro ⟨f, l2⟩ ⟨p0, hI⟩
      dsimp only at hI ⊢
      have C2 := tz_mgC2 (R := R) hM (hV1 f (zsum (tC m ln L) (mN m).toNat)) (l2 := l2)
      rw [eN] at C2
      rw [C2]
      exact hX f l2 hI
  have e00 : zpr (zpr m 129 (m 129)) 100 (zrw (m 100) 46 0) = m := by
    rw [zpr_self]
    have : zrw (m 100) 46 0 = m 100 := by funext k; rw [zrw_if]; split; · rename_i h; rw [h, h46]
                                          · rfl
    rw [this, zpr_self]
  rw [e00] at key
  exact Classical.byContradiction fun hno => key _ (fun f k2 h1 h2 => hno ⟨f, k2, h2.symm, h1⟩) rfl
/-- those who leave, by plots -/
def lD (m : zM) (ln : Int) (L : Int → Int) (p : Int) : Bool := decide (m 104 p ≠ -4 ∧ zlmt ln.toNat L 4 (m 103 p) (m 100 6) ≠ -4 ∧ m 129 p < zlmt ln.toNat L 4 (m 103 p) (m 100 6))
theorem tz_mpD (hM : MK R) (hV : MV m) (hL : ML m ln L) (ho : ∀ p, 0 ≤ p → p < mN m → m 104 p = -4 ∨ (0 ≤ m 104 p ∧ m 104 p < 20)) (h45 : m 100 45 = 0) (l2 : zV) : ∃ (m' : zM) (k2 : zV), ev 273 252 [(2, 100), (0, 0), l2] [] R m = ev 273 252 [(2, 100), (0, mN m), k2] [] R m' ∧ ME [103, 104, 110, 111] [45] m m' ∧ m' 100 45 = zcnt (lD m ln L) (mN m).toNat ∧ (∀ p, 0 ≤ p → p < mN m → m' 103 p = (if lD m ln L p = true then 0 else m 103 p) ∧ m' 104 p = (if lD m ln L p = true then -4 else m 104 p)) ∧ ∀ s, m' 110 s = (if zany (fun p => lD m ln L p && decide (m 104 p = s)) (mN m).toNat = true then -4 else m 110 s) ∧ m' 111 s = (if zany (fun p => lD m ln L p && decide (m 104 p = s)) (mN m).toNat = true then 1 else m 111 s) := by
  have hN := MV_n hV
  have key : ∀ X : Option zR, (∀ (m' : zM) (k2 : zV), ME [103, 104, 110, 111] [45] m m' → m' 100 45 = zcnt (lD m ln L) (mN m).toNat → (∀ p, 0 ≤ p → p < mN m → m' 103 p = (if lD m ln L p = true then 0 else m 103 p) ∧ m' 104 p = (if lD m ln L p = true then -4 else m 104 p)) → (∀ s, m' 110 s = (if zany (fun p => lD m ln L p && decide (m 104 p = s)) (mN m).toNat = true then -4 else m 110 s) ∧ m' 111 s = (if zany (fun p => lD m ln L p && decide (m 104 p = s)) (mN m).toNat = true then 1 else m 111 s)) → ev 273 252 [(2, 100), (0, mN m), k2] [] R m' ≠ X) → ev 273 252 [(2, 100), (0, 0), l2] [] R m ≠ X := by
    intro X hX
    refine zloop (fun r => r ≠ X) (fun p (a : zM × zV) => ev 273 252 [(2, 100), (0, p), a.2] [] R a.1) (mN m) (fun k a => 0 ≤ k ∧ ME [103, 104, 110, 111] [45] m a.1 ∧ a.1 100 45 = zcnt (lD m ln L) k.toNat ∧ (∀ p, 0 ≤ p → p < mN m → a.1 103 p = (if lD m ln L p = true ∧ p < k then 0 else m 103 p) ∧ a.1 104 p = (if lD m ln L p = true ∧ p < k then -4 else m 104 p)) ∧ ∀ s, a.1 110 s = (if zany (fun p => lD m ln L p && decide (m 104 p = s)) k.toNat = true then -4 else m 110 s) ∧ a.1 111 s = (if zany (fun p => lD m ln L p && decide (m 104 p = s)) k.toNat = true then 1 else m 111 s)) ?_ ?_ 0 (m, l2) (by omega) ⟨by omega, ME_rf _ _ _, h45, fun p h1 h2 => by rw [if_neg (fun z => absurd z.2 (by omega)), if_neg (fun z => absurd z.2 (by omega))]; exact ⟨rfl, rfl⟩, fun s => by simp [zany]⟩
    · intro p ⟨m1, l2⟩ hp ⟨p0, hf, hc, hI, hJ⟩ ih
      dsimp only at hf hc hI hJ ih ⊢
      have e0 := hf.2 0 (by decide)
      have e1 := hf.2 1 (by decide)
      have e6 := hf.2 6 (by decide)
      have eN : mN m1 = mN m := mN_e e0 e1
      have hV1 : MV m1 := MV_ME hf (by decide) (by decide) (fun q q0 q1 => by
        rw [(hI q q0 q1).1]
        split
        · omega
        · exact (hV.2.2 q q0 q1).2.2) hV
      have hL1 : ML m1 ln L := ML_e (hf.2 8 (by decide)) (hf.1 105 (by decide) (by decide)) hL
      have e129 := hf.1 129 (by decide) (by decide)
      have hIp := hI p p0 hp
      rw [if_neg (fun z => absurd z.2 (by omega)), if_neg (fun z => absurd z.2 (by omega))] at hIp
      have cb := zcnt_bd (lD m ln L) p.toNat
      have ih2 := fun a h => ih a ⟨by omega, h⟩
      simp only [zcnt_step _ p0, zany_step _ p0] at ih2
      have skip : lD m ln L p = false → ∀ k2 : zV, ev 273 252 [(2, 100), (0, p + 1), k2] [] R m1 ≠ X := by
        intro hz k2
        refine ih2 (m1, k2) ⟨hf, by simp [hz, hc], fun q q0 q1 => ?_, fun s => ?_⟩
        · dsimp only
          have := hI q q0 q1
          rw [this.1, this.2]
          have e3 : (lD m ln L q = true ∧ q < p) ↔ (lD m ln L q = true ∧ q < p + 1) := by
            by_cases e : q = p
            · subst e; simp [hz]
            · constructor <;> (intro h; exact ⟨h.1, by omega⟩)
          simp only [e3, and_self]
        · dsimp only
          have := hJ s
          rw [this.1, this.2, hz]
          simp
      by_cases hq : m 104 p = -4
      · rw [tz_mgD0 hM hV1 (by rw [eN]; exact ⟨p0, hp⟩) (by rw [hIp.2, hq])]
        exact skip (by unfold lD; simp [hq]) _
      · have hq2 : 0 ≤ m 104 p ∧ m 104 p < 20 := by rcases ho p p0 hp with h | h <;> omega
        by_cases hl : zlmt ln.toNat L 4 (m 103 p) (m 100 6) ≠ -4 ∧ m 129 p < zlmt ln.toNat L 4 (m 103 p) (m 100 6)
        · have hz : lD m ln L p = true := by unfold lD; rw [decide_eq_true_eq]; exact ⟨hq, hl⟩
          rw [tz_mgD2 hM hV1 hL1 (by rw [eN]; exact ⟨p0, hp⟩) (by rw [hIp.2]; exact hq2) (by rw [hIp.1, e6]) (by rw [e129]; exact hl) (by rw [hc]; omega)]
          obtain ⟨w111, w110, w104, w103, w100, ww⟩ := zmD_rows m1 p
          refine ih2 (zmD m1 p, _) ⟨⟨fun a ha hb => ?_, fun k hk => ?_⟩, ?_, fun q q0 q1 => ?_, fun s => ?_⟩
          · dsimp only
            have h1 := hf.1 a ha hb
            simp only [List.mem_cons, List.not_mem_nil, or_false, not_or] at ha
            rw [ww a hb ha.1 ha.2.1 ha.2.2.1 ha.2.2.2, h1]
          · dsimp only
            rw [w100, zrw_ne (by simpa using hk)]
            exact hf.2 k hk
          · dsimp only
            rw [w100, zrw_at, hc]
            simp [hz]
          · dsimp only
            rw [w103, w104, zrw_if, zrw_if, (hI q q0 q1).1, (hI q q0 q1).2]
            by_cases e : q = p
            · subst e
              rw [if_pos rfl, if_pos rfl, if_pos ⟨hz, by omega⟩, if_pos ⟨hz, by omega⟩]
              exact ⟨rfl, rfl⟩
            · rw [if_neg e, if_neg e]
              have e3 : (lD m ln L q = true ∧ q < p) ↔ (lD m ln L q = true ∧ q < p + 1) := by
                constructor <;> (intro h; exact ⟨h.1, by omega⟩)
              simp only [e3, and_self]
          · dsimp only
            rw [w110, w111, zrw_if, zrw_if, (hJ s).1, (hJ s).2, hIp.2, hz]
            by_cases e : s = m 104 p
            · rw [if_pos e, if_pos e, if_pos (by simp [e]), if_pos (by simp [e])]
              exact ⟨rfl, rfl⟩
            · rw [if_neg e, if_neg e]
              have : ¬ m 104 p = s := fun h => e h.symm
              simp [this]
        · rw [tz_mgD1 hM hV1 hL1 (by rw [eN]; exact ⟨p0, hp⟩) (by rw [hIp.2]; exact hq) (by rw [hIp.1, e6]) (by rw [e129]; exact hl)]
          exact skip (by unfold lD; rw [decide_eq_false_iff_not]; exact fun z => hl z.2) _
    · intro ⟨m1, l2⟩ ⟨p0, hf, hc, hI, hJ⟩
      dsimp only at hf hc hI hJ ⊢
      refine hX m1 l2 hf hc (fun p h1 h2 => ?_) hJ
      have := hI p h1 h2
      rw [this.1, this.2]
      have : (lD m ln L p = true ∧ p < mN m) ↔ lD m ln L p = true := ⟨fun h => h.1, fun h => ⟨h, h2⟩⟩
      simp only [this, and_self]
  exact Classical.byContradiction fun hno => key _ (fun m' k2 h1 h2 h3 h4 h5 => hno ⟨m', k2, h5.symm, h1, h2, h3, h4⟩) rfl
end MGO4
