/-! the model: a year goes, whole -/
def oA (m : zM) (Q : zP) (p : Int) : Int := if 0 ≤ Q.2.2 p then Q.2.2 p else m 104 p
def uA (m : zM) (Q : zP) (p : Int) : Int := if 0 ≤ Q.2.2 p then m 106 (Q.2.2 p) else m 103 p
def pA (m : zM) (Q : zP) (s : Int) : Int := if 0 ≤ Q.1 s then Q.1 s else m 110 s
def mW (m : zM) (ln : Int) (L : Int → Int) (Q : zP) (p : Int) : Int := zworth (mN m) (m 100 0) ln (m 100 6) (m 101) (uA m Q) L p (uA m Q p)
def mLv (m : zM) (ln : Int) (L : Int → Int) (Q : zP) (p : Int) : Bool := decide (oA m Q p ≠ -4 ∧ zlmt ln.toNat L 4 (uA m Q p) (m 100 6) ≠ -4 ∧ mW m ln L Q p < zlmt ln.toNat L 4 (uA m Q p) (m 100 6))
def mTf (m : zM) (ln : Int) (L : Int → Int) (Q : zP) (p : Int) : Int := if oA m Q p = -4 then 0 else mtax (zlmt ln.toNat L 2 (uA m Q p) (m 100 6)) (mW m ln L Q p)
/-- memories alike but for rows of a list and places of the model's own row -/
def ME (rs ks : List Int) (m m' : zM) : Prop := (∀ a, a ∉ rs → a ≠ 100 → m' a = m a) ∧ ∀ k, k ∉ ks → m' 100 k = m 100 k
theorem ME_rf (rs ks : List Int) (m : zM) : ME rs ks m m := ⟨fun _ _ _ => rfl, fun _ _ => rfl⟩
theorem ME_tr {rs ks : List Int} {m m' m'' : zM} (h1 : ME rs ks m m') (h2 : ME rs ks m' m'') : ME rs ks m m'' := ⟨fun a ha hb => (h2.1 a ha hb).trans (h1.1 a ha hb), fun k hk => (h2.2 k hk).trans (h1.2 k hk)⟩
theorem ME_mono {rs ks rs' ks' : List Int} {m m' : zM} (h : ME rs ks m m') (hr : ∀ a ∈ rs, a ∈ rs') (hk : ∀ k ∈ ks, k ∈ ks') : ME rs' ks' m m' := ⟨fun a ha hb => h.1 a (fun z => ha (hr a z)) hb, fun k hk' => h.2 k (fun z => hk' (hk k z))⟩
theorem MV_ME {rs ks : List Int} {m m' : zM} (h : ME rs ks m m') (hr : 101 ∉ rs ∧ 102 ∉ rs) (hk : 0 ∉ ks ∧ 1 ∉ ks) (h3 : ∀ p, 0 ≤ p → p < mN m → 0 ≤ m' 103 p ∧ m' 103 p ≤ 3) (hV : MV m) : MV m' := MV_e (h.2 0 hk.1) (h.2 1 hk.2) (h.1 101 hr.1 (by decide)) (h.1 102 hr.2 (by decide)) h3 hV
section MGO3
variable {R m : zM} {ln nc : Int} {L : Int → Int}
theorem tz_mpA (hM : MK R) {n : Int} {wt : Int → Bool} {ca : Int → Int → Bool} {pu : Int → Int} {va : Int → Int → Int} {Q : zP} (hS : MIn m n nc wt ca pu va) (hC : MS m nc Q) (hP : zPI n nc Q) (h44 : m 100 44 = 0) (l2 : zV) : ∃ (m' : zM) (k2 : zV), ev 273 21 [(2, 100), (0, 0), l2] [] R m = ev 273 96 [(2, 100), (0, 0), k2] [] R m' ∧ ME [104, 110, 112, 113] [44] m m' ∧ m' 100 44 = zcnt (fun s => decide (0 ≤ Q.1 s)) nc.toNat ∧ (∀ p, 0 ≤ p → p < n → m' 104 p = oA m Q p) ∧ ∀ s, 0 ≤ s → s < nc → m' 110 s = pA m Q s ∧ m' 112 s = (if 0 ≤ Q.1 s then zbid pu va s (Q.1 s) else m 112 s) ∧ m' 113 s = (if 0 ≤ Q.1 s then m 100 6 else m 113 s) := by
  have hV := hS.1
  have hN := MV_n hV
  have hn := hS.2.1
  have hnc := hS.2.2.1
  have h20 := hS.2.2.2.1
  have key : ∀ X : Option zR, (∀ (m' : zM) (k2 : zV), ME [104, 110, 112, 113] [44] m m' → m' 100 44 = zcnt (fun s => decide (0 ≤ Q.1 s)) nc.toNat → (∀ p, 0 ≤ p → p < n → m' 104 p = oA m Q p) → (∀ s, 0 ≤ s → s < nc → m' 110 s = pA m Q s ∧ m' 112 s = (if 0 ≤ Q.1 s then zbid pu va s (Q.1 s) else m 112 s) ∧ m' 113 s = (if 0 ≤ Q.1 s then m 100 6 else m 113 s)) → ev 273 96 [(2, 100), (0, 0), k2] [] R m' ≠ X) → ev 273 21 [(2, 100), (0, 0), l2] [] R m ≠ X := by
    intro X hX
    refine zloop (fun r => r ≠ X) (fun s (a : zM × zV) => ev 273 21 [(2, 100), (0, s), a.2] [] R a.1) nc (fun k a => 0 ≤ k ∧ ME [104, 110, 112, 113] [44] m a.1 ∧ a.1 100 44 = zcnt (fun s => decide (0 ≤ Q.1 s)) k.toNat ∧ (∀ p, 0 ≤ p → p < n → a.1 104 p = if 0 ≤ Q.2.2 p ∧ Q.2.2 p < k then Q.2.2 p else m 104 p) ∧ ∀ s, 0 ≤ s → s < nc → a.1 110 s = (if 0 ≤ Q.1 s ∧ s < k then Q.1 s else m 110 s) ∧ a.1 112 s = (if 0 ≤ Q.1 s ∧ s < k then zbid pu va s (Q.1 s) else m 112 s) ∧ a.1 113 s = (if 0 ≤ Q.1 s ∧ s < k then m 100 6 else m 113 s)) ?_ ?_ 0 (m, l2) (by omega) ⟨by omega, ME_rf _ _ _, h44, fun p h1 h2 => by rw [if_neg (by omega)], fun s h1 h2 => by rw [if_neg (by omega), if_neg (by omega), if_neg (by omega)]; exact ⟨rfl, rfl, rfl⟩⟩
    · intro s ⟨m1, l2⟩ hs ⟨hs0, hf, hc, hI, hJ⟩ ih
      dsimp only at hf hc hI hJ ih ⊢
      have hh := hC.1 s hs0 hs
      have e125 : m1 125 = m 125 := hf.1 125 (by decide) (by decide)
      have e10 : m1 100 10 = m 100 10 := hf.2 10 (by decide)
      have cb := zcnt_bd (fun s => decide (0 ≤ Q.1 s)) s.toNat
      have ih2 := fun a h => ih a ⟨by omega, h⟩
      rw [zcnt_step _ hs0] at ih2
      by_cases hq : 0 ≤ Q.1 s
      · have hPs : Q.1 s < n ∧ Q.2.2 (Q.1 s) = s := by rcases hP.1 s hs0 hs with h | h <;> omega
        have hV1 := MV_ME hf (by decide) (by decide) (fun q q0 q1 => by rw [hf.1 103 (by decide) (by decide)]; exact (hV.2.2 q q0 q1).2.2) hV
        have hS1 := MIn_w hV1 (hf.2 0 (by decide)) (hf.2 1 (by decide)) (hf.2 10 (by decide)) (hf.1 102 (by decide) (by decide)) (hf.1 106 (by decide) (by decide)) (hf.1 107 (by decide) (by decide)) (hf.1 108 (by decide) (by decide)) (hf.1 127 (by decide) (by decide)) (hf.1 128 (by decide) (by decide)) hS
        rw [tz_mgA1 hM hV1 hS1 ⟨hs0, hs⟩ (by rw [e125, hh]) ⟨hq, hPs.1⟩ (by rw [hc]; omega)]
        obtain ⟨w100, w110, w112, w113, w104, ww⟩ := zmA_rows m1 s (Q.1 s) (zbid pu va s (Q.1 s))
        refine ih2 (zmA m1 s (Q.1 s) (zbid pu va s (Q.1 s)), _) ⟨⟨fun a ha hb => ?_, fun k hk => ?_⟩, ?_, ?_, ?_⟩
        · dsimp only
          have h1 := hf.1 a ha hb
          simp only [List.mem_cons, List.not_mem_nil, or_false, not_or] at ha
          rw [ww a hb ha.1 ha.2.1 ha.2.2.1 ha.2.2.2, h1]
        · dsimp only
          rw [w100, zrw_ne (by simpa using hk)]
          exact hf.2 k hk
        · dsimp only
          rw [w100, zrw_at, hc]
          simp [hq]
        · intro p h1 h2
          dsimp only
          rw [w104, zrw_if, hI p h1 h2]
          by_cases e : p = Q.1 s
          · rw [if_pos e, e, hPs.2, if_pos ⟨hs0, by omega⟩]
          · rw [if_neg e]
            by_cases e2 : 0 ≤ Q.2.2 p ∧ Q.2.2 p < s
            · rw [if_pos e2, if_pos (by omega)]
            · rw [if_neg e2, if_neg]
              intro e3
              have e4 : Q.2.2 p = s := by omega
              rcases hP.2 p with h | ⟨-, -, -, -, h⟩
              · omega
              · rw [e4] at h; exact e h.symm
        · intro q h1 h2
          dsimp only
          rw [w110, w112, w113]
          have := hJ q h1 h2
          by_cases e : q = s
          · subst e
            rw [zrw_at, zrw_at, zrw_at, if_pos ⟨hq, by omega⟩, if_pos ⟨hq, by omega⟩, if_pos ⟨hq, by omega⟩, hf.2 6 (by decide)]
            exact ⟨rfl, rfl, rfl⟩
          · rw [zrw_ne e, zrw_ne e, zrw_ne e, this.1, this.2.1, this.2.2]
            have e3 : (0 ≤ Q.1 q ∧ q < s) ↔ (0 ≤ Q.1 q ∧ q < s + 1) := by omega
            simp only [e3, and_self]
      · have hq4 : Q.1 s = -4 := by rcases hP.1 s hs0 hs with h | h <;> omega
        rw [tz_mgA0 hM (by rw [e10]; exact hnc) h20.2 ⟨hs0, hs⟩ (by rw [e125, hh, hq4])]
        refine ih2 (m1, _) ⟨hf, by dsimp only; rw [hc]; simp [hq], ?_, ?_⟩
        · intro p h1 h2
          dsimp only
          rw [hI p h1 h2]
          by_cases e2 : 0 ≤ Q.2.2 p ∧ Q.2.2 p < s
          · rw [if_pos e2, if_pos (by omega)]
          · rw [if_neg e2, if_neg]
            intro e3
            have e4 : Q.2.2 p = s := by omega
            rcases hP.2 p with h | ⟨h5, -, -, -, h⟩
            · omega
            · rw [e4] at h; omega
        · intro q h1 h2
          dsimp only
          have := hJ q h1 h2
          rw [this.1, this.2.1, this.2.2]
          have e3 : (0 ≤ Q.1 q ∧ q < s) ↔ (0 ≤ Q.1 q ∧ q < s + 1) := by
            by_cases e : q = s
            · subst e; omega
            · omega
          simp only [e3, and_self]
    · intro ⟨m1, l2⟩ ⟨hs0, hf, hc, hI, hJ⟩
      dsimp only at hf hc hI hJ ⊢
      rw [tz_mgA2 hM (by rw [hf.2 10 (by decide)]; exact hnc)]
      refine hX m1 l2 hf hc (fun p h1 h2 => ?_) (fun s h1 h2 => ?_)
      · rw [hI p h1 h2]
        unfold oA
        have : (0 ≤ Q.2.2 p ∧ Q.2.2 p < nc) ↔ 0 ≤ Q.2.2 p := by rcases hP.2 p with h | h <;> omega
        simp only [this]
      · have := hJ s h1 h2
        rw [this.1, this.2.1, this.2.2]
        unfold pA
        have : (0 ≤ Q.1 s ∧ s < nc) ↔ 0 ≤ Q.1 s := by omega
        simp only [this, and_self]
  exact Classical.byContradiction fun hno => key _ (fun m' k2 h1 h2 h3 h4 h5 => hno ⟨m', k2, h5.symm, h1, h2, h3, h4⟩) rfl
end MGO3
