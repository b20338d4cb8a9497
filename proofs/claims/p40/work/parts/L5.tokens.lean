/-! a text's tokens; a law out of them -/
abbrev yPc : Type := List Int × Int × Int
def ptx (ps : List yPc) : List Int := ps.flatMap (·.1)
def POk (ps : List yPc) : Prop := ∀ p ∈ ps, PcOk p.1 p.2.1 p.2.2
def Toks (f : Int → Int) (n : Int) : Int → List yPc → Prop
  | _, [] => True
  | j, p :: r => (zkd f n j = p.2.1 ∧ zva f n j = p.2.2) ∧ Toks f n (j + 1) r
theorem ptx_c (p : yPc) (ps : List yPc) : ptx (p :: ps) = p.1 ++ ptx ps := rfl
theorem ptx_app (a b : List yPc) : ptx (a ++ b) = ptx a ++ ptx b := List.flatMap_append
theorem toks_of {f : Int → Int} {n : Int} : ∀ (ps : List yPc) (j s : Int), POk ps → 0 ≤ j → zsj f n j = s → 0 ≤ s → Sp f s (ptx ps) → s + (ptx ps).length ≤ n → (s + (ptx ps).length = n ∨ f (s + (ptx ps).length) ≠ 32) → Toks f n j ps ∧ zsj f n (j + ps.length) = s + (ptx ps).length := by
  intro ps
  induction ps with
  | nil =>
    intro j s _ j0 hs s0 _ _ _
    refine ⟨trivial, ?_⟩
    show zsj f n (j + 0) = s + 0
    rw [Int.add_zero, Int.add_zero, hs]
  | cons p ps ih =>
    intro j s hP j0 hs s0 hS hn hN
    rw [ptx_c] at hS hn hN
    rw [ptx_c]
    obtain ⟨S1, S2⟩ := Sp_app hS
    rw [List.length_append] at hn hN ⊢
    have hp := hP p List.mem_cons_self
    have hnext : s + (p.1.length : Int) = n ∨ f (s + (p.1.length : Int)) ≠ 32 := by
      cases ps with
      | nil =>
        have e : (ptx ([] : List yPc)).length = 0 := rfl
        rw [e, Nat.add_zero] at hN
        exact hN
      | cons q qs =>
        obtain ⟨b, l', hb, hb2⟩ := (hP q (List.mem_cons_of_mem _ List.mem_cons_self)).1
        right
        have := S2 0 (by rw [ptx_c, hb]; simp)
        rw [ptx_c, hb] at this
        have this : f (s + (p.1.length : Int) + 0) = b := this
        rw [Int.add_zero] at this
        rw [this]
        exact hb2
    obtain ⟨h1, h2, h3⟩ := hp.2 f n s s0 (by omega) S1 hnext
    have hk : zkd f n j = p.2.1 := by unfold zkd; rw [show zsT f n j.toNat = s from hs, h1]
    have hv : zva f n j = p.2.2 := by unfold zva; rw [show zsT f n j.toNat = s from hs, h2]
    have hnx : zsj f n (j + 1) = s + (p.1.length : Int) := by
      unfold zsj
      rw [show (j + 1).toNat = j.toNat + 1 by omega]
      show zbh (cB f n) n (zlx f n (zsT f n j.toNat)).2.2 = _
      rw [show zsT f n j.toNat = s from hs, h3]
    obtain ⟨i1, i2⟩ := ih (j + 1) (s + (p.1.length : Int)) (fun q hq => hP q (List.mem_cons_of_mem _ hq)) (by omega) hnx (by omega) S2 (by omega) (by
      rcases hN with hN | hN
      · left; omega
      · right
        rw [show s + (p.1.length : Int) + ((ptx ps).length : Int) = s + ((p.1.length + (ptx ps).length : Nat) : Int) by omega]
        exact hN)
    refine ⟨⟨⟨hk, hv⟩, i1⟩, ?_⟩
    rw [show j + ((p :: ps).length : Int) = j + 1 + (ps.length : Int) by simp only [List.length_cons]; omega, i2]
    omega
/-- the pieces of a law's text -/
def pW1 (i : Int) : yPc := (pcW i, 1, i)
def pN1 (v : Int) : yPc := (pcN v, 2, v)
def pS1 : yPc := ([59], 3, 0)
def pA (K : Int → Int) : List yPc := if K 0 = 0 then [pN1 (K 3), pN1 (K 4), pN1 (K 5), pN1 (K 6)] else if K 0 = 1 then [pW1 (5 + K 3), pN1 (K 4), pN1 (K 5)] else [pN1 (K 3)]
def pB (K : Int → Int) : List yPc := if 0 < K 1 then [pW1 5, pN1 (K 1)] else []
def pK (K : Int → Int) : List yPc := pB K ++ (pW1 (K 0) :: pW1 (5 + K 2) :: (pA K ++ [pS1]))
theorem pK_tx (K : Int → Int) : ptx (pK K) = tx K := by
  unfold pK tx
  rw [ptx_app, ptx_c, ptx_c, ptx_app]
  have e1 : ptx (pB K) = tx1 K := by
    unfold pB tx1
    split
    · show pcW 5 ++ (pcN (K 1) ++ []) = _
      rw [List.append_nil]
    · rfl
  have e2 : ptx (pA K) = la K := by
    unfold pA la
    split
    · show pcN (K 3) ++ (pcN (K 4) ++ (pcN (K 5) ++ (pcN (K 6) ++ []))) = _
      rw [List.append_nil]
    · split
      · show pcW (5 + K 3) ++ (pcN (K 4) ++ (pcN (K 5) ++ [])) = _
        rw [List.append_nil]
      · show pcN (K 3) ++ [] = _
        rw [List.append_nil]
  rw [e1, e2]
  rfl
theorem pA_ok {w h : Int} {K : Int → Int} (hw : w ≤ 4 ∧ h ≤ 4) (hK : LOk w h K) : POk (pA K) := by
  obtain ⟨k0, k1, k2, kz, kw, kn⟩ := hK
  have nn : ∀ v : Int, -999 ≤ v ∧ v ≤ 999 → PcOk (pN1 v).1 (pN1 v).2.1 (pN1 v).2.2 := fun v hv => PcOk_N hv
  have ww : ∀ i : Int, 0 ≤ i ∧ i ≤ 10 → PcOk (pW1 i).1 (pW1 i).2.1 (pW1 i).2.2 := fun v hv => PcOk_W hv
  intro p hp
  unfold pA at hp
  split at hp
  · rename_i c
    have := kz c
    simp only [List.mem_cons, List.not_mem_nil, or_false] at hp
    rcases hp with e | e | e | e <;> subst e <;> exact nn _ (by omega)
  · split at hp
    · rename_i c
      have := kw c
      simp only [List.mem_cons, List.not_mem_nil, or_false] at hp
      rcases hp with e | e | e <;> subst e <;> first | exact ww _ (by omega) | exact nn _ (by omega)
    · have := kn (by omega)
      simp only [List.mem_cons, List.not_mem_nil, or_false] at hp
      subst hp
      exact nn _ (by omega)
theorem pB_ok {K : Int → Int} (h1 : 0 ≤ K 1 ∧ K 1 ≤ 2) : POk (pB K) := by
  intro p hp
  unfold pB at hp
  split at hp
  · simp only [List.mem_cons, List.not_mem_nil, or_false] at hp
    rcases hp with e | e <;> subst e
    · exact PcOk_W (by omega)
    · exact PcOk_N (by omega)
  · cases hp
theorem pK_ok {w h : Int} {K : Int → Int} (hw : w ≤ 4 ∧ h ≤ 4) (hK : LOk w h K) : POk (pK K) := by
  have hA := pA_ok hw hK
  have hB := pB_ok hK.2.1
  intro p hp
  unfold pK at hp
  rcases List.mem_append.mp hp with q | q
  · exact hB p q
  · rcases List.mem_cons.mp q with e | q
    · subst e; exact PcOk_W (by have := hK.1; omega)
    · rcases List.mem_cons.mp q with e | q
      · subst e; exact PcOk_W (by have := hK.2.2.1; omega)
      · rcases List.mem_append.mp q with q | q
        · exact hA p q
        · rcases List.mem_cons.mp q with e | q
          · subst e; exact PcOk_S
          · cases q
/-- the row that the class keeps of a law -/
def rK (K : Int → Int) : Int → Int := fun i => if i = 0 then K 0 else if i = 1 then K 1 else if i = 2 then K 2 else if K 0 = 0 then (if i = 3 then K 3 else if i = 4 then K 4 else if i = 5 then K 5 else if i = 6 then K 6 else 0) else if K 0 = 1 then (if i = 3 then K 3 - 1 else if i = 4 then K 4 else if i = 5 then K 5 else 0) else if i = 3 then K 3 else 0
section PLAW
variable {f : Int → Int} {n j nl : Int} {K L : Int → Int} {w h : Int}
theorem Toks_app {a b : List yPc} : ∀ {j : Int}, Toks f n j (a ++ b) ↔ Toks f n j a ∧ Toks f n (j + a.length) b := by
  induction a with
  | nil => intro j; simp [Toks]
  | cons p a ih =>
    intro j
    simp only [List.cons_append, Toks, ih, List.length_cons]
    rw [show j + 1 + (a.length : Int) = j + ((a.length + 1 : Nat) : Int) by omega]
    constructor
    · rintro ⟨x, y, z⟩; exact ⟨⟨x, y⟩, z⟩
    · rintro ⟨⟨x, y⟩, z⟩; exact ⟨x, y, z⟩
theorem pHd_K (h1 : 0 ≤ K 1 ∧ K 1 ≤ 2) (h0 : 0 ≤ K 0 ∧ K 0 ≤ 4) {rest : List yPc} (hT : Toks f n j (pB K ++ (pW1 (K 0) :: rest))) : (zkd f n j = 1 ∧ 0 ≤ zva f n j ∧ zva f n j ≤ 5) ∧ pHd f n j = .ok (j + (pB K).length, K 1) := by
  unfold pB at hT ⊢
  unfold pHd
  by_cases c : 0 < K 1
  · rw [if_pos c] at hT ⊢
    simp only [List.cons_append, List.nil_append, Toks, pW1, pN1] at hT
    obtain ⟨⟨a1, a2⟩, ⟨b1, b2⟩, -⟩ := hT
    refine ⟨⟨a1, by omega, by omega⟩, ?_⟩
    rw [if_pos a2]
    unfold pN
    rw [if_pos b1, b2, if_pos (by omega)]
    rfl
  · rw [if_neg c] at hT ⊢
    simp only [List.nil_append, Toks, pW1] at hT
    obtain ⟨⟨a1, a2⟩, -⟩ := hT
    refine ⟨⟨a1, by omega, by omega⟩, ?_⟩
    rw [if_neg (by omega), show K 1 = 0 by omega]
    simp
/-- the numbers behind the use -/
theorem pNums_K (hw : 1 ≤ w ∧ w ≤ 4) (hh : 1 ≤ h ∧ h ≤ 4) (hK : LOk w h K) {rest : List yPc} (hT : Toks f n j (pA K ++ rest)) : ∃ r, pNums f n (K 0) j = .ok (j + (pA K).length, r) ∧ ∀ i, 3 ≤ i → i < 7 → r i = rK K i := by
  obtain ⟨k0, k1, k2, kz, kw, kn⟩ := hK
  unfold pA at hT ⊢
  unfold pNums
  by_cases c0 : K 0 = 0
  · rw [if_pos c0] at hT ⊢
    rw [if_pos c0]
    have z := kz c0
    simp only [List.cons_append, List.nil_append, Toks, pN1] at hT
    obtain ⟨⟨a1, a2⟩, ⟨b1, b2⟩, ⟨d1, d2⟩, ⟨e1, e2⟩, -⟩ := hT
    rw [show j + 1 + 1 = j + 2 by omega] at d1 d2 e1 e2
    rw [show j + 2 + 1 = j + 3 by omega] at e1 e2
    have A : pN f n j 0 7 = .ok (K 3) := by unfold pN; rw [if_pos a1, a2, if_pos (by omega)]
    have B : pN f n (j + 1) 0 7 = .ok (K 4) := by unfold pN; rw [if_pos b1, b2, if_pos (by omega)]
    have D : pN f n (j + 2) (K 3) 7 = .ok (K 5) := by unfold pN; rw [if_pos d1, d2, if_pos (by omega)]
    have E : pN f n (j + 3) (K 4) 7 = .ok (K 6) := by unfold pN; rw [if_pos e1, e2, if_pos (by omega)]
    refine ⟨_, by rw [A]; dsimp only; rw [B]; dsimp only; rw [D]; dsimp only; rw [E]; rfl, fun i i0 i1 => ?_⟩
    unfold rK
    rw [if_neg (c := i = 0) (by omega), if_neg (c := i = 1) (by omega), if_neg (c := i = 2) (by omega), if_pos c0]
  · rw [if_neg c0] at hT ⊢
    rw [if_neg c0]
    by_cases c1 : K 0 = 1
    · rw [if_pos c1] at hT ⊢
      rw [if_pos c1]
      have z := kw c1
      simp only [List.cons_append, List.nil_append, Toks, pN1, pW1] at hT
      obtain ⟨⟨a1, a2⟩, ⟨b1, b2⟩, ⟨d1, d2⟩, -⟩ := hT
      rw [show j + 1 + 1 = j + 2 by omega] at d1 d2
      have A : pW f n j 6 10 = .ok (5 + K 3) := by unfold pW; rw [a2, if_pos ⟨a1, by omega, by omega⟩]
      have B : pN f n (j + 1) 1 14 = .ok (K 4) := by unfold pN; rw [if_pos b1, b2, if_pos (by omega)]
      have D : pN f n (j + 2) (-99) 99 = .ok (K 5) := by unfold pN; rw [if_pos d1, d2, if_pos (by omega)]
      refine ⟨_, by rw [A]; dsimp only; rw [B]; dsimp only; rw [D]; rfl, fun i i0 i1 => ?_⟩
      unfold rK
      rw [if_neg (c := i = 0) (by omega), if_neg (c := i = 1) (by omega), if_neg (c := i = 2) (by omega), if_neg c0, if_pos c1]
      split
      · omega
      · rfl
    · rw [if_neg c1] at hT ⊢
      rw [if_neg c1]
      have z := kn (by omega)
      simp only [List.cons_append, List.nil_append, Toks, pN1] at hT
      obtain ⟨⟨a1, a2⟩, -⟩ := hT
      have A : pN f n j 0 (if K 0 = 2 then 100 else if K 0 = 3 then 64 else 999) = .ok (K 3) := by
        unfold pN
        rw [if_pos a1, a2, if_pos]
        refine ⟨z.1, ?_⟩
        split
        · exact z.2.1
        · rename_i c2
          have := z.2.2 c2
          split <;> omega
      refine ⟨_, by rw [A]; rfl, fun i i0 i1 => ?_⟩
      unfold rK
      rw [if_neg (c := i = 0) (by omega), if_neg (c := i = 1) (by omega), if_neg (c := i = 2) (by omega), if_neg c0, if_neg c1]
/-- a law is read as it was written -/
theorem pLaw_K (hw : 1 ≤ w ∧ w ≤ 4) (hh : 1 ≤ h ∧ h ≤ 4) (hK : LOk w h K) (hnl : nl ≠ 12) (htw : ¬ (2 ≤ K 0 ∧ pTold nl L (K 0) (K 2) (K 1) = true)) (hT : Toks f n j (pK K)) : ∃ row, pLaw f n j nl L = .ok (j + (pK K).length, row) ∧ ∀ i, 0 ≤ i → i < 7 → row i = rK K i := by
  have hT0 := hT
  unfold pK at hT
  obtain ⟨⟨x1, x2, x3⟩, H⟩ := pHd_K hK.2.1 hK.1 hT
  obtain ⟨-, T2⟩ := Toks_app.mp hT
  simp only [Toks, pW1] at T2
  obtain ⟨⟨a1, a2⟩, ⟨b1, b2⟩, T3⟩ := T2
  obtain ⟨j1, hj1⟩ : ∃ j1, j + ((pB K).length : Int) = j1 := ⟨_, rfl⟩
  rw [hj1] at a1 a2 b1 b2 T3 H
  obtain ⟨r, N, hr⟩ := pNums_K (f := f) (n := n) hw hh hK T3
  obtain ⟨-, T4⟩ := Toks_app.mp T3
  simp only [Toks, pS1] at T4
  obtain ⟨⟨s1, -⟩, -⟩ := T4
  have W : pW f n j1 0 4 = .ok (K 0) := by unfold pW; rw [a2, if_pos ⟨a1, hK.1.1, hK.1.2⟩]
  have k2 := hK.2.2.1
  have e5 : 5 + K 2 - 5 = K 2 := by omega
  refine ⟨fun i => if i = 0 then K 0 else if i = 1 then K 1 else if i = 2 then K 2 else r i, ?_, fun i i0 i1 => ?_⟩
  · unfold pLaw
    rw [if_pos ⟨x1, x2, x3⟩, if_neg hnl, H]
    dsimp only
    rw [W]
    dsimp only
    unfold pTl
    rw [b2, e5, if_pos ⟨b1, by omega, by omega⟩, if_neg htw, N]
    dsimp only
    rw [if_pos s1]
    congr 2
    unfold pK
    simp only [List.length_append, List.length_cons, List.length_nil]
    omega
  · show (if i = 0 then K 0 else if i = 1 then K 1 else if i = 2 then K 2 else r i) = rK K i
    by_cases c0 : i = 0
    · rw [if_pos c0]; unfold rK; rw [if_pos c0]
    · rw [if_neg c0]
      by_cases c1 : i = 1
      · rw [if_pos c1]; unfold rK; rw [if_neg c0, if_pos c1]
      · rw [if_neg c1]
        by_cases c2 : i = 2
        · rw [if_pos c2]; unfold rK; rw [if_neg c0, if_neg c1, if_pos c2]
        · rw [if_neg c2]; exact hr i (by omega) i1
end PLAW
