/-! all laws of a text; texts whose last number is gone -/
def txs (KK : Nat → Int → Int) : Nat → List Int
  | 0 => []
  | i + 1 => txs KK i ++ tx (KK i)
def pKs (KK : Nat → Int → Int) : Nat → List yPc
  | 0 => []
  | i + 1 => pKs KK i ++ pK (KK i)
theorem pKs_tx (KK : Nat → Int → Int) (N : Nat) : ptx (pKs KK N) = txs KK N := by
  induction N with
  | zero => rfl
  | succ N ih => rw [pKs, txs, ptx_app, ih, pK_tx]
section PALLK
variable {f : Int → Int} {n w h : Int} {KK : Nat → Int → Int} {N : Nat}
theorem pKs_ok (hw : w ≤ 4 ∧ h ≤ 4) (hK : ∀ i, i < N → LOk w h (KK i)) : POk (pKs KK N) := by
  induction N with
  | zero => intro p hp; cases hp
  | succ N ih =>
    intro p hp
    rw [pKs] at hp
    rcases List.mem_append.mp hp with q | q
    · exact ih (fun i hi => hK i (by omega)) p q
    · exact pK_ok hw (hK N (by omega)) p q
theorem Toks_i : ∀ N : Nat, Toks f n 0 (pKs KK N) → ∀ i, i < N → Toks f n (pKs KK i).length (pK (KK i)) := by
  intro N
  induction N with
  | zero => intro _ i hi; omega
  | succ N ih =>
    intro hT i hi
    rw [pKs, Toks_app] at hT
    by_cases e : i = N
    · subst e
      have := hT.2
      rw [Int.zero_add] at this
      exact this
    · exact ih hT.1 i (by omega)
theorem zsj_0 (hn : 0 ≤ n) (h0 : n = 0 ∨ f 0 ≠ 32) : zsj f n 0 = 0 := by
  show zbh (cB f n) n 0 = 0
  exact zbh_here (Int.le_refl _) hn (by omega)
theorem zkd_end {j : Int} (h : zsj f n j = n) : zkd f n j = 0 := by
  unfold zkd
  rw [show zsT f n j.toNat = n from h]
  unfold zlx
  rw [if_pos (Int.le_refl _)]
theorem txs_0 (hw : w ≤ 4 ∧ h ≤ 4) (hK : ∀ i, i < N → LOk w h (KK i)) (hS : Sp f 0 (txs KK N)) (hn : n = (txs KK N).length) : n = 0 ∨ f 0 ≠ 32 := by
  have hP := pKs_ok hw hK
  have ht := pKs_tx KK N
  cases hc : pKs KK N with
  | nil =>
    rw [hc] at ht
    left
    rw [hn, ← ht]
    rfl
  | cons p ps =>
    right
    rw [hc] at hP ht
    obtain ⟨b, l', hb, hb2⟩ := (hP p List.mem_cons_self).1
    rw [ptx_c, hb] at ht
    have := hS 0 (by rw [← ht]; simp)
    rw [← ht] at this
    have this : f (0 + 0) = b := this
    rw [Int.add_zero] at this
    rw [this]
    exact hb2
theorem pAll_go (hw : 1 ≤ w ∧ w ≤ 4) (hh : 1 ≤ h ∧ h ≤ 4) (hK : ∀ i, i < N → LOk w h (KK i)) (hN : N ≤ 11) (htw : ∀ i, i < N → 2 ≤ KK i 0 → ∀ j, j < i → ¬ (KK j 0 = KK i 0 ∧ KK j 1 = KK i 1 ∧ KK j 2 = KK i 2)) (hT : Toks f n 0 (pKs KK N)) (hE : zkd f n (pKs KK N).length = 0) : ∀ (d i k : Nat) (L : Int → Int), i + d = N → d < k → (∀ j : Nat, j < i → ∀ q : Int, 0 ≤ q → q < 7 → L (7 * (j : Int) + q) = rK (KK j) q) → ∃ L' : Int → Int, pAll f n k (pKs KK i).length (i : Int) L = .ok ((N : Int), L') ∧ ∀ j : Nat, j < N → ∀ q : Int, 0 ≤ q → q < 7 → L' (7 * (j : Int) + q) = rK (KK j) q := by
  intro d
  induction d with
  | zero =>
    intro i k L hi hk hL
    have e : i = N := by omega
    subst e
    obtain ⟨k', rfl⟩ : ∃ k', k = k' + 1 := ⟨k - 1, by omega⟩
    refine ⟨L, ?_, hL⟩
    unfold pAll
    rw [if_pos hE]
  | succ d ih =>
    intro i k L hi hk hL
    obtain ⟨k', rfl⟩ : ∃ k', k = k' + 1 := ⟨k - 1, by omega⟩
    have hiN : i < N := by omega
    have hTi := Toks_i N hT i hiN
    have hKi := hK i hiN
    have htold : ¬ (2 ≤ KK i 0 ∧ pTold (i : Int) L (KK i 0) (KK i 2) (KK i 1) = true) := by
      rintro ⟨h2, ht⟩
      unfold pTold at ht
      rw [zany_iff] at ht
      obtain ⟨q, q0, q1, q2⟩ := ht
      have q2 := of_decide_eq_true q2
      have q1 : q < i := by omega
      have a0 := hL q.toNat (by omega) 0 (by decide) (by decide)
      have a1 := hL q.toNat (by omega) 1 (by decide) (by decide)
      have a2 := hL q.toNat (by omega) 2 (by decide) (by decide)
      rw [Int.toNat_of_nonneg q0] at a0 a1 a2
      rw [Int.add_zero] at a0
      have r0 : rK (KK q.toNat) 0 = KK q.toNat 0 := rfl
      have r1 : rK (KK q.toNat) 1 = KK q.toNat 1 := rfl
      have r2 : rK (KK q.toNat) 2 = KK q.toNat 2 := rfl
      rw [r0] at a0; rw [r1] at a1; rw [r2] at a2
      exact htw i hiN h2 q.toNat (by omega) ⟨by rw [← a0]; exact q2.1, by rw [← a1]; exact q2.2.2, by rw [← a2]; exact q2.2.1⟩
    obtain ⟨row, hrow, hr⟩ := pLaw_K (f := f) (n := n) (L := L) (nl := (i : Int)) hw hh hKi (by omega) htold hTi
    have hlen : ((pKs KK i).length : Int) + ((pK (KK i)).length : Int) = ((pKs KK (i + 1)).length : Int) := by
      rw [pKs, List.length_append]
      omega
    have hk1 : zkd f n (pKs KK i).length ≠ 0 := by
      have := (pHd_K (f := f) (n := n) hKi.2.1 hKi.1 (by unfold pK at hTi; exact hTi)).1.1
      omega
    rw [hlen] at hrow
    obtain ⟨L', e1, e2⟩ := ih (i + 1) k' (zr7 L i row) (by omega) (by omega) (fun j hj q q0 q1 => by
      by_cases e : j = i
      · subst e
        rw [zr7_r q0 q1]
        exact hr q q0 q1
      · rw [zr7_o q0 q1 (by omega)]
        exact hL j (by omega) q q0 q1)
    refine ⟨L', ?_, e2⟩
    rw [show ((i + 1 : Nat) : Int) = (i : Int) + 1 by omega] at e1
    unfold pAll
    rw [if_neg hk1, hrow]
    exact e1
/-- the laws of a text are read as they were written -/
theorem pAll_K (hw : 1 ≤ w ∧ w ≤ 4) (hh : 1 ≤ h ∧ h ≤ 4) (hK : ∀ i, i < N → LOk w h (KK i)) (hN : N ≤ 11) (htw : ∀ i, i < N → 2 ≤ KK i 0 → ∀ j, j < i → ¬ (KK j 0 = KK i 0 ∧ KK j 1 = KK i 1 ∧ KK j 2 = KK i 2)) (hS : Sp f 0 (txs KK N)) (hn : n = (txs KK N).length) (L : Int → Int) : ∃ L' : Int → Int, pAll f n 322 0 0 L = .ok ((N : Int), L') ∧ ∀ j : Nat, j < N → ∀ q : Int, 0 ≤ q → q < 7 → L' (7 * (j : Int) + q) = rK (KK j) q := by
  have hP := pKs_ok ⟨hw.2, hh.2⟩ hK
  have h0 := txs_0 ⟨hw.2, hh.2⟩ hK hS hn
  obtain ⟨T, E⟩ := toks_of (f := f) (n := n) (pKs KK N) 0 0 hP (Int.le_refl _) (zsj_0 (by omega) h0) (Int.le_refl _) (by rw [pKs_tx]; exact hS) (by rw [pKs_tx]; omega) (Or.inl (by rw [pKs_tx]; omega))
  rw [Int.zero_add, Int.zero_add, pKs_tx, ← hn] at E
  exact pAll_go hw hh hK hN htw T (zkd_end E) N 0 322 L (by omega) (by omega) (fun j hj => by omega)
end PALLK
/-- a law's text up to its last number -/
def pM (K : Int → Int) : List yPc := pB K ++ (pW1 (K 0) :: pW1 (5 + K 2) :: (pA K).dropLast)
def lastv (K : Int → Int) : Int := if K 0 = 0 then K 6 else if K 0 = 1 then K 5 else K 3
theorem pA_last (K : Int → Int) : pA K = (pA K).dropLast ++ [pN1 (lastv K)] := by
  unfold pA lastv
  split
  · rfl
  · split <;> rfl
theorem tx_M (K : Int → Int) : tx K = ptx (pM K) ++ (pcN (lastv K) ++ [59]) := by
  rw [← pK_tx]
  unfold pK pM
  rw [pA_last K]
  have e : (pA K).dropLast ++ [pN1 (lastv K)] ++ [pS1] = (pA K).dropLast ++ ([pN1 (lastv K), pS1]) := by rw [List.append_assoc]; rfl
  rw [e]
  have e2 : (((pA K).dropLast ++ [pN1 (lastv K)]).dropLast) = (pA K).dropLast := by rw [List.dropLast_concat]
  rw [e2]
  simp only [ptx_app, ptx_c, List.append_assoc]
  rfl
theorem lastv_ok {w h : Int} {K : Int → Int} (hw : w ≤ 4 ∧ h ≤ 4) (hK : LOk w h K) : -999 ≤ lastv K ∧ lastv K ≤ 999 := by
  obtain ⟨k0, k1, k2, kz, kw, kn⟩ := hK
  unfold lastv
  split
  · rename_i c; have := kz c; omega
  · split
    · rename_i c; have := kw c; omega
    · have := kn (by omega); omega
theorem pM_ok {w h : Int} {K : Int → Int} (hw : w ≤ 4 ∧ h ≤ 4) (hK : LOk w h K) : POk (pM K) := by
  have h1 := pK_ok hw hK
  intro p hp
  apply h1
  unfold pM at hp
  unfold pK
  rcases List.mem_append.mp hp with q | q
  · exact List.mem_append.mpr (Or.inl q)
  · apply List.mem_append.mpr
    right
    rcases List.mem_cons.mp q with q | q
    · exact List.mem_cons.mpr (Or.inl q)
    · apply List.mem_cons_of_mem
      rcases List.mem_cons.mp q with q | q
      · exact List.mem_cons.mpr (Or.inl q)
      · exact List.mem_cons_of_mem _ (List.mem_append.mpr (Or.inl ((List.dropLast_sublist _).subset q)))
section PMISS
variable {f : Int → Int} {n j w h : Int} {K L : Int → Int}
theorem pNums_M (hw : 1 ≤ w ∧ w ≤ 4) (hh : 1 ≤ h ∧ h ≤ 4) (hK : LOk w h K) (hT : Toks f n j (pA K).dropLast) (hm : zkd f n (j + (pA K).dropLast.length) ≠ 2) : pNums f n (K 0) j = .error (pF f n (j + (pA K).dropLast.length) 2) := by
  obtain ⟨k0, k1, k2, kz, kw, kn⟩ := hK
  unfold pA at hT hm ⊢
  unfold pNums
  have M : ∀ j lo hi : Int, zkd f n j ≠ 2 → pN f n j lo hi = .error (pF f n j 2) := fun j lo hi hm => by unfold pN; rw [if_neg hm]
  by_cases c0 : K 0 = 0
  · rw [if_pos c0] at hT hm ⊢
    rw [if_pos c0]
    have z := kz c0
    simp only [List.dropLast, Toks, pN1, List.length_cons, List.length_nil] at hT hm ⊢
    obtain ⟨⟨a1, a2⟩, ⟨b1, b2⟩, ⟨d1, d2⟩, -⟩ := hT
    rw [show j + 1 + 1 = j + 2 by omega] at d1 d2
    have A : pN f n j 0 7 = .ok (K 3) := by unfold pN; rw [if_pos a1, a2, if_pos (by omega)]
    have B : pN f n (j + 1) 0 7 = .ok (K 4) := by unfold pN; rw [if_pos b1, b2, if_pos (by omega)]
    have D : pN f n (j + 2) (K 3) 7 = .ok (K 5) := by unfold pN; rw [if_pos d1, d2, if_pos (by omega)]
    have e3 : j + ((0 + 1 + 1 + 1 : Nat) : Int) = j + 3 := by omega
    rw [e3] at hm ⊢
    rw [A]; dsimp only; rw [B]; dsimp only; rw [D]; dsimp only; rw [M _ _ _ hm]
  · rw [if_neg c0] at hT hm ⊢
    rw [if_neg c0]
    by_cases c1 : K 0 = 1
    · rw [if_pos c1] at hT hm ⊢
      rw [if_pos c1]
      have z := kw c1
      simp only [List.dropLast, Toks, pN1, pW1, List.length_cons, List.length_nil] at hT hm ⊢
      obtain ⟨⟨a1, a2⟩, ⟨b1, b2⟩, -⟩ := hT
      have A : pW f n j 6 10 = .ok (5 + K 3) := by unfold pW; rw [a2, if_pos ⟨a1, by omega, by omega⟩]
      have B : pN f n (j + 1) 1 14 = .ok (K 4) := by unfold pN; rw [if_pos b1, b2, if_pos (by omega)]
      have e3 : j + ((0 + 1 + 1 : Nat) : Int) = j + 2 := by omega
      rw [e3] at hm ⊢
      rw [A]; dsimp only; rw [B]; dsimp only; rw [M _ _ _ hm]
    · rw [if_neg c1] at hT hm ⊢
      rw [if_neg c1]
      simp only [List.dropLast, List.length_nil] at hm ⊢
      have e3 : j + ((0 : Nat) : Int) = j := by omega
      rw [e3] at hm ⊢
      rw [M _ _ _ hm]
theorem pAll_M (hw : 1 ≤ w ∧ w ≤ 4) (hh : 1 ≤ h ∧ h ≤ 4) (hK : LOk w h K) (hT : Toks f n 0 (pM K)) (hm : zkd f n (pM K).length ≠ 2) : pAll f n 322 0 0 L = .error (pF f n (pM K).length 2) := by
  have hT0 := hT
  unfold pM at hT
  obtain ⟨⟨x1, x2, x3⟩, H⟩ := pHd_K (f := f) (n := n) hK.2.1 hK.1 hT
  obtain ⟨-, T2⟩ := Toks_app.mp hT
  simp only [Toks, pW1] at T2
  obtain ⟨⟨a1, a2⟩, ⟨b1, b2⟩, T3⟩ := T2
  rw [Int.zero_add] at H a1 a2 b1 b2 T3
  obtain ⟨j1, hj1⟩ : ∃ j1, ((pB K).length : Int) = j1 := ⟨_, rfl⟩
  have hl : ((pM K).length : Int) = j1 + 1 + 1 + ((pA K).dropLast.length : Int) := by
    unfold pM
    simp only [List.length_append, List.length_cons]
    omega
  rw [hj1] at a1 a2 b1 b2 T3 H
  rw [hl] at hm ⊢
  have N := pNums_M (f := f) (n := n) hw hh hK T3 hm
  have W : pW f n j1 0 4 = .ok (K 0) := by unfold pW; rw [a2, if_pos ⟨a1, hK.1.1, hK.1.2⟩]
  have k2 := hK.2.2.1
  have e5 : 5 + K 2 - 5 = K 2 := by omega
  have ht : ¬ (2 ≤ K 0 ∧ pTold 0 L (K 0) (K 2) (K 1) = true) := by
    rintro ⟨-, q⟩
    unfold pTold at q
    simp [zany] at q
  have hP : pLaw f n 0 0 L = .error (pF f n (j1 + 1 + 1 + ((pA K).dropLast.length : Int)) 2) := by
    unfold pLaw
    rw [if_pos ⟨x1, x2, x3⟩, if_neg (by decide), H]
    dsimp only
    rw [W]
    dsimp only
    unfold pTl
    rw [b2, e5, if_pos ⟨b1, by omega, by omega⟩, if_neg ht, N]
  show pAll f n (321 + 1) 0 0 L = _
  unfold pAll
  rw [if_neg (by rw [x1]; decide), hP]
/-- a last number that is gone: what stands in its place tells the fault -/
theorem pAll_miss (hw : 1 ≤ w ∧ w ≤ 4) (hh : 1 ≤ h ∧ h ≤ 4) (hK : LOk w h K) (b : Int) (hb : b = 59 ∨ b = 42) (hS : Sp f 0 (ptx (pM K) ++ [b])) (hn : n = (ptx (pM K)).length + 1) : pAll f n 322 0 0 L = .error (if b = 59 then 2 else 1, ((ptx (pM K)).length : Int)) := by
  have hP0 := pM_ok ⟨hw.2, hh.2⟩ hK
  obtain ⟨kb, hkb⟩ : ∃ kb : Int, (if b = 59 then 3 else 4) = kb := ⟨_, rfl⟩
  have hPb : PcOk [b] kb 0 := by
    rcases hb with e | e <;> subst e
    · rw [← hkb]; exact PcOk_S
    · rw [← hkb]; exact PcOk_X
  obtain ⟨ps, hps⟩ : ∃ ps, pM K ++ [(([b], kb, 0) : yPc)] = ps := ⟨_, rfl⟩
  have hP : POk ps := by
    intro p hp
    rw [← hps] at hp
    rcases List.mem_append.mp hp with q | q
    · exact hP0 p q
    · simp only [List.mem_cons, List.not_mem_nil, or_false] at q
      subst q
      exact hPb
  have htx : ptx ps = ptx (pM K) ++ [b] := by
    rw [← hps, ptx_app]
    congr 1
  have h0 : n = 0 ∨ f 0 ≠ 32 := by
    right
    have hne : ∃ p r, ps = p :: r := by
      rw [← hps]
      cases h : pM K with
      | nil => exact ⟨_, _, rfl⟩
      | cons p r => exact ⟨_, _, rfl⟩
    obtain ⟨p, r, hpr⟩ := hne
    rw [hpr] at hP htx
    obtain ⟨c, l', hc, hc2⟩ := (hP p List.mem_cons_self).1
    rw [ptx_c, hc] at htx
    have := hS 0 (by rw [← htx]; simp)
    rw [← htx] at this
    have this : f (0 + 0) = c := this
    rw [Int.add_zero] at this
    rw [this]
    exact hc2
  have hlen : ((ptx ps).length : Int) = n := by rw [htx, List.length_append, hn]; rfl
  obtain ⟨T, -⟩ := toks_of (f := f) (n := n) ps 0 0 hP (Int.le_refl _) (zsj_0 (by omega) h0) (Int.le_refl _) (by rw [htx]; exact hS) (by omega) (Or.inl (by omega))
  obtain ⟨-, E⟩ := toks_of (f := f) (n := n) (pM K) 0 0 hP0 (Int.le_refl _) (zsj_0 (by omega) h0) (Int.le_refl _) (Sp_app hS).1 (by omega) (Or.inr (by
    have := (Sp_app hS).2 0 (by simp)
    simp at this
    rw [Int.zero_add, this]
    rcases hb with e | e <;> omega))
  rw [← hps, Toks_app] at T
  obtain ⟨T1, T2⟩ := T
  simp only [Toks] at T2
  obtain ⟨⟨t1, -⟩, -⟩ := T2
  rw [Int.zero_add] at t1 E
  rw [Int.zero_add] at E
  rw [pAll_M hw hh hK T1 (by rw [t1, ← hkb]; split <;> decide)]
  unfold pF
  rw [t1, E, ← hkb]
  rcases hb with e | e <;> subst e <;> rfl
theorem pAll_cut (hw : 1 ≤ w ∧ w ≤ 4) (hh : 1 ≤ h ∧ h ≤ 4) (hK : LOk w h K) (hS : Sp f 0 (ptx (pM K))) (hn : n = (ptx (pM K)).length) : pAll f n 322 0 0 L = .error (2, ((ptx (pM K)).length : Int)) := by
  have hP0 := pM_ok ⟨hw.2, hh.2⟩ hK
  have h0 : n = 0 ∨ f 0 ≠ 32 := by
    cases hc : pM K with
    | nil =>
      left
      rw [hn, hc]
      rfl
    | cons p r =>
      right
      rw [hc] at hP0 hS
      obtain ⟨c, l', hc1, hc2⟩ := (hP0 p List.mem_cons_self).1
      rw [ptx_c, hc1] at hS
      have := hS 0 (by simp)
      have this : f (0 + 0) = c := this
      rw [Int.add_zero] at this
      rw [this]
      exact hc2
  obtain ⟨T, E⟩ := toks_of (f := f) (n := n) (pM K) 0 0 hP0 (Int.le_refl _) (zsj_0 (by omega) h0) (Int.le_refl _) hS (by omega) (Or.inl (by omega))
  rw [Int.zero_add, Int.zero_add] at E
  have k0 : zkd f n (pM K).length = 0 := zkd_end (by rw [E, hn])
  rw [pAll_M hw hh hK T (by rw [k0]; decide)]
  unfold pF
  rw [k0, E]
  rfl
end PMISS
