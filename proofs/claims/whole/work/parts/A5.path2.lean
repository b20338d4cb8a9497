/-! ways of least time: moves -/
/-- what distances that are laid satisfy -/
def DFn (w : zM) (D : Int → Int) (to : Int) : Prop := (∀ s, 0 ≤ s → s < 88 → D s = 1000000 ∨ (0 ≤ D s ∧ D s < 1000000 ∧ wSt w s = true)) ∧ (∀ s, 0 ≤ s → s < 88 → D s < 1000000 → (s = to ∧ D s = 0) ∨ ∃ t, (0 ≤ t ∧ t < 88) ∧ D t < 1000000 ∧ wTk w s t < 1000000 ∧ D s = D t + wTk w s t) ∧ (∀ t s, 0 ≤ t → t < 88 → 0 ≤ s → s < 88 → D t < 1000000 → wSt w s = true → wTk w s t < 1000000 → D s ≤ D t + wTk w s t) ∧ ((∃ s, 0 ≤ s ∧ s < 88 ∧ D s < 1000000) → D to = 0)
theorem zrx_le (st : Int → Bool) (tk : Int → Int → Int) (D : Int → Int) (dn : Int → Bool) (b s : Int) : zrx st tk D dn b s ≤ D s := by
  unfold zrx
  split
  next c => omega
  next => exact Int.le_refl _
theorem zds_le (st : Int → Bool) (tk : Int → Int → Int) (P : zDP) (s : Int) : (zds st tk P).1 s ≤ P.1 s := by
  unfold zds
  split
  · exact Int.le_refl _
  · exact zrx_le st tk P.1 (fun s => P.2 s || decide (s = zpk P.1 P.2 88)) (zpk P.1 P.2 88) s
theorem zdt_le (st : Int → Bool) (tk : Int → Int → Int) (P : zDP) (k : Nat) (s : Int) : (zdt (zds st tk) k P).1 s ≤ P.1 s := by
  induction k with
  | zero => exact Int.le_refl _
  | succ k ih =>
    simp only [zdt]
    have := zds_le st tk (zdt (zds st tk) k P) s
    omega
theorem zdt_no {st : Int → Bool} {tk : Int → Int → Int} {to : Int} (h : ¬ st to = true) (k : Nat) : zdt (zds st tk) k (zd0 st to) = zd0 st to := by
  refine zdt_fix (zds_fix ?_) k
  rcases zpk_ok (zd0 st to).1 (zd0 st to).2 88 with ⟨q, -⟩ | ⟨-, -, -, q, -⟩
  · exact q
  · exfalso
    unfold zd0 at q
    dsimp only at q
    rw [if_neg (fun z => h z.2)] at q
    omega
theorem DFn_of {w : zM} {D : Int → Int} {to : Int} (hV : MV w) (hC : wCr w) (hto : 0 ≤ to ∧ to < 88) {Q : zDP} (hQ : zdf (wSt w) (wTk w) to Q) (hD : ∀ s, 0 ≤ s → s < 88 → D s = Q.1 s) : DFn w D to := by
  have hco := wTk_co hV hC
  obtain ⟨⟨h1, h2, h3, h4, h5, h6⟩, h7⟩ := zdf_DI hto hco hQ
  refine ⟨fun s s0 s1 => ?_, fun s s0 s1 hs => ?_, fun t s t0 t1 s0 s1 ht hs hk => ?_, ?_⟩
  · rw [hD s s0 s1]
    rcases h1 s with q | ⟨q1, q2⟩
    · left; exact q
    · right; exact ⟨q1, by omega, (h2 s (by omega)).1⟩
  · rw [hD s s0 s1] at hs ⊢
    rcases h5 s hs with q | ⟨t, t1, t2, t3⟩
    · left; exact q
    · right
      have ht := h3 t t1
      have tr := (h2 t ht).2
      exact ⟨t, tr, by rw [hD t tr.1 tr.2]; exact ht, t2, by rw [hD t tr.1 tr.2]; exact t3⟩
  · rw [hD t t0 t1] at ht ⊢
    rw [hD s s0 s1]
    exact h6 t s (h7 t ht) hs hk s0 s1
  · rintro ⟨s, s0, s1, hs⟩
    rw [hD s s0 s1] at hs
    obtain ⟨k, hk, -⟩ := hQ
    by_cases c : wSt w to = true
    · have le := zdt_le (wSt w) (wTk w) (zd0 (wSt w) to) k to
      rw [← hk] at le
      have z : (zd0 (wSt w) to).1 to = 0 := by unfold zd0; dsimp only; rw [if_pos ⟨rfl, c⟩]
      rw [z] at le
      rw [hD to hto.1 hto.2]
      rcases h1 to with q | q <;> omega
    · rw [zdt_no c k] at hk
      rw [hk] at hs
      unfold zd0 at hs
      dsimp only at hs
      rw [if_neg (fun z => c z.2)] at hs
      omega
section PATH2
variable {w : zM} {D : Int → Int} {H : Int → Bool} {p to : Int}
theorem wTk_pos {s t : Int} (hV : MV w) (hCr : wCr w) (hs : wSt w s = true) (ht : wSt w t = true) (hk : (s < 64) ↔ (t < 64)) : 1 ≤ wTk w s t := by
  have hC := wTk_co hV hCr
  have bs := hC.2.2.2 s hs
  have bt := hC.2.2.2 t ht
  unfold wTk
  by_cases c : s < 64 ∧ t < 64
  · rw [if_pos c]
    split
    next f =>
      have ne : s ≠ t := by intro e; rw [e] at f; unfold zfar zab at f; simp at f
      have eb := wEd_b ⟨bs.1, c.1⟩ ⟨bt.1, c.2⟩ ne
      have cr := hCr _ eb.1 eb.2
      have : 0 ≤ zab (w 102 s - w 102 t) := by unfold zab; split <;> omega
      split <;> omega
    next => omega
  · rw [if_neg c, if_pos (by omega)]
    split <;> omega
theorem wTk_self (s : Int) : wTk w s s = 1000000 := by
  unfold wTk
  by_cases c : s < 64 ∧ s < 64
  · rw [if_pos c, if_neg]
    intro f
    unfold zfar zab at f
    simp at f
  · rw [if_neg c, if_pos (by omega), if_neg (by omega)]
/-- a move is there, as long as the end is not -/
theorem move_ex (hD : DFn w D to) (hH : HI w H p) (hf : ∀ s, 0 ≤ s → s < 88 → H s = true → D s < 1000000) (hc : ∀ s t, 0 ≤ s → s < 88 → 0 ≤ t → t < 88 → H s = true → fC w D s t = true → H t = true) (hn : H to = false) (d : Nat) : ∀ s, 0 ≤ s → s < 88 → H s = true → 2 * D s + (if s < 64 then 0 else 1) ≤ d → ∃ s' t, (0 ≤ s' ∧ s' < 88) ∧ (0 ≤ t ∧ t < 88) ∧ H s' = true ∧ gC w D s' t = true := by
  induction d with
  | zero =>
    intro s s0 s1 hs hd
    have hfs := hf s s0 s1 hs
    rcases hD.2.1 s s0 s1 hfs with ⟨e, -⟩ | ⟨t, ⟨t0, t1⟩, h1, h2, h3⟩
    · rw [e] at hs; rw [hs] at hn; cases hn
    · have st : wSt w t = true := by rcases hD.1 t t0 t1 with q | q; omega; exact q.2.2
      by_cases k : (s < 64) ↔ (t < 64)
      · exact ⟨s, t, ⟨s0, s1⟩, ⟨t0, t1⟩, hs, (gC_iff _ _).2 ⟨k, fun e => by rw [e, wTk_self] at h2; omega, st, h2, by omega⟩⟩
      · exfalso
        have dt : 0 ≤ D t := by rcases hD.1 t t0 t1 with q | q <;> omega
        by_cases c : s < 64
        · have t64 : 64 ≤ t := by omega
          rw [wTk_on c t64] at h2 h3
          split at h2
          next q => rw [if_pos q] at h3; rw [if_pos c] at hd; omega
          next => omega
        · rw [if_neg c] at hd
          have ds : 0 ≤ D s := by rcases hD.1 s s0 s1 with q | q <;> omega
          omega
  | succ d ih =>
    intro s s0 s1 hs hd
    have hfs := hf s s0 s1 hs
    rcases hD.2.1 s s0 s1 hfs with ⟨e, -⟩ | ⟨t, ⟨t0, t1⟩, h1, h2, h3⟩
    · rw [e] at hs; rw [hs] at hn; cases hn
    · have st : wSt w t = true := by rcases hD.1 t t0 t1 with q | q; omega; exact q.2.2
      by_cases k : (s < 64) ↔ (t < 64)
      · exact ⟨s, t, ⟨s0, s1⟩, ⟨t0, t1⟩, hs, (gC_iff _ _).2 ⟨k, fun e => by rw [e, wTk_self] at h2; omega, st, h2, by omega⟩⟩
      · by_cases c : s < 64
        · have t64 : 64 ≤ t := by omega
          rw [wTk_on c t64] at h2
          have pe : s = wPl w t := by
            split at h2
            next q => exact q
            next => omega
          have e2 := wTk_on (w := w) c t64
          rw [if_pos pe] at e2
          have ht := hc s t s0 s1 t0 t1 hs ((fC_iff _ _).2 ⟨k, st, by rw [wPl_lo c]; exact pe, by omega⟩)
          rw [if_pos c] at hd
          exact ih t t0 t1 ht (by rw [if_neg (by omega)]; omega)
        · have t64 : t < 64 := by omega
          rw [wTk_off (by omega) t64] at h2
          have pe : wPl w s = t := by
            split at h2
            next q => exact q
            next => omega
          have e2 := wTk_off (w := w) (s := s) (by omega) t64
          rw [if_pos pe] at e2
          have ht := hc s t s0 s1 t0 t1 hs ((fC_iff _ _).2 ⟨k, st, by rw [wPl_lo t64]; exact pe, by omega⟩)
          rw [if_neg c] at hd
          exact ih t t0 t1 ht (by rw [if_pos t64]; omega)
/-- no move is there at the end -/
theorem move_no (hV : MV w) (hCr : wCr w) (hD : DFn w D to) (hto : to < 64) (hH : HI w H p) (hf : ∀ s, 0 ≤ s → s < 88 → H s = true → D s < 1000000) (hto0 : 0 ≤ to) (hn : H to = true) : ∀ s t, 0 ≤ s → s < 88 → 0 ≤ t → t < 88 → H s = true → gC w D s t = true → False := by
  intro s t s0 s1 t0 t1 hs hg
  have g := (gC_iff _ _).1 hg
  have tp := hH.2 to hto0 (by omega) hn
  rw [wPl_lo hto] at tp
  have sp := hH.2 s s0 s1 hs
  have dto := hD.2.2.2 ⟨to, hto0, by omega, hf to hto0 (by omega) hn⟩
  have ds : D s ≤ 0 := by
    by_cases c : s < 64
    · rw [wPl_lo c] at sp
      rw [sp.2, ← tp.2, dto]; exact Int.le_refl _
    · have e := wTk_off (w := w) (s := s) (t := to) (by omega) hto
      rw [if_pos (by rw [sp.2, tp.2])] at e
      have := hD.2.2.1 to s hto0 (by omega) s0 s1 (by omega) sp.1 (by omega)
      omega
  have := wTk_pos hV hCr sp.1 g.2.2.1 g.1
  have dt : 0 ≤ D t := by rcases hD.1 t t0 t1 with q | q <;> omega
  omega
/-- how many places are nearer to the end -/
def rk (D : Int → Int) (s : Int) : Int := zcnt (fun t => decide (D t < D s)) 88
theorem zcnt_lt {p q : Int → Bool} {n : Nat} (h : ∀ t : Int, 0 ≤ t → t < n → p t = true → q t = true) {x : Int} (x0 : 0 ≤ x) (x1 : x < n) (hp : p x = false) (hq : q x = true) : zcnt p n < zcnt q n := by
  induction n with
  | zero => omega
  | succ n ih =>
    have mono : ∀ m : Nat, m ≤ n → zcnt p m ≤ zcnt q m := by
      intro m
      induction m with
      | zero => intro _; exact Int.le_refl _
      | succ m ihm =>
        intro hm
        have := ihm (by omega)
        simp only [zcnt]
        by_cases c : p m = true
        · rw [if_pos c, if_pos (h m (by omega) (by omega) c)]; omega
        · rw [if_neg c]
          split <;> omega
    simp only [zcnt]
    by_cases e : x = n
    · subst e
      have := mono n (Nat.le_refl _)
      rw [hp, hq]
      simp
      omega
    · have := ih (fun t t0 t1 => h t t0 (by omega)) (by omega)
      by_cases c : p n = true
      · rw [if_pos c, if_pos (h n (by omega) (by omega) c)]; omega
      · rw [if_neg c]
        split <;> omega
theorem rk_lt {s t : Int} (t0 : 0 ≤ t) (t1 : t < 88) (h : D t < D s) : rk D t < rk D s := by
  unfold rk
  refine zcnt_lt (fun x _ _ hx => ?_) t0 t1 (decide_eq_false (by omega)) (decide_eq_true h)
  have := of_decide_eq_true hx
  exact decide_eq_true (by omega)
theorem rk_b {s : Int} (s0 : 0 ≤ s) (s1 : s < 88) : 0 ≤ rk D s ∧ rk D s ≤ 87 := by
  have h := zcnt_lt (p := fun t => decide (D t < D s)) (q := fun _ => true) (n := 88) (fun _ _ _ _ => rfl) s0 s1 (decide_eq_false (by omega)) rfl
  have b := zcnt_bd (fun t => decide (D t < D s)) 88
  have c := zcnt_bd (fun _ => true) 88
  unfold rk
  omega
end PATH2
