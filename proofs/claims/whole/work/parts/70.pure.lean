/-! bids settle: what the pure course depends on; sums by seekers and by plots -/
theorem zbst_congr {n : Int} {ca ca' : Int → Int → Bool} {va va' : Int → Int → Int} {P : zP} {s : Int} (hc : ∀ p, 0 ≤ p → p < n → ca s p = ca' s p) (hv : ∀ p, 0 ≤ p → p < n → va s p = va' s p) : zbst n ca va P s = zbst n ca' va' P s := by
  unfold zbst
  rw [zbp_congr (can := fun p => ca s p && !P.2.1 s p) (can' := fun p => ca' s p && !P.2.1 s p) (v := va s) (v' := va' s) (fun p h1 h2 => ⟨by rw [hc p h1 (by omega)], fun _ => hv p h1 (by omega)⟩)]
section PURE
variable {n nc : Int} {wt wt' : Int → Bool} {ca ca' : Int → Int → Bool} {pu pu' : Int → Int} {va va' : Int → Int → Int}
def zag (n nc : Int) (wt wt' : Int → Bool) (ca ca' : Int → Int → Bool) (pu pu' : Int → Int) (va va' : Int → Int → Int) : Prop := ∀ s, 0 ≤ s → s < nc → wt s = wt' s ∧ pu s = pu' s ∧ (∀ p, 0 ≤ p → p < n → ca s p = ca' s p ∧ va s p = va' s p)
theorem zbid_congr (h : zag n nc wt wt' ca ca' pu pu' va va') {s p : Int} (hs : 0 ≤ s ∧ s < nc) (hp : 0 ≤ p ∧ p < n) : zbid pu va s p = zbid pu' va' s p := by
  have := h s hs.1 hs.2
  unfold zbid
  rw [this.2.1, (this.2.2 p hp.1 hp.2).2]
theorem zst_congr (h : zag n nc wt wt' ca ca' pu pu' va va') {P : zP} (hP : zPI n nc P) {s : Int} (hs : 0 ≤ s ∧ s < nc) : zst n wt ca pu va P s = zst n wt' ca' pu' va' P s := by
  have h1 := h s hs.1 hs.2
  have hb : zbst n ca va P s = zbst n ca' va' P s := zbst_congr (fun p q0 q1 => (h1.2.2 p q0 q1).1) (fun p q0 q1 => (h1.2.2 p q0 q1).2)
  unfold zst
  rw [h1.1, hb]
  split
  next hc =>
    have hbo := zbst_ok hc.2.2
    generalize zbst n ca' va' P s = p at *
    have hw : zwin pu va P s p = zwin pu' va' P s p := by
      unfold zwin
      rw [decide_eq_decide]
      by_cases h4 : P.2.2 p = -4
      · simp [h4]
      · have h5 : 0 ≤ P.2.2 p ∧ P.2.2 p < nc := by rcases hP.2 p with q | ⟨-, -, q1, q2, -⟩ <;> omega
        rw [zbid_congr h h5 ⟨hc.2.2, hbo.1⟩, zbid_congr h hs ⟨hc.2.2, hbo.1⟩]
    unfold zst1
    rw [hw]
  next => rfl
theorem zrd_congr (h : zag n nc wt wt' ca ca' pu pu' va va') {P : zP} (hP : zPI n nc P) : ∀ k : Nat, k ≤ nc → zrd n wt ca pu va P k = zrd n wt' ca' pu' va' P k := by
  intro k
  induction k with
  | zero => intro _; rfl
  | succ k ih =>
    intro hk
    have ih := ih (by omega)
    simp only [zrd]
    rw [ih, zst_congr h (by rw [← ih]; exact zrd_PI hP k (by omega)) ⟨by omega, by omega⟩]
theorem zit_PI (h0 : 0 ≤ nc) : ∀ k, zPI n nc (zit (fun P => (zrd n wt ca pu va P nc.toNat).1) k zP0) := by
  intro k
  induction k with
  | zero => exact zPI_0 n nc
  | succ k ih => exact zrd_PI ih nc.toNat (by omega)
theorem zfin_congr (h0 : 0 ≤ nc) (h : zag n nc wt wt' ca ca' pu pu' va va') {Q : zP} (hf : zfin n nc wt ca pu va Q) : zfin n nc wt' ca' pu' va' Q := by
  obtain ⟨k, hk, hz⟩ := hf
  have e : ∀ k, zit (fun P => (zrd n wt ca pu va P nc.toNat).1) k zP0 = zit (fun P => (zrd n wt' ca' pu' va' P nc.toNat).1) k zP0 := by
    intro k
    induction k with
    | zero => rfl
    | succ k ih =>
      simp only [zit]
      rw [← ih, zrd_congr h (zit_PI h0 k) nc.toNat (by omega)]
  refine ⟨k, by rw [← e]; exact hk, ?_⟩
  rw [← zrd_congr h (by rw [hk]; exact zit_PI h0 k) nc.toNat (by omega)]
  exact hz
/-- who is held waits, and may -/
def zPW (nc : Int) (wt : Int → Bool) (ca : Int → Int → Bool) (P : zP) : Prop := (∀ s, 0 ≤ s → s < nc → 0 ≤ P.1 s → wt s = true) ∧ ∀ p, 0 ≤ P.2.2 p → ca (P.2.2 p) p = true
theorem zst_PW {P : zP} (hW : zPW nc wt ca P) {s : Int} (hs : 0 ≤ s ∧ s < nc) : zPW nc wt ca (zst n wt ca pu va P s).1 := by
  unfold zst
  split
  next hc =>
    have hb := zbst_ok hc.2.2
    unfold zst1
    split
    · refine ⟨fun q q0 q1 h => ?_, fun r h => ?_⟩
      · dsimp only at h
        by_cases e : q = s
        · subst e; exact hc.1
        · rw [if_neg e] at h
          split at h
          · omega
          · exact hW.1 q q0 q1 h
      · dsimp only at h ⊢
        by_cases e : r = zbst n ca va P s
        · rw [if_pos e, e]; exact hb.2.1
        · rw [if_neg e] at h ⊢; exact hW.2 r h
    · exact ⟨fun q q0 q1 h => hW.1 q q0 q1 h, fun r h => hW.2 r h⟩
  next => exact hW
theorem zrd_PW {P : zP} (hW : zPW nc wt ca P) : ∀ k : Nat, k ≤ nc → zPW nc wt ca (zrd n wt ca pu va P k).1 := by
  intro k
  induction k with
  | zero => intro _; exact hW
  | succ k ih => intro hk; exact zst_PW (ih (by omega)) ⟨by omega, by omega⟩
theorem zfin_PW (h0 : 0 ≤ nc) {Q : zP} (hf : zfin n nc wt ca pu va Q) : zPW nc wt ca Q := by
  obtain ⟨k, hk, -⟩ := hf
  rw [hk]
  clear hk
  induction k with
  | zero => exact ⟨fun s _ _ h => by simp [zit, zP0] at h, fun p h => by simp [zit, zP0] at h⟩
  | succ k ih => exact zrd_PW ih nc.toNat (by omega)
end PURE
theorem zsum_0 (n : Nat) : zsum (fun _ => 0) n = 0 := by
  induction n with
  | zero => rfl
  | succ n ih => simp only [zsum, ih]; rfl
theorem zsum_plus (f g : Int → Int) (n : Nat) : zsum (fun k => f k + g k) n = zsum f n + zsum g n := by
  induction n with
  | zero => rfl
  | succ n ih => simp only [zsum, ih]; omega
theorem zsum_swap (f : Int → Int → Int) (a b : Nat) : zsum (fun s => zsum (fun p => f s p) b) a = zsum (fun p => zsum (fun s => f s p) a) b := by
  induction a with
  | zero => simp only [zsum]; rw [zsum_0]
  | succ a ih => simp only [zsum]; rw [ih, zsum_plus]
theorem zsum_one {n : Nat} {k v : Int} : zsum (fun q => if q = k then v else 0) n = if 0 ≤ k ∧ k < n then v else 0 := by
  induction n with
  | zero => rw [if_neg (by omega)]; rfl
  | succ n ih =>
    simp only [zsum]
    rw [ih]
    by_cases e : (n : Int) = k
    · rw [if_pos e, if_neg (by omega), if_pos (by omega)]; omega
    · rw [if_neg e]
      by_cases h : 0 ≤ k ∧ k < n
      · rw [if_pos h, if_pos (by omega)]; omega
      · rw [if_neg h, if_neg (by omega)]; omega
/-- the same sum by seekers and by plots -/
theorem zsum_bij {nc n : Nat} {pl ow : Int → Int} {f g : Int → Int} (h1 : ∀ s : Int, 0 ≤ s → s < nc → pl s = -4 ∨ (0 ≤ pl s ∧ pl s < n ∧ ow (pl s) = s ∧ f s = g (pl s))) (h2 : ∀ p : Int, 0 ≤ p → p < n → ow p = -4 ∨ (0 ≤ ow p ∧ ow p < nc ∧ pl (ow p) = p)) : zsum (fun s => if pl s = -4 then 0 else f s) nc = zsum (fun p => if ow p = -4 then 0 else g p) n := by
  have e1 : zsum (fun s => if pl s = -4 then 0 else f s) nc = zsum (fun s => zsum (fun p => if p = pl s then f s else 0) n) nc := by
    apply zsum_congr
    intro s s0 s1
    rw [zsum_one]
    rcases h1 s s0 s1 with h | h
    · rw [if_pos h, if_neg (by omega)]
    · rw [if_neg (by omega), if_pos ⟨h.1, h.2.1⟩]
  rw [e1, zsum_swap]
  apply zsum_congr
  intro p p0 p1
  have e2 : zsum (fun s => if p = pl s then f s else 0) nc = zsum (fun s => if s = ow p then g p else 0) nc := by
    apply zsum_congr
    intro s s0 s1
    by_cases e : p = pl s
    · rcases h1 s s0 s1 with h | h
      · omega
      · rw [if_pos e, if_pos (by rw [e]; exact h.2.2.1.symm), h.2.2.2, ← e]
    · rw [if_neg e]
      rw [if_neg]
      intro e3
      rcases h2 p p0 p1 with h | h
      · omega
      · rw [← e3] at h; exact e h.2.2.symm
  rw [e2, zsum_one]
  rcases h2 p p0 p1 with h | h
  · rw [if_pos h, if_neg (by omega)]
  · rw [if_pos ⟨h.1, h.2.1⟩, if_neg (by omega)]
theorem zcnt_sum (p : Int → Bool) (n : Nat) : zcnt p n = zsum (fun k => if p k = true then 1 else 0) n := by
  induction n with
  | zero => rfl
  | succ n ih => simp only [zcnt, zsum, ih]
