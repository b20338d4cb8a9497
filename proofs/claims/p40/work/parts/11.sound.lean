/-! what the small machine comes to, the true one comes to: by induction on its steps -/
theorem zcode_dec {y pc n : Nat} {i : Instr} (h : zcode y pc = some (i, n)) : decode (zmb y) pc = .ok (i, n) := by
  unfold zcode at h
  split at h
  next q => rw [q]; cases h; rfl
  next => cases h
theorem zto_some {F : zC → Option zR} {b : Bool} {off : Int} {n y pc : Nat} {ls st : List zV} {R m : zM} {r : zR} (h : zint F (zto b off n y pc ls st R m) = some r) : 0 ≤ (pc : Int) + off ∧ (b = true → F (y, ((pc : Int) + off).toNat, ls, st, R, m) = some r) ∧ (b = false → F (y, pc + n, ls, st, R, m) = some r) := by
  unfold zto at h
  split at h
  next h0 =>
    refine ⟨h0, fun hb => ?_, fun hb => ?_⟩
    · rw [if_pos hb] at h; exact h
    · rw [if_neg (by rw [hb]; decide)] at h; exact h
  next => cases h
theorem zinv_some {n0 : Nat} {y' na n y pc : Nat} {ls st : List zV} {R m : zM} {r : zR} (h : zint (zrun n0) (zinv y' na n y pc ls st R m) = some r) : ∃ r1 : zR, (na ≤ st.length ∧ zcs (st.drop na) ≤ 8 ∧ zmf y' + 1 ≤ zmf y ∧ 8 + (zml y' + 11) + zmo y' ≤ zmo y ∧ ((st.take na).flatMap (fun v => if v.1 = 1 then [v, (8, 0)] else [v])).length ≤ zml y' ∧ ((st.take na).all (fun v => decide (v.1 < 5))) = true) ∧ zrun n0 (y', 0, zent (st.take na).reverse (zml y'), [], R, m) = some r1 ∧ zrun n0 (y, pc + n, ls, (if r1.1.1 = 9 then st.drop na else r1.1 :: st.drop na), r1.2.1, r1.2.2) = some r := by
  unfold zinv at h
  split at h
  next hc =>
    simp only [zint] at h
    obtain ⟨r1, h1, h2⟩ := Option.bind_eq_some_iff.mp h
    exact ⟨r1, hc, h1, h2⟩
  next => cases h
section SOUND
variable {X : zX} {y pc n : Nat} {ls st : List zV} {R m : zM} {r : zR}

theorem s_iconst {k : Nat} {a : Int} (ih : zSound n) (hy : y < 332) (hX : X.2.2.2.2.2.2.2.2.2.2.2.2.2 = r) (C : zCx X y) (E : zE X y) (hd : decode (zmb y) pc = .ok (.iconst a, k)) (hk : zlok (.iconst a) k = true) (h : zint (zrun n) (zex (.iconst a) k y pc ls st R m) = some r) : zG X y pc ls st R m := by
  have hk1 : k = 1 := by simpa [zlok] using hk
  subst hk1
  simp only [zex] at h
  exact g_iconst C hd (ih _ _ _ _ _ _ _ hy h X hX C E)

theorem s_bipush {k : Nat} {a : Int} (ih : zSound n) (hy : y < 332) (hX : X.2.2.2.2.2.2.2.2.2.2.2.2.2 = r) (C : zCx X y) (E : zE X y) (hd : decode (zmb y) pc = .ok (.bipush a, k)) (hk : zlok (.bipush a) k = true) (h : zint (zrun n) (zex (.bipush a) k y pc ls st R m) = some r) : zG X y pc ls st R m := by
  have hk1 : k = 2 := by simpa [zlok] using hk
  subst hk1
  simp only [zex] at h
  exact g_bipush C hd (ih _ _ _ _ _ _ _ hy h X hX C E)

theorem s_sipush {k : Nat} {a : Int} (ih : zSound n) (hy : y < 332) (hX : X.2.2.2.2.2.2.2.2.2.2.2.2.2 = r) (C : zCx X y) (E : zE X y) (hd : decode (zmb y) pc = .ok (.sipush a, k)) (hk : zlok (.sipush a) k = true) (h : zint (zrun n) (zex (.sipush a) k y pc ls st R m) = some r) : zG X y pc ls st R m := by
  have hk1 : k = 3 := by simpa [zlok] using hk
  subst hk1
  simp only [zex] at h
  exact g_sipush C hd (ih _ _ _ _ _ _ _ hy h X hX C E)

theorem s_lconst {k : Nat} {a : Fin 2} (ih : zSound n) (hy : y < 332) (hX : X.2.2.2.2.2.2.2.2.2.2.2.2.2 = r) (C : zCx X y) (E : zE X y) (hd : decode (zmb y) pc = .ok (.lconst a, k)) (hk : zlok (.lconst a) k = true) (h : zint (zrun n) (zex (.lconst a) k y pc ls st R m) = some r) : zG X y pc ls st R m := by
  have hk1 : k = 1 := by simpa [zlok] using hk
  subst hk1
  simp only [zex] at h
  exact g_lconst C hd (ih _ _ _ _ _ _ _ hy h X hX C E)

theorem s_iload {k : Nat} {a : Nat} (ih : zSound n) (hy : y < 332) (hX : X.2.2.2.2.2.2.2.2.2.2.2.2.2 = r) (C : zCx X y) (E : zE X y) (hd : decode (zmb y) pc = .ok (.iload a, k)) (hk : zlok (.iload a) k = true) (h : zint (zrun n) (zex (.iload a) k y pc ls st R m) = some r) : zG X y pc ls st R m := by
  have hk1 : k = 2 := by simpa [zlok] using hk
  subst hk1
  simp only [zex, zli] at h
  split at h
  · exact g_iload C hd (by assumption) (ih _ _ _ _ _ _ _ hy h X hX C E)
  all_goals cases h

theorem s_iload_n {k : Nat} {a : Fin 4} (ih : zSound n) (hy : y < 332) (hX : X.2.2.2.2.2.2.2.2.2.2.2.2.2 = r) (C : zCx X y) (E : zE X y) (hd : decode (zmb y) pc = .ok (.iload_n a, k)) (hk : zlok (.iload_n a) k = true) (h : zint (zrun n) (zex (.iload_n a) k y pc ls st R m) = some r) : zG X y pc ls st R m := by
  have hk1 : k = 1 := by simpa [zlok] using hk
  subst hk1
  simp only [zex, zli] at h
  split at h
  · exact g_iload_n C hd (by assumption) (ih _ _ _ _ _ _ _ hy h X hX C E)
  all_goals cases h

theorem s_aload {k : Nat} {a : Nat} (ih : zSound n) (hy : y < 332) (hX : X.2.2.2.2.2.2.2.2.2.2.2.2.2 = r) (C : zCx X y) (E : zE X y) (hd : decode (zmb y) pc = .ok (.aload a, k)) (hk : zlok (.aload a) k = true) (h : zint (zrun n) (zex (.aload a) k y pc ls st R m) = some r) : zG X y pc ls st R m := by
  have hk1 : k = 2 := by simpa [zlok] using hk
  subst hk1
  simp only [zex, zla] at h
  split at h
  · exact g_aload C hd (v := (2, _)) (by assumption) (Or.inl rfl) (ih _ _ _ _ _ _ _ hy h X hX C E)
  · exact g_aload C hd (v := (3, _)) (by assumption) (Or.inr (Or.inl rfl)) (ih _ _ _ _ _ _ _ hy h X hX C E)
  · exact g_aload C hd (v := (4, _)) (by assumption) (Or.inr (Or.inr rfl)) (ih _ _ _ _ _ _ _ hy h X hX C E)
  all_goals cases h

theorem s_aload_n {k : Nat} {a : Fin 4} (ih : zSound n) (hy : y < 332) (hX : X.2.2.2.2.2.2.2.2.2.2.2.2.2 = r) (C : zCx X y) (E : zE X y) (hd : decode (zmb y) pc = .ok (.aload_n a, k)) (hk : zlok (.aload_n a) k = true) (h : zint (zrun n) (zex (.aload_n a) k y pc ls st R m) = some r) : zG X y pc ls st R m := by
  have hk1 : k = 1 := by simpa [zlok] using hk
  subst hk1
  simp only [zex, zla] at h
  split at h
  · exact g_aload_n C hd (v := (2, _)) (by assumption) (Or.inl rfl) (ih _ _ _ _ _ _ _ hy h X hX C E)
  · exact g_aload_n C hd (v := (3, _)) (by assumption) (Or.inr (Or.inl rfl)) (ih _ _ _ _ _ _ _ hy h X hX C E)
  · exact g_aload_n C hd (v := (4, _)) (by assumption) (Or.inr (Or.inr rfl)) (ih _ _ _ _ _ _ _ hy h X hX C E)
  all_goals cases h

theorem s_lload {k : Nat} {a : Nat} (ih : zSound n) (hy : y < 332) (hX : X.2.2.2.2.2.2.2.2.2.2.2.2.2 = r) (C : zCx X y) (E : zE X y) (hd : decode (zmb y) pc = .ok (.lload a, k)) (hk : zlok (.lload a) k = true) (h : zint (zrun n) (zex (.lload a) k y pc ls st R m) = some r) : zG X y pc ls st R m := by
  have hk1 : k = 2 := by simpa [zlok] using hk
  subst hk1
  simp only [zex, zll] at h
  split at h
  · exact g_lload C hd (by assumption) (by assumption) (ih _ _ _ _ _ _ _ hy h X hX C E)
  all_goals cases h

theorem s_lload_n {k : Nat} {a : Fin 4} (ih : zSound n) (hy : y < 332) (hX : X.2.2.2.2.2.2.2.2.2.2.2.2.2 = r) (C : zCx X y) (E : zE X y) (hd : decode (zmb y) pc = .ok (.lload_n a, k)) (hk : zlok (.lload_n a) k = true) (h : zint (zrun n) (zex (.lload_n a) k y pc ls st R m) = some r) : zG X y pc ls st R m := by
  have hk1 : k = 1 := by simpa [zlok] using hk
  subst hk1
  simp only [zex, zll] at h
  split at h
  · exact g_lload_n C hd (by assumption) (by assumption) (ih _ _ _ _ _ _ _ hy h X hX C E)
  all_goals cases h

theorem s_istore {k : Nat} {a : Nat} (ih : zSound n) (hy : y < 332) (hX : X.2.2.2.2.2.2.2.2.2.2.2.2.2 = r) (C : zCx X y) (E : zE X y) (hd : decode (zmb y) pc = .ok (.istore a, k)) (hk : zlok (.istore a) k = true) (h : zint (zrun n) (zex (.istore a) k y pc ls st R m) = some r) : zG X y pc ls st R m := by
  have hk1 : k = 2 := by simpa [zlok] using hk
  subst hk1
  simp only [zex, zsi] at h
  split at h
  · split at h
    · exact g_istore C hd (by assumption) (ih _ _ _ _ _ _ _ hy h X hX C E)
    · cases h
  all_goals cases h

theorem s_istore_n {k : Nat} {a : Fin 4} (ih : zSound n) (hy : y < 332) (hX : X.2.2.2.2.2.2.2.2.2.2.2.2.2 = r) (C : zCx X y) (E : zE X y) (hd : decode (zmb y) pc = .ok (.istore_n a, k)) (hk : zlok (.istore_n a) k = true) (h : zint (zrun n) (zex (.istore_n a) k y pc ls st R m) = some r) : zG X y pc ls st R m := by
  have hk1 : k = 1 := by simpa [zlok] using hk
  subst hk1
  simp only [zex, zsi] at h
  split at h
  · split at h
    · exact g_istore_n C hd (by assumption) (ih _ _ _ _ _ _ _ hy h X hX C E)
    · cases h
  all_goals cases h

theorem s_astore {k : Nat} {a : Nat} (ih : zSound n) (hy : y < 332) (hX : X.2.2.2.2.2.2.2.2.2.2.2.2.2 = r) (C : zCx X y) (E : zE X y) (hd : decode (zmb y) pc = .ok (.astore a, k)) (hk : zlok (.astore a) k = true) (h : zint (zrun n) (zex (.astore a) k y pc ls st R m) = some r) : zG X y pc ls st R m := by
  have hk1 : k = 2 := by simpa [zlok] using hk
  subst hk1
  simp only [zex, zsa] at h
  split at h
  · split at h
    · exact g_astore C hd (by assumption) (ih _ _ _ _ _ _ _ hy h X hX C E)
    · cases h
  all_goals cases h

theorem s_astore_n {k : Nat} {a : Fin 4} (ih : zSound n) (hy : y < 332) (hX : X.2.2.2.2.2.2.2.2.2.2.2.2.2 = r) (C : zCx X y) (E : zE X y) (hd : decode (zmb y) pc = .ok (.astore_n a, k)) (hk : zlok (.astore_n a) k = true) (h : zint (zrun n) (zex (.astore_n a) k y pc ls st R m) = some r) : zG X y pc ls st R m := by
  have hk1 : k = 1 := by simpa [zlok] using hk
  subst hk1
  simp only [zex, zsa] at h
  split at h
  · split at h
    · exact g_astore_n C hd (by assumption) (ih _ _ _ _ _ _ _ hy h X hX C E)
    · cases h
  all_goals cases h

theorem s_lstore {k : Nat} {a : Nat} (ih : zSound n) (hy : y < 332) (hX : X.2.2.2.2.2.2.2.2.2.2.2.2.2 = r) (C : zCx X y) (E : zE X y) (hd : decode (zmb y) pc = .ok (.lstore a, k)) (hk : zlok (.lstore a) k = true) (h : zint (zrun n) (zex (.lstore a) k y pc ls st R m) = some r) : zG X y pc ls st R m := by
  have hk1 : k = 2 := by simpa [zlok] using hk
  subst hk1
  simp only [zex, zsl] at h
  split at h
  · split at h
    · exact g_lstore C hd (by assumption) (ih _ _ _ _ _ _ _ hy h X hX C E)
    · cases h
  all_goals cases h

theorem s_lstore_n {k : Nat} {a : Fin 4} (ih : zSound n) (hy : y < 332) (hX : X.2.2.2.2.2.2.2.2.2.2.2.2.2 = r) (C : zCx X y) (E : zE X y) (hd : decode (zmb y) pc = .ok (.lstore_n a, k)) (hk : zlok (.lstore_n a) k = true) (h : zint (zrun n) (zex (.lstore_n a) k y pc ls st R m) = some r) : zG X y pc ls st R m := by
  have hk1 : k = 1 := by simpa [zlok] using hk
  subst hk1
  simp only [zex, zsl] at h
  split at h
  · split at h
    · exact g_lstore_n C hd (by assumption) (ih _ _ _ _ _ _ _ hy h X hX C E)
    · cases h
  all_goals cases h

theorem s_iinc {k : Nat} {a : Nat} {c : Int} (ih : zSound n) (hy : y < 332) (hX : X.2.2.2.2.2.2.2.2.2.2.2.2.2 = r) (C : zCx X y) (E : zE X y) (hd : decode (zmb y) pc = .ok (.iinc a c, k)) (hk : zlok (.iinc a c) k = true) (h : zint (zrun n) (zex (.iinc a c) k y pc ls st R m) = some r) : zG X y pc ls st R m := by
  have hk1 : k = 3 := by simpa [zlok] using hk
  subst hk1
  simp only [zex] at h
  split at h
  · exact g_iinc C hd (by assumption) (ih _ _ _ _ _ _ _ hy h X hX C E)
  all_goals cases h

theorem s_dup {k : Nat} (ih : zSound n) (hy : y < 332) (hX : X.2.2.2.2.2.2.2.2.2.2.2.2.2 = r) (C : zCx X y) (E : zE X y) (hd : decode (zmb y) pc = .ok (.dup, k)) (hk : zlok (.dup) k = true) (h : zint (zrun n) (zex (.dup) k y pc ls st R m) = some r) : zG X y pc ls st R m := by
  have hk1 : k = 1 := by simpa [zlok] using hk
  subst hk1
  simp only [zex] at h
  split at h
  · exact g_dup0 C hd (ih _ _ _ _ _ _ _ hy h X hX C E)
  · exact g_dup2r C hd (ih _ _ _ _ _ _ _ hy h X hX C E)
  all_goals cases h

theorem s_dup2 {k : Nat} (ih : zSound n) (hy : y < 332) (hX : X.2.2.2.2.2.2.2.2.2.2.2.2.2 = r) (C : zCx X y) (E : zE X y) (hd : decode (zmb y) pc = .ok (.dup2, k)) (hk : zlok (.dup2) k = true) (h : zint (zrun n) (zex (.dup2) k y pc ls st R m) = some r) : zG X y pc ls st R m := by
  have hk1 : k = 1 := by simpa [zlok] using hk
  subst hk1
  simp only [zex] at h
  split at h
  · exact g_dup2 C hd (ih _ _ _ _ _ _ _ hy h X hX C E)
  all_goals cases h

theorem s_pop {k : Nat} (ih : zSound n) (hy : y < 332) (hX : X.2.2.2.2.2.2.2.2.2.2.2.2.2 = r) (C : zCx X y) (E : zE X y) (hd : decode (zmb y) pc = .ok (.pop, k)) (hk : zlok (.pop) k = true) (h : zint (zrun n) (zex (.pop) k y pc ls st R m) = some r) : zG X y pc ls st R m := by
  have hk1 : k = 1 := by simpa [zlok] using hk
  subst hk1
  simp only [zex] at h
  split at h
  · exact g_pop0 C hd (ih _ _ _ _ _ _ _ hy h X hX C E)
  · exact g_pop2 C hd (ih _ _ _ _ _ _ _ hy h X hX C E)
  all_goals cases h

theorem s_iadd {k : Nat} (ih : zSound n) (hy : y < 332) (hX : X.2.2.2.2.2.2.2.2.2.2.2.2.2 = r) (C : zCx X y) (E : zE X y) (hd : decode (zmb y) pc = .ok (.iadd, k)) (hk : zlok (.iadd) k = true) (h : zint (zrun n) (zex (.iadd) k y pc ls st R m) = some r) : zG X y pc ls st R m := by
  have hk1 : k = 1 := by simpa [zlok] using hk
  subst hk1
  simp only [zex] at h
  split at h
  · exact g_iadd C hd (ih _ _ _ _ _ _ _ hy h X hX C E)
  all_goals cases h

theorem s_isub {k : Nat} (ih : zSound n) (hy : y < 332) (hX : X.2.2.2.2.2.2.2.2.2.2.2.2.2 = r) (C : zCx X y) (E : zE X y) (hd : decode (zmb y) pc = .ok (.isub, k)) (hk : zlok (.isub) k = true) (h : zint (zrun n) (zex (.isub) k y pc ls st R m) = some r) : zG X y pc ls st R m := by
  have hk1 : k = 1 := by simpa [zlok] using hk
  subst hk1
  simp only [zex] at h
  split at h
  · exact g_isub C hd (ih _ _ _ _ _ _ _ hy h X hX C E)
  all_goals cases h

theorem s_imul {k : Nat} (ih : zSound n) (hy : y < 332) (hX : X.2.2.2.2.2.2.2.2.2.2.2.2.2 = r) (C : zCx X y) (E : zE X y) (hd : decode (zmb y) pc = .ok (.imul, k)) (hk : zlok (.imul) k = true) (h : zint (zrun n) (zex (.imul) k y pc ls st R m) = some r) : zG X y pc ls st R m := by
  have hk1 : k = 1 := by simpa [zlok] using hk
  subst hk1
  simp only [zex] at h
  split at h
  · exact g_imul C hd (ih _ _ _ _ _ _ _ hy h X hX C E)
  all_goals cases h

theorem s_ineg {k : Nat} (ih : zSound n) (hy : y < 332) (hX : X.2.2.2.2.2.2.2.2.2.2.2.2.2 = r) (C : zCx X y) (E : zE X y) (hd : decode (zmb y) pc = .ok (.ineg, k)) (hk : zlok (.ineg) k = true) (h : zint (zrun n) (zex (.ineg) k y pc ls st R m) = some r) : zG X y pc ls st R m := by
  have hk1 : k = 1 := by simpa [zlok] using hk
  subst hk1
  simp only [zex] at h
  split at h
  · exact g_ineg C hd (ih _ _ _ _ _ _ _ hy h X hX C E)
  all_goals cases h

theorem s_iand {k : Nat} (ih : zSound n) (hy : y < 332) (hX : X.2.2.2.2.2.2.2.2.2.2.2.2.2 = r) (C : zCx X y) (E : zE X y) (hd : decode (zmb y) pc = .ok (.iand, k)) (hk : zlok (.iand) k = true) (h : zint (zrun n) (zex (.iand) k y pc ls st R m) = some r) : zG X y pc ls st R m := by
  have hk1 : k = 1 := by simpa [zlok] using hk
  subst hk1
  simp only [zex] at h
  split at h
  · exact g_iand C hd (ih _ _ _ _ _ _ _ hy h X hX C E)
  all_goals cases h

theorem s_ior {k : Nat} (ih : zSound n) (hy : y < 332) (hX : X.2.2.2.2.2.2.2.2.2.2.2.2.2 = r) (C : zCx X y) (E : zE X y) (hd : decode (zmb y) pc = .ok (.ior, k)) (hk : zlok (.ior) k = true) (h : zint (zrun n) (zex (.ior) k y pc ls st R m) = some r) : zG X y pc ls st R m := by
  have hk1 : k = 1 := by simpa [zlok] using hk
  subst hk1
  simp only [zex] at h
  split at h
  · exact g_ior C hd (ih _ _ _ _ _ _ _ hy h X hX C E)
  all_goals cases h

theorem s_ixor {k : Nat} (ih : zSound n) (hy : y < 332) (hX : X.2.2.2.2.2.2.2.2.2.2.2.2.2 = r) (C : zCx X y) (E : zE X y) (hd : decode (zmb y) pc = .ok (.ixor, k)) (hk : zlok (.ixor) k = true) (h : zint (zrun n) (zex (.ixor) k y pc ls st R m) = some r) : zG X y pc ls st R m := by
  have hk1 : k = 1 := by simpa [zlok] using hk
  subst hk1
  simp only [zex] at h
  split at h
  · exact g_ixor C hd (ih _ _ _ _ _ _ _ hy h X hX C E)
  all_goals cases h

theorem s_ishl {k : Nat} (ih : zSound n) (hy : y < 332) (hX : X.2.2.2.2.2.2.2.2.2.2.2.2.2 = r) (C : zCx X y) (E : zE X y) (hd : decode (zmb y) pc = .ok (.ishl, k)) (hk : zlok (.ishl) k = true) (h : zint (zrun n) (zex (.ishl) k y pc ls st R m) = some r) : zG X y pc ls st R m := by
  have hk1 : k = 1 := by simpa [zlok] using hk
  subst hk1
  simp only [zex] at h
  split at h
  · exact g_ishl C hd (ih _ _ _ _ _ _ _ hy h X hX C E)
  all_goals cases h

theorem s_ishr {k : Nat} (ih : zSound n) (hy : y < 332) (hX : X.2.2.2.2.2.2.2.2.2.2.2.2.2 = r) (C : zCx X y) (E : zE X y) (hd : decode (zmb y) pc = .ok (.ishr, k)) (hk : zlok (.ishr) k = true) (h : zint (zrun n) (zex (.ishr) k y pc ls st R m) = some r) : zG X y pc ls st R m := by
  have hk1 : k = 1 := by simpa [zlok] using hk
  subst hk1
  simp only [zex] at h
  split at h
  · exact g_ishr C hd (ih _ _ _ _ _ _ _ hy h X hX C E)
  all_goals cases h

theorem s_ladd {k : Nat} (ih : zSound n) (hy : y < 332) (hX : X.2.2.2.2.2.2.2.2.2.2.2.2.2 = r) (C : zCx X y) (E : zE X y) (hd : decode (zmb y) pc = .ok (.ladd, k)) (hk : zlok (.ladd) k = true) (h : zint (zrun n) (zex (.ladd) k y pc ls st R m) = some r) : zG X y pc ls st R m := by
  have hk1 : k = 1 := by simpa [zlok] using hk
  subst hk1
  simp only [zex] at h
  split at h
  · exact g_ladd C hd (ih _ _ _ _ _ _ _ hy h X hX C E)
  all_goals cases h

theorem s_lsub {k : Nat} (ih : zSound n) (hy : y < 332) (hX : X.2.2.2.2.2.2.2.2.2.2.2.2.2 = r) (C : zCx X y) (E : zE X y) (hd : decode (zmb y) pc = .ok (.lsub, k)) (hk : zlok (.lsub) k = true) (h : zint (zrun n) (zex (.lsub) k y pc ls st R m) = some r) : zG X y pc ls st R m := by
  have hk1 : k = 1 := by simpa [zlok] using hk
  subst hk1
  simp only [zex] at h
  split at h
  · exact g_lsub C hd (ih _ _ _ _ _ _ _ hy h X hX C E)
  all_goals cases h

theorem s_land {k : Nat} (ih : zSound n) (hy : y < 332) (hX : X.2.2.2.2.2.2.2.2.2.2.2.2.2 = r) (C : zCx X y) (E : zE X y) (hd : decode (zmb y) pc = .ok (.land, k)) (hk : zlok (.land) k = true) (h : zint (zrun n) (zex (.land) k y pc ls st R m) = some r) : zG X y pc ls st R m := by
  have hk1 : k = 1 := by simpa [zlok] using hk
  subst hk1
  simp only [zex] at h
  split at h
  · exact g_land C hd (ih _ _ _ _ _ _ _ hy h X hX C E)
  all_goals cases h

theorem s_lor {k : Nat} (ih : zSound n) (hy : y < 332) (hX : X.2.2.2.2.2.2.2.2.2.2.2.2.2 = r) (C : zCx X y) (E : zE X y) (hd : decode (zmb y) pc = .ok (.lor, k)) (hk : zlok (.lor) k = true) (h : zint (zrun n) (zex (.lor) k y pc ls st R m) = some r) : zG X y pc ls st R m := by
  have hk1 : k = 1 := by simpa [zlok] using hk
  subst hk1
  simp only [zex] at h
  split at h
  · exact g_lor C hd (ih _ _ _ _ _ _ _ hy h X hX C E)
  all_goals cases h

theorem s_lxor {k : Nat} (ih : zSound n) (hy : y < 332) (hX : X.2.2.2.2.2.2.2.2.2.2.2.2.2 = r) (C : zCx X y) (E : zE X y) (hd : decode (zmb y) pc = .ok (.lxor, k)) (hk : zlok (.lxor) k = true) (h : zint (zrun n) (zex (.lxor) k y pc ls st R m) = some r) : zG X y pc ls st R m := by
  have hk1 : k = 1 := by simpa [zlok] using hk
  subst hk1
  simp only [zex] at h
  split at h
  · exact g_lxor C hd (ih _ _ _ _ _ _ _ hy h X hX C E)
  all_goals cases h

theorem s_lshl {k : Nat} (ih : zSound n) (hy : y < 332) (hX : X.2.2.2.2.2.2.2.2.2.2.2.2.2 = r) (C : zCx X y) (E : zE X y) (hd : decode (zmb y) pc = .ok (.lshl, k)) (hk : zlok (.lshl) k = true) (h : zint (zrun n) (zex (.lshl) k y pc ls st R m) = some r) : zG X y pc ls st R m := by
  have hk1 : k = 1 := by simpa [zlok] using hk
  subst hk1
  simp only [zex] at h
  split at h
  · exact g_lshl C hd (ih _ _ _ _ _ _ _ hy h X hX C E)
  all_goals cases h

theorem s_lshr {k : Nat} (ih : zSound n) (hy : y < 332) (hX : X.2.2.2.2.2.2.2.2.2.2.2.2.2 = r) (C : zCx X y) (E : zE X y) (hd : decode (zmb y) pc = .ok (.lshr, k)) (hk : zlok (.lshr) k = true) (h : zint (zrun n) (zex (.lshr) k y pc ls st R m) = some r) : zG X y pc ls st R m := by
  have hk1 : k = 1 := by simpa [zlok] using hk
  subst hk1
  simp only [zex] at h
  split at h
  · exact g_lshr C hd (ih _ _ _ _ _ _ _ hy h X hX C E)
  all_goals cases h

theorem s_lushr {k : Nat} (ih : zSound n) (hy : y < 332) (hX : X.2.2.2.2.2.2.2.2.2.2.2.2.2 = r) (C : zCx X y) (E : zE X y) (hd : decode (zmb y) pc = .ok (.lushr, k)) (hk : zlok (.lushr) k = true) (h : zint (zrun n) (zex (.lushr) k y pc ls st R m) = some r) : zG X y pc ls st R m := by
  have hk1 : k = 1 := by simpa [zlok] using hk
  subst hk1
  simp only [zex] at h
  split at h
  · exact g_lushr C hd (ih _ _ _ _ _ _ _ hy h X hX C E)
  all_goals cases h

theorem s_lcmp {k : Nat} (ih : zSound n) (hy : y < 332) (hX : X.2.2.2.2.2.2.2.2.2.2.2.2.2 = r) (C : zCx X y) (E : zE X y) (hd : decode (zmb y) pc = .ok (.lcmp, k)) (hk : zlok (.lcmp) k = true) (h : zint (zrun n) (zex (.lcmp) k y pc ls st R m) = some r) : zG X y pc ls st R m := by
  have hk1 : k = 1 := by simpa [zlok] using hk
  subst hk1
  simp only [zex] at h
  split at h
  · exact g_lcmp C hd (ih _ _ _ _ _ _ _ hy h X hX C E)
  all_goals cases h

theorem s_i2l {k : Nat} (ih : zSound n) (hy : y < 332) (hX : X.2.2.2.2.2.2.2.2.2.2.2.2.2 = r) (C : zCx X y) (E : zE X y) (hd : decode (zmb y) pc = .ok (.i2l, k)) (hk : zlok (.i2l) k = true) (h : zint (zrun n) (zex (.i2l) k y pc ls st R m) = some r) : zG X y pc ls st R m := by
  have hk1 : k = 1 := by simpa [zlok] using hk
  subst hk1
  simp only [zex] at h
  split at h
  · exact g_i2l C hd (ih _ _ _ _ _ _ _ hy h X hX C E)
  all_goals cases h

theorem s_l2i {k : Nat} (ih : zSound n) (hy : y < 332) (hX : X.2.2.2.2.2.2.2.2.2.2.2.2.2 = r) (C : zCx X y) (E : zE X y) (hd : decode (zmb y) pc = .ok (.l2i, k)) (hk : zlok (.l2i) k = true) (h : zint (zrun n) (zex (.l2i) k y pc ls st R m) = some r) : zG X y pc ls st R m := by
  have hk1 : k = 1 := by simpa [zlok] using hk
  subst hk1
  simp only [zex] at h
  split at h
  · exact g_l2i C hd (ih _ _ _ _ _ _ _ hy h X hX C E)
  all_goals cases h

theorem s_i2b {k : Nat} (ih : zSound n) (hy : y < 332) (hX : X.2.2.2.2.2.2.2.2.2.2.2.2.2 = r) (C : zCx X y) (E : zE X y) (hd : decode (zmb y) pc = .ok (.i2b, k)) (hk : zlok (.i2b) k = true) (h : zint (zrun n) (zex (.i2b) k y pc ls st R m) = some r) : zG X y pc ls st R m := by
  have hk1 : k = 1 := by simpa [zlok] using hk
  subst hk1
  simp only [zex] at h
  split at h
  · exact g_i2b C hd (ih _ _ _ _ _ _ _ hy h X hX C E)
  all_goals cases h

theorem s_i2s {k : Nat} (ih : zSound n) (hy : y < 332) (hX : X.2.2.2.2.2.2.2.2.2.2.2.2.2 = r) (C : zCx X y) (E : zE X y) (hd : decode (zmb y) pc = .ok (.i2s, k)) (hk : zlok (.i2s) k = true) (h : zint (zrun n) (zex (.i2s) k y pc ls st R m) = some r) : zG X y pc ls st R m := by
  have hk1 : k = 1 := by simpa [zlok] using hk
  subst hk1
  simp only [zex] at h
  split at h
  · exact g_i2s C hd (ih _ _ _ _ _ _ _ hy h X hX C E)
  all_goals cases h

theorem s_idiv {k : Nat} (ih : zSound n) (hy : y < 332) (hX : X.2.2.2.2.2.2.2.2.2.2.2.2.2 = r) (C : zCx X y) (E : zE X y) (hd : decode (zmb y) pc = .ok (.idiv, k)) (hk : zlok (.idiv) k = true) (h : zint (zrun n) (zex (.idiv) k y pc ls st R m) = some r) : zG X y pc ls st R m := by
  have hk1 : k = 1 := by simpa [zlok] using hk
  subst hk1
  simp only [zex] at h
  split at h
  · split at h
    · cases h
    · exact g_idiv C hd (by assumption) (ih _ _ _ _ _ _ _ hy h X hX C E)
  all_goals cases h

theorem s_irem {k : Nat} (ih : zSound n) (hy : y < 332) (hX : X.2.2.2.2.2.2.2.2.2.2.2.2.2 = r) (C : zCx X y) (E : zE X y) (hd : decode (zmb y) pc = .ok (.irem, k)) (hk : zlok (.irem) k = true) (h : zint (zrun n) (zex (.irem) k y pc ls st R m) = some r) : zG X y pc ls st R m := by
  have hk1 : k = 1 := by simpa [zlok] using hk
  subst hk1
  simp only [zex] at h
  split at h
  · split at h
    · cases h
    · exact g_irem C hd (by assumption) (ih _ _ _ _ _ _ _ hy h X hX C E)
  all_goals cases h

theorem s_goto {k : Nat} {off : Int} (ih : zSound n) (hy : y < 332) (hX : X.2.2.2.2.2.2.2.2.2.2.2.2.2 = r) (C : zCx X y) (E : zE X y) (hd : decode (zmb y) pc = .ok (.goto off, k)) (hk : zlok (.goto off) k = true) (h : zint (zrun n) (zex (.goto off) k y pc ls st R m) = some r) : zG X y pc ls st R m := by
  have hk1 : k = 3 := by simpa [zlok] using hk
  subst hk1
  simp only [zex] at h
  obtain ⟨h0, h1, -⟩ := zto_some h
  exact g_goto C hd h0 (ih _ _ _ _ _ _ _ hy (h1 rfl) X hX C E)

theorem s_ifCond {k : Nat} {c : Jvm.ClassFile.Cond} {off : Int} (ih : zSound n) (hy : y < 332) (hX : X.2.2.2.2.2.2.2.2.2.2.2.2.2 = r) (C : zCx X y) (E : zE X y) (hd : decode (zmb y) pc = .ok (.ifCond c off, k)) (hk : zlok (.ifCond c off) k = true) (h : zint (zrun n) (zex (.ifCond c off) k y pc ls st R m) = some r) : zG X y pc ls st R m := by
  have hk1 : k = 3 := by simpa [zlok] using hk
  subst hk1
  simp only [zex] at h
  split at h
  · obtain ⟨h0, h1, h2⟩ := zto_some h
    cases c
    · exact g_if_eq C hd h0 (fun q => ih _ _ _ _ _ _ _ hy (h1 (by simpa [zcmp] using q)) X hX C E) (fun q => ih _ _ _ _ _ _ _ hy (h2 (by simpa [zcmp] using q)) X hX C E)
    · exact g_if_ne C hd h0 (fun q => ih _ _ _ _ _ _ _ hy (h1 (by simpa [zcmp] using q)) X hX C E) (fun q => ih _ _ _ _ _ _ _ hy (h2 (by simpa [zcmp] using q)) X hX C E)
    · exact g_if_lt C hd h0 (fun q => ih _ _ _ _ _ _ _ hy (h1 (by simpa [zcmp] using q)) X hX C E) (fun q => ih _ _ _ _ _ _ _ hy (h2 (by simpa [zcmp] using q)) X hX C E)
    · exact g_if_ge C hd h0 (fun q => ih _ _ _ _ _ _ _ hy (h1 (by simpa [zcmp] using q)) X hX C E) (fun q => ih _ _ _ _ _ _ _ hy (h2 (by simpa [zcmp] using q)) X hX C E)
    · exact g_if_gt C hd h0 (fun q => ih _ _ _ _ _ _ _ hy (h1 (by simpa [zcmp] using q)) X hX C E) (fun q => ih _ _ _ _ _ _ _ hy (h2 (by simpa [zcmp] using q)) X hX C E)
    · exact g_if_le C hd h0 (fun q => ih _ _ _ _ _ _ _ hy (h1 (by simpa [zcmp] using q)) X hX C E) (fun q => ih _ _ _ _ _ _ _ hy (h2 (by simpa [zcmp] using q)) X hX C E)
  all_goals cases h

theorem s_if_icmp {k : Nat} {c : Jvm.ClassFile.Cond} {off : Int} (ih : zSound n) (hy : y < 332) (hX : X.2.2.2.2.2.2.2.2.2.2.2.2.2 = r) (C : zCx X y) (E : zE X y) (hd : decode (zmb y) pc = .ok (.if_icmp c off, k)) (hk : zlok (.if_icmp c off) k = true) (h : zint (zrun n) (zex (.if_icmp c off) k y pc ls st R m) = some r) : zG X y pc ls st R m := by
  have hk1 : k = 3 := by simpa [zlok] using hk
  subst hk1
  simp only [zex] at h
  split at h
  · obtain ⟨h0, h1, h2⟩ := zto_some h
    cases c
    · exact g_icmp_eq C hd h0 (fun q => ih _ _ _ _ _ _ _ hy (h1 (by simpa [zcmp] using q)) X hX C E) (fun q => ih _ _ _ _ _ _ _ hy (h2 (by simpa [zcmp] using q)) X hX C E)
    · exact g_icmp_ne C hd h0 (fun q => ih _ _ _ _ _ _ _ hy (h1 (by simpa [zcmp] using q)) X hX C E) (fun q => ih _ _ _ _ _ _ _ hy (h2 (by simpa [zcmp] using q)) X hX C E)
    · exact g_icmp_lt C hd h0 (fun q => ih _ _ _ _ _ _ _ hy (h1 (by simpa [zcmp] using q)) X hX C E) (fun q => ih _ _ _ _ _ _ _ hy (h2 (by simpa [zcmp] using q)) X hX C E)
    · exact g_icmp_ge C hd h0 (fun q => ih _ _ _ _ _ _ _ hy (h1 (by simpa [zcmp] using q)) X hX C E) (fun q => ih _ _ _ _ _ _ _ hy (h2 (by simpa [zcmp] using q)) X hX C E)
    · exact g_icmp_gt C hd h0 (fun q => ih _ _ _ _ _ _ _ hy (h1 (by simpa [zcmp] using q)) X hX C E) (fun q => ih _ _ _ _ _ _ _ hy (h2 (by simpa [zcmp] using q)) X hX C E)
    · exact g_icmp_le C hd h0 (fun q => ih _ _ _ _ _ _ _ hy (h1 (by simpa [zcmp] using q)) X hX C E) (fun q => ih _ _ _ _ _ _ _ hy (h2 (by simpa [zcmp] using q)) X hX C E)
  all_goals cases h

theorem s_ifnull {k : Nat} {off : Int} (ih : zSound n) (hy : y < 332) (hX : X.2.2.2.2.2.2.2.2.2.2.2.2.2 = r) (C : zCx X y) (E : zE X y) (hd : decode (zmb y) pc = .ok (.ifnull off, k)) (hk : zlok (.ifnull off) k = true) (h : zint (zrun n) (zex (.ifnull off) k y pc ls st R m) = some r) : zG X y pc ls st R m := by
  have hk1 : k = 3 := by simpa [zlok] using hk
  subst hk1
  simp only [zex] at h
  split at h
  · obtain ⟨h0, h1, h2⟩ := zto_some h
    exact g_ifnull C hd h0 (fun q => ih _ _ _ _ _ _ _ hy (h1 (by simpa using q)) X hX C E) (fun q => ih _ _ _ _ _ _ _ hy (h2 (by simpa using q)) X hX C E)
  all_goals cases h

theorem s_ifnonnull {k : Nat} {off : Int} (ih : zSound n) (hy : y < 332) (hX : X.2.2.2.2.2.2.2.2.2.2.2.2.2 = r) (C : zCx X y) (E : zE X y) (hd : decode (zmb y) pc = .ok (.ifnonnull off, k)) (hk : zlok (.ifnonnull off) k = true) (h : zint (zrun n) (zex (.ifnonnull off) k y pc ls st R m) = some r) : zG X y pc ls st R m := by
  have hk1 : k = 3 := by simpa [zlok] using hk
  subst hk1
  simp only [zex] at h
  split at h
  · obtain ⟨h0, h1, h2⟩ := zto_some h
    exact g_ifnonnull C hd h0 (fun q => ih _ _ _ _ _ _ _ hy (h1 (by simpa using q)) X hX C E) (fun q => ih _ _ _ _ _ _ _ hy (h2 (by simpa using q)) X hX C E)
  all_goals cases h

theorem s_tableswitch {k : Nat} {d lo hi : Int} {offs : Array Int} (ih : zSound n) (hy : y < 332) (hX : X.2.2.2.2.2.2.2.2.2.2.2.2.2 = r) (C : zCx X y) (E : zE X y) (hd : decode (zmb y) pc = .ok (.tableswitch d lo hi offs, k)) (hk : zlok (.tableswitch d lo hi offs) k = true) (h : zint (zrun n) (zex (.tableswitch d lo hi offs) k y pc ls st R m) = some r) : zG X y pc ls st R m := by
  simp only [zex] at h
  split at h
  · split at h
    next hq =>
      obtain ⟨h0, h1, -⟩ := zto_some h
      exact g_tabOut C hd h0 hq (ih _ _ _ _ _ _ _ hy (h1 rfl) X hX C E)
    next hq =>
      split at h
      next off ho =>
        obtain ⟨h0, h1, -⟩ := zto_some h
        exact g_tabIn C hd h0 hq ho (ih _ _ _ _ _ _ _ hy (h1 rfl) X hX C E)
      next => cases h
  all_goals cases h

theorem s_lookupswitch {k : Nat} {d : Int} {ps : Array (Int × Int)} (ih : zSound n) (hy : y < 332) (hX : X.2.2.2.2.2.2.2.2.2.2.2.2.2 = r) (C : zCx X y) (E : zE X y) (hd : decode (zmb y) pc = .ok (.lookupswitch d ps, k)) (hk : zlok (.lookupswitch d ps) k = true) (h : zint (zrun n) (zex (.lookupswitch d ps) k y pc ls st R m) = some r) : zG X y pc ls st R m := by
  simp only [zex] at h
  split at h
  · split at h
    next hq =>
      obtain ⟨h0, h1, -⟩ := zto_some h
      exact g_lookup C hd hq h0 (ih _ _ _ _ _ _ _ hy (h1 rfl) X hX C E)
    next => cases h
  all_goals cases h

theorem s_ldc {k : Nat} {a : Nat} (ih : zSound n) (hy : y < 332) (hX : X.2.2.2.2.2.2.2.2.2.2.2.2.2 = r) (C : zCx X y) (E : zE X y) (hd : decode (zmb y) pc = .ok (.ldc a, k)) (hk : zlok (.ldc a) k = true) (h : zint (zrun n) (zex (.ldc a) k y pc ls st R m) = some r) : zG X y pc ls st R m := by
  have hk1 : k = 2 := by simpa [zlok] using hk
  subst hk1
  simp only [zex] at h
  split at h
  · exact g_ldc C hd (by assumption) (ih _ _ _ _ _ _ _ hy h X hX C E)
  · exact g_ldcS C hd (by assumption) (ih _ _ _ _ _ _ _ hy h X hX C E)
  all_goals cases h

theorem s_ldc_w {k : Nat} {a : Nat} (ih : zSound n) (hy : y < 332) (hX : X.2.2.2.2.2.2.2.2.2.2.2.2.2 = r) (C : zCx X y) (E : zE X y) (hd : decode (zmb y) pc = .ok (.ldc_w a, k)) (hk : zlok (.ldc_w a) k = true) (h : zint (zrun n) (zex (.ldc_w a) k y pc ls st R m) = some r) : zG X y pc ls st R m := by
  have hk1 : k = 3 := by simpa [zlok] using hk
  subst hk1
  simp only [zex] at h
  split at h
  · exact g_ldcw C hd (by assumption) (ih _ _ _ _ _ _ _ hy h X hX C E)
  all_goals cases h

theorem s_ldc2_w {k : Nat} {a : Nat} (ih : zSound n) (hy : y < 332) (hX : X.2.2.2.2.2.2.2.2.2.2.2.2.2 = r) (C : zCx X y) (E : zE X y) (hd : decode (zmb y) pc = .ok (.ldc2_w a, k)) (hk : zlok (.ldc2_w a) k = true) (h : zint (zrun n) (zex (.ldc2_w a) k y pc ls st R m) = some r) : zG X y pc ls st R m := by
  have hk1 : k = 3 := by simpa [zlok] using hk
  subst hk1
  simp only [zex] at h
  split at h
  · exact g_ldc2 C hd (by assumption) (ih _ _ _ _ _ _ _ hy h X hX C E)
  all_goals cases h

theorem s_getfield {k : Nat} {a : Nat} (ih : zSound n) (hy : y < 332) (hX : X.2.2.2.2.2.2.2.2.2.2.2.2.2 = r) (C : zCx X y) (E : zE X y) (hd : decode (zmb y) pc = .ok (.getfield a, k)) (hk : zlok (.getfield a) k = true) (h : zint (zrun n) (zex (.getfield a) k y pc ls st R m) = some r) : zG X y pc ls st R m := by
  have hk1 : k = 3 := by simpa [zlok] using hk
  subst hk1
  simp only [zex] at h
  split at h
  · split at h
    · split at h
      next hk =>
        refine g_get C hd (by assumption) hk ?_
        split at h
        next h2 => rw [if_pos h2]; exact ih _ _ _ _ _ _ _ hy h X hX C E
        next h2 => rw [if_neg h2]; exact ih _ _ _ _ _ _ _ hy h X hX C E
      next => cases h
    · cases h
  all_goals cases h

theorem s_putfield {k : Nat} {a : Nat} (ih : zSound n) (hy : y < 332) (hX : X.2.2.2.2.2.2.2.2.2.2.2.2.2 = r) (C : zCx X y) (E : zE X y) (hd : decode (zmb y) pc = .ok (.putfield a, k)) (hk : zlok (.putfield a) k = true) (h : zint (zrun n) (zex (.putfield a) k y pc ls st R m) = some r) : zG X y pc ls st R m := by
  have hk1 : k = 3 := by simpa [zlok] using hk
  subst hk1
  simp only [zex] at h
  split at h
  · split at h
    · split at h
      next hk =>
        split at h
        next h2 => obtain ⟨h2, rfl⟩ := h2; exact g_putI C hd (by assumption) hk h2 (ih _ _ _ _ _ _ _ hy h X hX C E)
        next =>
          split at h
          next h2 => obtain ⟨h2, rfl, h3⟩ := h2; exact g_putZ C hd (by assumption) hk h2 h3 (ih _ _ _ _ _ _ _ hy h X hX C E)
          next =>
            split at h
            next h2 => obtain ⟨h2, rfl, h3, h4⟩ := h2; exact g_putR C hd (by assumption) hk h2 h3 h4 (ih _ _ _ _ _ _ _ hy h X hX C E)
            next => cases h
      next => cases h
    · cases h
  all_goals cases h

theorem s_iaload {k : Nat} (ih : zSound n) (hy : y < 332) (hX : X.2.2.2.2.2.2.2.2.2.2.2.2.2 = r) (C : zCx X y) (E : zE X y) (hd : decode (zmb y) pc = .ok (.iaload, k)) (hk : zlok (.iaload) k = true) (h : zint (zrun n) (zex (.iaload) k y pc ls st R m) = some r) : zG X y pc ls st R m := by
  have hk1 : k = 1 := by simpa [zlok] using hk
  subst hk1
  simp only [zex] at h
  split at h
  · split at h
    next hq => exact g_iaload C hd hq.1 hq.2.1 hq.2.2 (ih _ _ _ _ _ _ _ hy h X hX C E)
    next => cases h
  · split at h
    next hq => exact g_saload C hd hq.1 hq.2 (ih _ _ _ _ _ _ _ hy h X hX C E)
    next => cases h
  all_goals cases h

theorem s_laload {k : Nat} (ih : zSound n) (hy : y < 332) (hX : X.2.2.2.2.2.2.2.2.2.2.2.2.2 = r) (C : zCx X y) (E : zE X y) (hd : decode (zmb y) pc = .ok (.laload, k)) (hk : zlok (.laload) k = true) (h : zint (zrun n) (zex (.laload) k y pc ls st R m) = some r) : zG X y pc ls st R m := by
  have hk1 : k = 1 := by simpa [zlok] using hk
  subst hk1
  simp only [zex] at h
  split at h
  · split at h
    next hq => exact g_laload C hd hq.1 hq.2.1 hq.2.2 (ih _ _ _ _ _ _ _ hy h X hX C E)
    next => cases h
  all_goals cases h


theorem s_aaload {k : Nat} (ih : zSound n) (hy : y < 332) (hX : X.2.2.2.2.2.2.2.2.2.2.2.2.2 = r) (C : zCx X y) (E : zE X y) (hd : decode (zmb y) pc = .ok (.aaload, k)) (hk : zlok (.aaload) k = true) (h : zint (zrun n) (zex (.aaload) k y pc ls st R m) = some r) : zG X y pc ls st R m := by
  have hk1 : k = 1 := by simpa [zlok] using hk
  subst hk1
  simp only [zex] at h
  split at h
  · split at h
    next hq => exact g_aaload C hd hq.1 hq.2.1 hq.2.2 (ih _ _ _ _ _ _ _ hy h X hX C E)
    next => cases h
  all_goals cases h

theorem s_iastore {k : Nat} (ih : zSound n) (hy : y < 332) (hX : X.2.2.2.2.2.2.2.2.2.2.2.2.2 = r) (C : zCx X y) (E : zE X y) (hd : decode (zmb y) pc = .ok (.iastore, k)) (hk : zlok (.iastore) k = true) (h : zint (zrun n) (zex (.iastore) k y pc ls st R m) = some r) : zG X y pc ls st R m := by
  have hk1 : k = 1 := by simpa [zlok] using hk
  subst hk1
  simp only [zex] at h
  split at h
  · split at h
    next hq => exact g_iastore C hd hq.1 hq.2.1 hq.2.2 (ih _ _ _ _ _ _ _ hy h X hX C E)
    next => cases h
  all_goals cases h

theorem s_lastore {k : Nat} (ih : zSound n) (hy : y < 332) (hX : X.2.2.2.2.2.2.2.2.2.2.2.2.2 = r) (C : zCx X y) (E : zE X y) (hd : decode (zmb y) pc = .ok (.lastore, k)) (hk : zlok (.lastore) k = true) (h : zint (zrun n) (zex (.lastore) k y pc ls st R m) = some r) : zG X y pc ls st R m := by
  have hk1 : k = 1 := by simpa [zlok] using hk
  subst hk1
  simp only [zex] at h
  split at h
  · split at h
    next hq => exact g_lastore C hd hq.1 hq.2.1 hq.2.2 (ih _ _ _ _ _ _ _ hy h X hX C E)
    next => cases h
  all_goals cases h


theorem s_aastore {k : Nat} (ih : zSound n) (hy : y < 332) (hX : X.2.2.2.2.2.2.2.2.2.2.2.2.2 = r) (C : zCx X y) (E : zE X y) (hd : decode (zmb y) pc = .ok (.aastore, k)) (hk : zlok (.aastore) k = true) (h : zint (zrun n) (zex (.aastore) k y pc ls st R m) = some r) : zG X y pc ls st R m := by
  have hk1 : k = 1 := by simpa [zlok] using hk
  subst hk1
  simp only [zex] at h
  split at h
  · split at h
    next hq => exact g_aastore C hd hq.1 hq.2.1 hq.2.2.1 hq.2.2.2 (ih _ _ _ _ _ _ _ hy h X hX C E)
    next => cases h
  all_goals cases h

theorem s_arraylength {k : Nat} (ih : zSound n) (hy : y < 332) (hX : X.2.2.2.2.2.2.2.2.2.2.2.2.2 = r) (C : zCx X y) (E : zE X y) (hd : decode (zmb y) pc = .ok (.arraylength, k)) (hk : zlok (.arraylength) k = true) (h : zint (zrun n) (zex (.arraylength) k y pc ls st R m) = some r) : zG X y pc ls st R m := by
  have hk1 : k = 1 := by simpa [zlok] using hk
  subst hk1
  simp only [zex] at h
  split at h
  · split at h
    next hq => exact g_alen C hd hq.1 hq.2 (ih _ _ _ _ _ _ _ hy h X hX C E)
    next => cases h
  · exact g_salen C hd (ih _ _ _ _ _ _ _ hy h X hX C E)
  all_goals cases h

theorem s_new {k : Nat} {a : Nat} (ih : zSound n) (hy : y < 332) (hX : X.2.2.2.2.2.2.2.2.2.2.2.2.2 = r) (C : zCx X y) (E : zE X y) (hd : decode (zmb y) pc = .ok (.new a, k)) (hk : zlok (.new a) k = true) (h : zint (zrun n) (zex (.new a) k y pc ls st R m) = some r) : zG X y pc ls st R m := by
  have hk1 : k = 3 := by simpa [zlok] using hk
  subst hk1
  simp only [zex] at h
  split at h
  · split at h
    next hq =>
      refine g_new C hd (by assumption) hq.1 ?_ (ih _ _ _ _ _ _ _ hy h X hX C E)
      rw [hX]
      exact zmono _ _ _ h
    next => cases h
  · cases h

theorem s_newarray_int {k : Nat} (ih : zSound n) (hy : y < 332) (hX : X.2.2.2.2.2.2.2.2.2.2.2.2.2 = r) (C : zCx X y) (E : zE X y) (hd : decode (zmb y) pc = .ok (.newarray .int, k)) (hk : zlok (.newarray .int) k = true) (h : zint (zrun n) (zex (.newarray .int) k y pc ls st R m) = some r) : zG X y pc ls st R m := by
  have hk1 : k = 2 := by simpa [zlok] using hk
  subst hk1
  simp only [zex, zna] at h
  split at h
  · split at h
    next hq =>
      refine g_newI C hd hq.1 hq.2.1 hq.2.2.1 ?_ (ih _ _ _ _ _ _ _ hy h X hX C E)
      rw [hX]
      exact zmono _ _ _ h
    next => cases h
  all_goals cases h

theorem s_newarray_long {k : Nat} (ih : zSound n) (hy : y < 332) (hX : X.2.2.2.2.2.2.2.2.2.2.2.2.2 = r) (C : zCx X y) (E : zE X y) (hd : decode (zmb y) pc = .ok (.newarray .long, k)) (hk : zlok (.newarray .long) k = true) (h : zint (zrun n) (zex (.newarray .long) k y pc ls st R m) = some r) : zG X y pc ls st R m := by
  have hk1 : k = 2 := by simpa [zlok] using hk
  subst hk1
  simp only [zex, zna] at h
  split at h
  · split at h
    next hq =>
      refine g_newJ C hd hq.1 hq.2.1 hq.2.2.1 ?_ (ih _ _ _ _ _ _ _ hy h X hX C E)
      rw [hX]
      exact zmono _ _ _ h
    next => cases h
  all_goals cases h


theorem s_anewarray {k : Nat} {a : Nat} (ih : zSound n) (hy : y < 332) (hX : X.2.2.2.2.2.2.2.2.2.2.2.2.2 = r) (C : zCx X y) (E : zE X y) (hd : decode (zmb y) pc = .ok (.anewarray a, k)) (hk : zlok (.anewarray a) k = true) (h : zint (zrun n) (zex (.anewarray a) k y pc ls st R m) = some r) : zG X y pc ls st R m := by
  have hk1 : k = 3 := by simpa [zlok] using hk
  subst hk1
  simp only [zex, zna] at h
  split at h
  · split at h
    · split at h
      next hq =>
        refine g_newQ C hd (by assumption) hq.1 hq.2.1 hq.2.2.1 ?_ (ih _ _ _ _ _ _ _ hy h X hX C E)
        rw [hX]
        exact zmono _ _ _ h
      next => cases h
    all_goals cases h
  all_goals cases h

theorem s_invokevirtual {k : Nat} {a : Nat} (ih : zSound n) (hy : y < 332) (hX : X.2.2.2.2.2.2.2.2.2.2.2.2.2 = r) (C : zCx X y) (E : zE X y) (hd : decode (zmb y) pc = .ok (.invokevirtual a, k)) (hk : zlok (.invokevirtual a) k = true) (h : zint (zrun n) (zex (.invokevirtual a) k y pc ls st R m) = some r) : zG X y pc ls st R m := by
  have hk1 : k = 3 := by simpa [zlok] using hk
  subst hk1
  simp only [zex, zcal] at h
  split at h
  all_goals first
    | (exfalso; omega)
    | (cases h; done)
    | (split at h
       · next hq =>
         obtain ⟨r1, hc1, hr1, hr2⟩ := zinv_some h
         exact g_callV ih C hd (by assumption) hr1 hc1 hq (by rw [hX]; exact zmono _ _ _ hr2) (ih _ _ _ _ _ _ _ hy hr2 X hX C E)
       · cases h)
    | (split at h
       · split at h
         · next hq => exact g_slen C hd (by assumption) hq (ih _ _ _ _ _ _ _ hy h X hX C E)
         · cases h
       all_goals cases h)
    | (split at h
       · split at h
         · next hq => exact g_schr C hd (by assumption) hq.1 hq.2.1 hq.2.2 (ih _ _ _ _ _ _ _ hy h X hX C E)
         · cases h
       all_goals cases h)
    | (exfalso; omega)

theorem s_invokestatic {k : Nat} {a : Nat} (ih : zSound n) (hy : y < 332) (hX : X.2.2.2.2.2.2.2.2.2.2.2.2.2 = r) (C : zCx X y) (E : zE X y) (hd : decode (zmb y) pc = .ok (.invokestatic a, k)) (hk : zlok (.invokestatic a) k = true) (h : zint (zrun n) (zex (.invokestatic a) k y pc ls st R m) = some r) : zG X y pc ls st R m := by
  have hk1 : k = 3 := by simpa [zlok] using hk
  subst hk1
  simp only [zex, zcal] at h
  split at h
  all_goals first
    | (exfalso; omega)
    | (cases h; done)
    | (obtain ⟨r1, hc1, hr1, hr2⟩ := zinv_some h
       exact g_callS ih C hd (by assumption) hr1 hc1 (by rw [hX]; exact zmono _ _ _ hr2) (ih _ _ _ _ _ _ _ hy hr2 X hX C E))
    | (obtain ⟨r1, hc1, hr1, hr2⟩ := zinv_some h
       exact g_callSN ih C hd (by assumption) hr1 hc1 (by rw [hX]; exact zmono _ _ _ hr2) (ih _ _ _ _ _ _ _ hy hr2 X hX C E))
    | (split at h
       · split at h
         · next hq => exact g_mabs C hd (by assumption) hq.1 hq.2 (ih _ _ _ _ _ _ _ hy h X hX C E)
         · cases h
       all_goals cases h)
    | (split at h
       · split at h
         · next hq => exact g_mmax C hd (by assumption) hq.1 hq.2 (ih _ _ _ _ _ _ _ hy h X hX C E)
         · cases h
       all_goals cases h)
    | (split at h
       · split at h
         · next hq => exact g_mmin C hd (by assumption) hq.1 hq.2 (ih _ _ _ _ _ _ _ hy h X hX C E)
         · cases h
       all_goals cases h)
    | (split at h
       · split at h
         · next hq => exact g_fdiv C hd (by assumption) hq.1 hq.2.1 hq.2.2 (ih _ _ _ _ _ _ _ hy h X hX C E)
         · cases h
       all_goals cases h)

theorem s_invokespecial {k : Nat} {a : Nat} (ih : zSound n) (hy : y < 332) (hX : X.2.2.2.2.2.2.2.2.2.2.2.2.2 = r) (C : zCx X y) (E : zE X y) (hd : decode (zmb y) pc = .ok (.invokespecial a, k)) (hk : zlok (.invokespecial a) k = true) (h : zint (zrun n) (zex (.invokespecial a) k y pc ls st R m) = some r) : zG X y pc ls st R m := by
  have hk1 : k = 3 := by simpa [zlok] using hk
  subst hk1
  simp only [zex, zcal] at h
  split at h
  all_goals first
    | (exfalso; omega)
    | (cases h; done)
    | (split at h
       · next hq =>
         obtain ⟨r1, hc1, hr1, hr2⟩ := zinv_some h
         exact g_callI ih C hd (by assumption) hr1 hc1 hq (by rw [hX]; exact zmono _ _ _ hr2) (ih _ _ _ _ _ _ _ hy hr2 X hX C E)
       · cases h)
    | (split at h
       · next hq =>
         obtain ⟨r1, hc1, hr1, hr2⟩ := zinv_some h
         exact g_callIN ih C hd (by assumption) hr1 hc1 hq (by rw [hX]; exact zmono _ _ _ hr2) (ih _ _ _ _ _ _ _ hy hr2 X hX C E)
       · cases h)
    | (split at h
       · split at h
         · next hq => exact g_oinit C hd (by assumption) hq.1 hq.2.1 hq.2.2 (ih _ _ _ _ _ _ _ hy h X hX C E)
         · cases h
       all_goals cases h)

theorem z_ret {p : Program} {l : Launch} {e : Env} {Rm : Room} {s : State} {mi : MethodId} {args : Array Value} {below : List Frame} {meth : Method} {c : Code} {Q : State → Prop} {B b : Nat} {adK : Nat → Nat} {D : va_G} {cy : ClassId × ClassId × ClassId × ClassId} {L : Nat} {xs : Nat → Int32} {Re : zM} {v : zV} (hX : X = (p, l, e, Rm, s, mi, args, below, meth, c, Q, (B, b, adK, D, cy, L, xs), Re, (v, R, m))) (E : zE X y) {k : Nat}
    (h : (decode (zmb y) pc = .ok (.return_, 1) ∧ v.1 = 9 ∧ zmr y = none ∧ st = []) ∨ ((decode (zmb y) pc = .ok (.ireturn, 1) ∧ v.1 = 0 ∧ (zmr y = some .int ∨ (zmr y = some .boolean ∧ (v.2 = 0 ∨ v.2 = 1)))) ∧ st = [v]) ∨ ((decode (zmb y) pc = .ok (.lreturn, 1) ∧ v.1 = 1 ∧ zmr y = some .long) ∧ st = [v]) ∨ ((decode (zmb y) pc = .ok (.areturn, 1) ∧ v.1 = 3 ∧ ∃ n, zmr y = some (.object n)) ∧ st = [v])) : zG X y pc ls st R m := by
  subst hX
  intro H LS locs cells slots hJ hl hls hst hR hc hs
  subst hc
  subst hs
  rcases h with ⟨h1, h2, h3, rfl⟩ | ⟨⟨h1, h2, h3⟩, rfl⟩ | ⟨⟨h1, h2, h3⟩, rfl⟩ | ⟨⟨h1, h2, h3⟩, rfl⟩
  · exact (E pc H LS locs hJ (by show zvok R v; unfold zvok; rw [h2]; trivial)).1 h1 h2 h3
  · exact (E pc H LS locs hJ (z_hd hst)).2.1 h1 h2 h3
  · exact (E pc H LS locs hJ (z_hd hst)).2.2.1 h1 h2 h3
  · exact (E pc H LS locs hJ (z_hd hst)).2.2.2 h1 h2 h3

theorem s_ireturn {k : Nat} (ih : zSound n) (hy : y < 332) (hX : X.2.2.2.2.2.2.2.2.2.2.2.2.2 = r) (C : zCx X y) (E : zE X y) (hd : decode (zmb y) pc = .ok (.ireturn, k)) (hk : zlok (.ireturn) k = true) (h : zint (zrun n) (zex (.ireturn) k y pc ls st R m) = some r) : zG X y pc ls st R m := by
  have hk1 : k = 1 := by simpa [zlok] using hk
  subst hk1
  simp only [zex] at h
  obtain ⟨p, l, e, Rm, s, mi, args, below, meth, c, Q, ⟨B, b, adK, D, cy, L, xs⟩, Re, rr⟩ := X
  have hX : rr = r := hX
  split at h
  · split at h
    next hz =>
      simp only [zint, Option.some.injEq] at h
      exact z_ret (by rw [hX, ← h]) E (k := 0) (Or.inr (Or.inl ⟨⟨hd, rfl, Or.inl hz⟩, rfl⟩))
    next hz =>
      split at h
      next hq =>
        simp only [zint, Option.some.injEq] at h
        exact z_ret (by rw [hX, ← h]) E (k := 0) (Or.inr (Or.inl ⟨⟨hd, rfl, Or.inr ⟨hz, hq⟩⟩, rfl⟩))
      next => cases h
    next => cases h
  all_goals cases h

theorem s_lreturn {k : Nat} (ih : zSound n) (hy : y < 332) (hX : X.2.2.2.2.2.2.2.2.2.2.2.2.2 = r) (C : zCx X y) (E : zE X y) (hd : decode (zmb y) pc = .ok (.lreturn, k)) (hk : zlok (.lreturn) k = true) (h : zint (zrun n) (zex (.lreturn) k y pc ls st R m) = some r) : zG X y pc ls st R m := by
  have hk1 : k = 1 := by simpa [zlok] using hk
  subst hk1
  simp only [zex] at h
  obtain ⟨p, l, e, Rm, s, mi, args, below, meth, c, Q, ⟨B, b, adK, D, cy, L, xs⟩, Re, rr⟩ := X
  have hX : rr = r := hX
  split at h
  · split at h
    next hz =>
      simp only [zint, Option.some.injEq] at h
      exact z_ret (by rw [hX, ← h]) E (k := 0) (Or.inr (Or.inr (Or.inl ⟨⟨hd, rfl, hz⟩, rfl⟩)))
    next => cases h
  all_goals cases h

theorem s_areturn {k : Nat} (ih : zSound n) (hy : y < 332) (hX : X.2.2.2.2.2.2.2.2.2.2.2.2.2 = r) (C : zCx X y) (E : zE X y) (hd : decode (zmb y) pc = .ok (.areturn, k)) (hk : zlok (.areturn) k = true) (h : zint (zrun n) (zex (.areturn) k y pc ls st R m) = some r) : zG X y pc ls st R m := by
  have hk1 : k = 1 := by simpa [zlok] using hk
  subst hk1
  simp only [zex] at h
  obtain ⟨p, l, e, Rm, s, mi, args, below, meth, c, Q, ⟨B, b, adK, D, cy, L, xs⟩, Re, rr⟩ := X
  have hX : rr = r := hX
  split at h
  · split at h
    next hz =>
      simp only [zint, Option.some.injEq] at h
      exact z_ret (by rw [hX, ← h]) E (k := 0) (Or.inr (Or.inr (Or.inr ⟨⟨hd, rfl, _, hz⟩, rfl⟩)))
    next => cases h
  all_goals cases h

theorem s_return_ {k : Nat} (ih : zSound n) (hy : y < 332) (hX : X.2.2.2.2.2.2.2.2.2.2.2.2.2 = r) (C : zCx X y) (E : zE X y) (hd : decode (zmb y) pc = .ok (.return_, k)) (hk : zlok (.return_) k = true) (h : zint (zrun n) (zex (.return_) k y pc ls st R m) = some r) : zG X y pc ls st R m := by
  have hk1 : k = 1 := by simpa [zlok] using hk
  subst hk1
  simp only [zex] at h
  obtain ⟨p, l, e, Rm, s, mi, args, below, meth, c, Q, ⟨B, b, adK, D, cy, L, xs⟩, Re, rr⟩ := X
  have hX : rr = r := hX
  split at h
  · split at h
    next hz =>
      simp only [zint, Option.some.injEq] at h
      exact z_ret (by rw [hX, ← h]) E (k := 0) (Or.inl ⟨hd, rfl, hz, rfl⟩)
    next => cases h
  all_goals cases h

end SOUND
theorem zsound : ∀ n, zSound n := by
  intro n
  induction n with
  | zero => intro y pc ls st R m r hy h; cases h
  | succ n ih =>
    intro y pc ls st R m r hy h X hX C E
    simp only [zrun, zact] at h
    cases hc : zcode y pc with
    | none => rw [hc] at h; cases h
    | some q =>
      obtain ⟨i, k⟩ := q
      rw [hc] at h
      simp only at h
      split at h
      next hk =>
        have hd := zcode_dec hc
        cases i with
        | iconst => exact s_iconst ih hy hX C E hd hk h
        | bipush => exact s_bipush ih hy hX C E hd hk h
        | sipush => exact s_sipush ih hy hX C E hd hk h
        | lconst => exact s_lconst ih hy hX C E hd hk h
        | iload => exact s_iload ih hy hX C E hd hk h
        | iload_n => exact s_iload_n ih hy hX C E hd hk h
        | aload => exact s_aload ih hy hX C E hd hk h
        | aload_n => exact s_aload_n ih hy hX C E hd hk h
        | lload => exact s_lload ih hy hX C E hd hk h
        | lload_n => exact s_lload_n ih hy hX C E hd hk h
        | istore => exact s_istore ih hy hX C E hd hk h
        | istore_n => exact s_istore_n ih hy hX C E hd hk h
        | astore => exact s_astore ih hy hX C E hd hk h
        | astore_n => exact s_astore_n ih hy hX C E hd hk h
        | lstore => exact s_lstore ih hy hX C E hd hk h
        | lstore_n => exact s_lstore_n ih hy hX C E hd hk h
        | iinc => exact s_iinc ih hy hX C E hd hk h
        | dup => exact s_dup ih hy hX C E hd hk h
        | dup2 => exact s_dup2 ih hy hX C E hd hk h
        | pop => exact s_pop ih hy hX C E hd hk h
        | iadd => exact s_iadd ih hy hX C E hd hk h
        | isub => exact s_isub ih hy hX C E hd hk h
        | imul => exact s_imul ih hy hX C E hd hk h
        | ineg => exact s_ineg ih hy hX C E hd hk h
        | iand => exact s_iand ih hy hX C E hd hk h
        | ior => exact s_ior ih hy hX C E hd hk h
        | ixor => exact s_ixor ih hy hX C E hd hk h
        | ishl => exact s_ishl ih hy hX C E hd hk h
        | ishr => exact s_ishr ih hy hX C E hd hk h
        | ladd => exact s_ladd ih hy hX C E hd hk h
        | lsub => exact s_lsub ih hy hX C E hd hk h
        | land => exact s_land ih hy hX C E hd hk h
        | lor => exact s_lor ih hy hX C E hd hk h
        | lxor => exact s_lxor ih hy hX C E hd hk h
        | lshl => exact s_lshl ih hy hX C E hd hk h
        | lshr => exact s_lshr ih hy hX C E hd hk h
        | lushr => exact s_lushr ih hy hX C E hd hk h
        | lcmp => exact s_lcmp ih hy hX C E hd hk h
        | i2l => exact s_i2l ih hy hX C E hd hk h
        | l2i => exact s_l2i ih hy hX C E hd hk h
        | i2b => exact s_i2b ih hy hX C E hd hk h
        | i2s => exact s_i2s ih hy hX C E hd hk h
        | idiv => exact s_idiv ih hy hX C E hd hk h
        | irem => exact s_irem ih hy hX C E hd hk h
        | goto => exact s_goto ih hy hX C E hd hk h
        | ifCond => exact s_ifCond ih hy hX C E hd hk h
        | if_icmp => exact s_if_icmp ih hy hX C E hd hk h
        | ifnull => exact s_ifnull ih hy hX C E hd hk h
        | ifnonnull => exact s_ifnonnull ih hy hX C E hd hk h
        | tableswitch => exact s_tableswitch ih hy hX C E hd hk h
        | lookupswitch => exact s_lookupswitch ih hy hX C E hd hk h
        | ldc => exact s_ldc ih hy hX C E hd hk h
        | ldc_w => exact s_ldc_w ih hy hX C E hd hk h
        | ldc2_w => exact s_ldc2_w ih hy hX C E hd hk h
        | getfield => exact s_getfield ih hy hX C E hd hk h
        | putfield => exact s_putfield ih hy hX C E hd hk h
        | iaload => exact s_iaload ih hy hX C E hd hk h
        | laload => exact s_laload ih hy hX C E hd hk h
        | aaload => exact s_aaload ih hy hX C E hd hk h
        | iastore => exact s_iastore ih hy hX C E hd hk h
        | lastore => exact s_lastore ih hy hX C E hd hk h
        | aastore => exact s_aastore ih hy hX C E hd hk h
        | arraylength => exact s_arraylength ih hy hX C E hd hk h
        | new => exact s_new ih hy hX C E hd hk h
        | anewarray => exact s_anewarray ih hy hX C E hd hk h
        | invokevirtual => exact s_invokevirtual ih hy hX C E hd hk h
        | invokestatic => exact s_invokestatic ih hy hX C E hd hk h
        | invokespecial => exact s_invokespecial ih hy hX C E hd hk h
        | ireturn => exact s_ireturn ih hy hX C E hd hk h
        | lreturn => exact s_lreturn ih hy hX C E hd hk h
        | areturn => exact s_areturn ih hy hX C E hd hk h
        | return_ => exact s_return_ ih hy hX C E hd hk h
        | newarray t =>
          cases t with
          | int => exact s_newarray_int ih hy hX C E hd hk h
          | long => exact s_newarray_long ih hy hX C E hd hk h
          | _ => cases h
        | _ => cases h
      next => cases h

