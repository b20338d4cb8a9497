/-! the leaf constructors (printed by a program of mine, gen_init.py) -/
section KDS
theorem ik1 : KD 1 = 12 := by decide +kernel
theorem ik2 : KD 2 = 9 := by decide +kernel
theorem ik3 : KD 3 = 2 := by decide +kernel
theorem ik4 : KD 4 = 20 := by decide +kernel
theorem il4 : LN 4 = 64 := by decide +kernel
theorem ik5 : KD 5 = 20 := by decide +kernel
theorem il5 : LN 5 = 64 := by decide +kernel
theorem ik6 : KD 6 = 20 := by decide +kernel
theorem il6 : LN 6 = 64 := by decide +kernel
theorem ik7 : KD 7 = 21 := by decide +kernel
theorem il7 : LN 7 = 5 := by decide +kernel
theorem ik8 : KD 8 = 21 := by decide +kernel
theorem il8 : LN 8 = 960 := by decide +kernel
theorem ik9 : KD 9 = 4 := by decide +kernel
theorem ik10 : KD 10 = 20 := by decide +kernel
theorem il10 : LN 10 = 84 := by decide +kernel
theorem ik11 : KD 11 = 7 := by decide +kernel
theorem ik12 : KD 12 = 20 := by decide +kernel
theorem il12 : LN 12 = 20 := by decide +kernel
theorem ik13 : KD 13 = 20 := by decide +kernel
theorem il13 : LN 13 = 20 := by decide +kernel
theorem ik14 : KD 14 = 20 := by decide +kernel
theorem il14 : LN 14 = 20 := by decide +kernel
theorem ik15 : KD 15 = 20 := by decide +kernel
theorem il15 : LN 15 = 20 := by decide +kernel
theorem ik16 : KD 16 = 20 := by decide +kernel
theorem il16 : LN 16 = 20 := by decide +kernel
theorem ik17 : KD 17 = 20 := by decide +kernel
theorem il17 : LN 17 = 20 := by decide +kernel
theorem ik18 : KD 18 = 20 := by decide +kernel
theorem il18 : LN 18 = 20 := by decide +kernel
theorem ik19 : KD 19 = 20 := by decide +kernel
theorem il19 : LN 19 = 20 := by decide +kernel
theorem ik20 : KD 20 = 20 := by decide +kernel
theorem il20 : LN 20 = 20 := by decide +kernel
theorem ik21 : KD 21 = 20 := by decide +kernel
theorem il21 : LN 21 = 20 := by decide +kernel
theorem ik22 : KD 22 = 21 := by decide +kernel
theorem il22 : LN 22 = 20 := by decide +kernel
theorem ik23 : KD 23 = 20 := by decide +kernel
theorem il23 : LN 23 = 64 := by decide +kernel
theorem ik24 : KD 24 = 21 := by decide +kernel
theorem il24 : LN 24 = 4 := by decide +kernel
theorem ik25 : KD 25 = 20 := by decide +kernel
theorem il25 : LN 25 = 256 := by decide +kernel
theorem ik26 : KD 26 = 20 := by decide +kernel
theorem il26 : LN 26 = 64 := by decide +kernel
theorem ik27 : KD 27 = 20 := by decide +kernel
theorem il27 : LN 27 = 1536 := by decide +kernel
theorem ik28 : KD 28 = 20 := by decide +kernel
theorem il28 : LN 28 = 96 := by decide +kernel
theorem ik29 : KD 29 = 20 := by decide +kernel
theorem il29 : LN 29 = 20 := by decide +kernel
theorem ik30 : KD 30 = 9 := by decide +kernel
theorem ik31 : KD 31 = 2 := by decide +kernel
theorem ik32 : KD 32 = 20 := by decide +kernel
theorem il32 : LN 32 = 64 := by decide +kernel
theorem ik33 : KD 33 = 20 := by decide +kernel
theorem il33 : LN 33 = 64 := by decide +kernel
theorem ik34 : KD 34 = 20 := by decide +kernel
theorem il34 : LN 34 = 64 := by decide +kernel
theorem ik35 : KD 35 = 21 := by decide +kernel
theorem il35 : LN 35 = 5 := by decide +kernel
theorem ik36 : KD 36 = 21 := by decide +kernel
theorem il36 : LN 36 = 960 := by decide +kernel
theorem ik37 : KD 37 = 4 := by decide +kernel
theorem ik38 : KD 38 = 20 := by decide +kernel
theorem il38 : LN 38 = 84 := by decide +kernel
theorem ik39 : KD 39 = 7 := by decide +kernel
theorem ik40 : KD 40 = 20 := by decide +kernel
theorem il40 : LN 40 = 20 := by decide +kernel
theorem ik41 : KD 41 = 20 := by decide +kernel
theorem il41 : LN 41 = 20 := by decide +kernel
theorem ik42 : KD 42 = 20 := by decide +kernel
theorem il42 : LN 42 = 20 := by decide +kernel
theorem ik43 : KD 43 = 20 := by decide +kernel
theorem il43 : LN 43 = 20 := by decide +kernel
theorem ik44 : KD 44 = 20 := by decide +kernel
theorem il44 : LN 44 = 20 := by decide +kernel
theorem ik45 : KD 45 = 20 := by decide +kernel
theorem il45 : LN 45 = 20 := by decide +kernel
theorem ik46 : KD 46 = 20 := by decide +kernel
theorem il46 : LN 46 = 20 := by decide +kernel
theorem ik47 : KD 47 = 20 := by decide +kernel
theorem il47 : LN 47 = 20 := by decide +kernel
theorem ik48 : KD 48 = 20 := by decide +kernel
theorem il48 : LN 48 = 20 := by decide +kernel
theorem ik49 : KD 49 = 20 := by decide +kernel
theorem il49 : LN 49 = 20 := by decide +kernel
theorem ik50 : KD 50 = 21 := by decide +kernel
theorem il50 : LN 50 = 20 := by decide +kernel
theorem ik51 : KD 51 = 20 := by decide +kernel
theorem il51 : LN 51 = 64 := by decide +kernel
theorem ik52 : KD 52 = 21 := by decide +kernel
theorem il52 : LN 52 = 4 := by decide +kernel
theorem ik53 : KD 53 = 20 := by decide +kernel
theorem il53 : LN 53 = 256 := by decide +kernel
theorem ik54 : KD 54 = 20 := by decide +kernel
theorem il54 : LN 54 = 64 := by decide +kernel
theorem ik55 : KD 55 = 20 := by decide +kernel
theorem il55 : LN 55 = 1536 := by decide +kernel
theorem ik56 : KD 56 = 20 := by decide +kernel
theorem il56 : LN 56 = 96 := by decide +kernel
theorem ik57 : KD 57 = 20 := by decide +kernel
theorem il57 : LN 57 = 20 := by decide +kernel
theorem ik58 : KD 58 = 1 := by decide +kernel
theorem ik59 : KD 59 = 20 := by decide +kernel
theorem il59 : LN 59 = 60 := by decide +kernel
theorem ik60 : KD 60 = 20 := by decide +kernel
theorem il60 : LN 60 = 60 := by decide +kernel
theorem ik61 : KD 61 = 20 := by decide +kernel
theorem il61 : LN 61 = 240 := by decide +kernel
theorem ik62 : KD 62 = 23 := by decide +kernel
theorem il62 : LN 62 = 60 := by decide +kernel
theorem ik63 : KD 63 = 3 := by decide +kernel
theorem ik64 : KD 64 = 20 := by decide +kernel
theorem il64 : LN 64 = 320 := by decide +kernel
theorem ik65 : KD 65 = 20 := by decide +kernel
theorem il65 : LN 65 = 321 := by decide +kernel
theorem ik66 : KD 66 = 20 := by decide +kernel
theorem il66 : LN 66 = 321 := by decide +kernel
theorem ik67 : KD 67 = 20 := by decide +kernel
theorem il67 : LN 67 = 321 := by decide +kernel
theorem ik68 : KD 68 = 4 := by decide +kernel
theorem ik69 : KD 69 = 20 := by decide +kernel
theorem il69 : LN 69 = 84 := by decide +kernel
theorem ik70 : KD 70 = 11 := by decide +kernel
theorem ik71 : KD 71 = 20 := by decide +kernel
theorem il71 : LN 71 = 24 := by decide +kernel
theorem ik72 : KD 72 = 20 := by decide +kernel
theorem il72 : LN 72 = 4 := by decide +kernel
theorem ik73 : KD 73 = 20 := by decide +kernel
theorem il73 : LN 73 = 256 := by decide +kernel
theorem ik74 : KD 74 = 20 := by decide +kernel
theorem il74 : LN 74 = 256 := by decide +kernel
theorem ik75 : KD 75 = 20 := by decide +kernel
theorem il75 : LN 75 = 256 := by decide +kernel
theorem ik76 : KD 76 = 20 := by decide +kernel
theorem il76 : LN 76 = 88 := by decide +kernel
theorem ik77 : KD 77 = 20 := by decide +kernel
theorem il77 : LN 77 = 88 := by decide +kernel
theorem ik78 : KD 78 = 20 := by decide +kernel
theorem il78 : LN 78 = 88 := by decide +kernel
theorem ik79 : KD 79 = 10 := by decide +kernel
theorem ik80 : KD 80 = 20 := by decide +kernel
theorem il80 : LN 80 = 8 := by decide +kernel
theorem ik81 : KD 81 = 20 := by decide +kernel
theorem il81 : LN 81 = 8 := by decide +kernel
theorem ik82 : KD 82 = 20 := by decide +kernel
theorem il82 : LN 82 = 8 := by decide +kernel
theorem ik83 : KD 83 = 20 := by decide +kernel
theorem il83 : LN 83 = 8 := by decide +kernel
theorem ik84 : KD 84 = 20 := by decide +kernel
theorem il84 : LN 84 = 8 := by decide +kernel
theorem ik85 : KD 85 = 20 := by decide +kernel
theorem il85 : LN 85 = 8 := by decide +kernel
theorem ik86 : KD 86 = 20 := by decide +kernel
theorem il86 : LN 86 = 512 := by decide +kernel
theorem ik87 : KD 87 = 6 := by decide +kernel
theorem ik88 : KD 88 = 20 := by decide +kernel
theorem il88 : LN 88 = 6 := by decide +kernel
theorem ik89 : KD 89 = 20 := by decide +kernel
theorem il89 : LN 89 = 6 := by decide +kernel
theorem ik90 : KD 90 = 20 := by decide +kernel
theorem il90 : LN 90 = 6 := by decide +kernel
theorem ik91 : KD 91 = 5 := by decide +kernel
theorem ik92 : KD 92 = 20 := by decide +kernel
theorem il92 : LN 92 = 16 := by decide +kernel
theorem ik93 : KD 93 = 20 := by decide +kernel
theorem il93 : LN 93 = 16 := by decide +kernel
theorem ik94 : KD 94 = 20 := by decide +kernel
theorem il94 : LN 94 = 16 := by decide +kernel
theorem ik95 : KD 95 = 20 := by decide +kernel
theorem il95 : LN 95 = 16 := by decide +kernel
theorem ik96 : KD 96 = 8 := by decide +kernel
theorem ik97 : KD 97 = 20 := by decide +kernel
theorem il97 : LN 97 = 4 := by decide +kernel
theorem ik98 : KD 98 = 20 := by decide +kernel
theorem il98 : LN 98 = 4 := by decide +kernel
theorem ik99 : KD 99 = 20 := by decide +kernel
theorem il99 : LN 99 = 512 := by decide +kernel
end KDS
section CTOR
variable {R m : zM}
theorem ci1_58 (h : R 0 0 = 58) (hm : ∀ b, 58 < b → m b = fun _ => 0) : ∃ R1, ev 1 0 [(2, 58)] [] R m = some ((9, 0), R1, m) ∧ zAr 58 58 4 420 [(4, 62), (3, 61), (2, 60), (1, 59)] R R1 := by
  have A0 : zAr 58 58 0 0 [] R R := zAr_0 h
  have e1 := gi1_0 (o := 58) (R := R) (m := m) ik58
  have e2 := gi1_4 (o := 58) (l := 59) (R := R) (m := m) ik58 ik59 il59 (zAr_z A0 (by decide)) (zAr_n A0 (by decide)) (zrow_z (hm 59 (by decide)))
  obtain ⟨R1, hR1⟩ : ∃ q, zfa R 58 1 60 59 = q := ⟨_, rfl⟩
  have A2 : zAr 58 58 1 60 [(1, 59)] R (zfa R 58 1 60 59) := zAr_s A0 (by decide) (by decide) (by decide) 1 60 (by decide) (by decide) (by decide)
  rw [hR1] at e2 A2
  have e3 := gi1_12 (o := 58) (l := 60) (R := R1) (m := m) ik58 ik60 il60 (zAr_z A2 (by decide)) (zAr_n A2 (by decide)) (zrow_z (hm 60 (by decide)))
  obtain ⟨R2, hR2⟩ : ∃ q, zfa R1 58 2 60 60 = q := ⟨_, rfl⟩
  have A3 : zAr 58 58 2 120 [(2, 60), (1, 59)] R (zfa R1 58 2 60 60) := zAr_s A2 (by decide) (by decide) (by decide) 2 60 (by decide) (by decide) (by decide)
  rw [hR2] at e3 A3
  have e4 := gi1_20 (o := 58) (l := 61) (R := R2) (m := m) ik58 ik61 il61 (zAr_z A3 (by decide)) (zAr_n A3 (by decide)) (zrow_z (hm 61 (by decide)))
  obtain ⟨R3, hR3⟩ : ∃ q, zfa R2 58 3 240 61 = q := ⟨_, rfl⟩
  have A4 : zAr 58 58 3 360 [(3, 61), (2, 60), (1, 59)] R (zfa R2 58 3 240 61) := zAr_s A3 (by decide) (by decide) (by decide) 3 240 (by decide) (by decide) (by decide)
  rw [hR3] at e4 A4
  have e5 := gi1_29 (o := 58) (l := 62) (R := R3) (m := m) ik58 ik62 il62 (zAr_z A4 (by decide)) (zAr_n A4 (by decide)) (zrow_z (hm 62 (by decide)))
  obtain ⟨R4, hR4⟩ : ∃ q, zfa R3 58 4 60 62 = q := ⟨_, rfl⟩
  have A5 : zAr 58 58 4 420 [(4, 62), (3, 61), (2, 60), (1, 59)] R (zfa R3 58 4 60 62) := zAr_s A4 (by decide) (by decide) (by decide) 4 60 (by decide) (by decide) (by decide)
  rw [hR4] at e5 A5
  have e6 := gi1_38 (o := 58) (R := R4) (m := m)
  exact ⟨_, e1.trans (e2.trans (e3.trans (e4.trans (e5.trans (e6))))), A5⟩
theorem ci32_63 (h : R 0 0 = 63) (hm : ∀ b, 63 < b → m b = fun _ => 0) : ∃ R1, ev 32 0 [(2, 63)] [] R m = some ((9, 0), R1, m) ∧ zAr 63 63 4 1283 [(7, 67), (6, 66), (5, 65), (3, 64)] R R1 := by
  have A0 : zAr 63 63 0 0 [] R R := zAr_0 h
  have e1 := gi32_0 (o := 63) (R := R) (m := m) ik63
  have e2 := gi32_4 (o := 63) (l := 64) (R := R) (m := m) ik63 ik64 il64 (zAr_z A0 (by decide)) (zAr_n A0 (by decide)) (zrow_z (hm 64 (by decide)))
  obtain ⟨R1, hR1⟩ : ∃ q, zfa R 63 3 320 64 = q := ⟨_, rfl⟩
  have A2 : zAr 63 63 1 320 [(3, 64)] R (zfa R 63 3 320 64) := zAr_s A0 (by decide) (by decide) (by decide) 3 320 (by decide) (by decide) (by decide)
  rw [hR1] at e2 A2
  have e3 := gi32_13 (o := 63) (l := 65) (R := R1) (m := m) ik63 ik65 il65 (zAr_z A2 (by decide)) (zAr_n A2 (by decide)) (zrow_z (hm 65 (by decide)))
  obtain ⟨R2, hR2⟩ : ∃ q, zfa R1 63 5 321 65 = q := ⟨_, rfl⟩
  have A3 : zAr 63 63 2 641 [(5, 65), (3, 64)] R (zfa R1 63 5 321 65) := zAr_s A2 (by decide) (by decide) (by decide) 5 321 (by decide) (by decide) (by decide)
  rw [hR2] at e3 A3
  have e4 := gi32_22 (o := 63) (l := 66) (R := R2) (m := m) ik63 ik66 il66 (zAr_z A3 (by decide)) (zAr_n A3 (by decide)) (zrow_z (hm 66 (by decide)))
  obtain ⟨R3, hR3⟩ : ∃ q, zfa R2 63 6 321 66 = q := ⟨_, rfl⟩
  have A4 : zAr 63 63 3 962 [(6, 66), (5, 65), (3, 64)] R (zfa R2 63 6 321 66) := zAr_s A3 (by decide) (by decide) (by decide) 6 321 (by decide) (by decide) (by decide)
  rw [hR3] at e4 A4
  have e5 := gi32_31 (o := 63) (l := 67) (R := R3) (m := m) ik63 ik67 il67 (zAr_z A4 (by decide)) (zAr_n A4 (by decide)) (zrow_z (hm 67 (by decide)))
  obtain ⟨R4, hR4⟩ : ∃ q, zfa R3 63 7 321 67 = q := ⟨_, rfl⟩
  have A5 : zAr 63 63 4 1283 [(7, 67), (6, 66), (5, 65), (3, 64)] R (zfa R3 63 7 321 67) := zAr_s A4 (by decide) (by decide) (by decide) 7 321 (by decide) (by decide) (by decide)
  rw [hR4] at e5 A5
  have e6 := gi32_40 (o := 63) (R := R4) (m := m)
  exact ⟨_, e1.trans (e2.trans (e3.trans (e4.trans (e5.trans (e6))))), A5⟩
theorem ci59_9 (h : R 0 0 = 9) (hm : ∀ b, 9 < b → m b = fun _ => 0) : ∃ R1, ev 59 0 [(2, 9)] [] R m = some ((9, 0), R1, m) ∧ zAr 9 9 1 84 [(1, 10)] R R1 := by
  have A0 : zAr 9 9 0 0 [] R R := zAr_0 h
  have e1 := gi59_0 (o := 9) (R := R) (m := m) ik9
  have e2 := gi59_4 (o := 9) (l := 10) (R := R) (m := m) ik9 ik10 il10 (zAr_z A0 (by decide)) (zAr_n A0 (by decide)) (zrow_z (hm 10 (by decide)))
  obtain ⟨R1, hR1⟩ : ∃ q, zfa R 9 1 84 10 = q := ⟨_, rfl⟩
  have A2 : zAr 9 9 1 84 [(1, 10)] R (zfa R 9 1 84 10) := zAr_s A0 (by decide) (by decide) (by decide) 1 84 (by decide) (by decide) (by decide)
  rw [hR1] at e2 A2
  have e3 := gi59_12 (o := 9) (R := R1) (m := m)
  exact ⟨_, e1.trans (e2.trans (e3)), A2⟩
theorem ci59_37 (h : R 0 0 = 37) (hm : ∀ b, 37 < b → m b = fun _ => 0) : ∃ R1, ev 59 0 [(2, 37)] [] R m = some ((9, 0), R1, m) ∧ zAr 37 37 1 84 [(1, 38)] R R1 := by
  have A0 : zAr 37 37 0 0 [] R R := zAr_0 h
  have e1 := gi59_0 (o := 37) (R := R) (m := m) ik37
  have e2 := gi59_4 (o := 37) (l := 38) (R := R) (m := m) ik37 ik38 il38 (zAr_z A0 (by decide)) (zAr_n A0 (by decide)) (zrow_z (hm 38 (by decide)))
  obtain ⟨R1, hR1⟩ : ∃ q, zfa R 37 1 84 38 = q := ⟨_, rfl⟩
  have A2 : zAr 37 37 1 84 [(1, 38)] R (zfa R 37 1 84 38) := zAr_s A0 (by decide) (by decide) (by decide) 1 84 (by decide) (by decide) (by decide)
  rw [hR1] at e2 A2
  have e3 := gi59_12 (o := 37) (R := R1) (m := m)
  exact ⟨_, e1.trans (e2.trans (e3)), A2⟩
theorem ci59_68 (h : R 0 0 = 68) (hm : ∀ b, 68 < b → m b = fun _ => 0) : ∃ R1, ev 59 0 [(2, 68)] [] R m = some ((9, 0), R1, m) ∧ zAr 68 68 1 84 [(1, 69)] R R1 := by
  have A0 : zAr 68 68 0 0 [] R R := zAr_0 h
  have e1 := gi59_0 (o := 68) (R := R) (m := m) ik68
  have e2 := gi59_4 (o := 68) (l := 69) (R := R) (m := m) ik68 ik69 il69 (zAr_z A0 (by decide)) (zAr_n A0 (by decide)) (zrow_z (hm 69 (by decide)))
  obtain ⟨R1, hR1⟩ : ∃ q, zfa R 68 1 84 69 = q := ⟨_, rfl⟩
  have A2 : zAr 68 68 1 84 [(1, 69)] R (zfa R 68 1 84 69) := zAr_s A0 (by decide) (by decide) (by decide) 1 84 (by decide) (by decide) (by decide)
  rw [hR1] at e2 A2
  have e3 := gi59_12 (o := 68) (R := R1) (m := m)
  exact ⟨_, e1.trans (e2.trans (e3)), A2⟩
theorem ci70_91 (h : R 0 0 = 91) (hm : ∀ b, 91 < b → m b = fun _ => 0) : ∃ R1, ev 70 0 [(2, 91)] [] R m = some ((9, 0), R1, m) ∧ zAr 91 91 4 64 [(4, 95), (3, 94), (2, 93), (1, 92)] R R1 := by
  have A0 : zAr 91 91 0 0 [] R R := zAr_0 h
  have e1 := gi70_0 (o := 91) (R := R) (m := m) ik91
  have e2 := gi70_4 (o := 91) (l := 92) (R := R) (m := m) ik91 ik92 il92 (zAr_z A0 (by decide)) (zAr_n A0 (by decide)) (zrow_z (hm 92 (by decide)))
  obtain ⟨R1, hR1⟩ : ∃ q, zfa R 91 1 16 92 = q := ⟨_, rfl⟩
  have A2 : zAr 91 91 1 16 [(1, 92)] R (zfa R 91 1 16 92) := zAr_s A0 (by decide) (by decide) (by decide) 1 16 (by decide) (by decide) (by decide)
  rw [hR1] at e2 A2
  have e3 := gi70_12 (o := 91) (l := 93) (R := R1) (m := m) ik91 ik93 il93 (zAr_z A2 (by decide)) (zAr_n A2 (by decide)) (zrow_z (hm 93 (by decide)))
  obtain ⟨R2, hR2⟩ : ∃ q, zfa R1 91 2 16 93 = q := ⟨_, rfl⟩
  have A3 : zAr 91 91 2 32 [(2, 93), (1, 92)] R (zfa R1 91 2 16 93) := zAr_s A2 (by decide) (by decide) (by decide) 2 16 (by decide) (by decide) (by decide)
  rw [hR2] at e3 A3
  have e4 := gi70_20 (o := 91) (l := 94) (R := R2) (m := m) ik91 ik94 il94 (zAr_z A3 (by decide)) (zAr_n A3 (by decide)) (zrow_z (hm 94 (by decide)))
  obtain ⟨R3, hR3⟩ : ∃ q, zfa R2 91 3 16 94 = q := ⟨_, rfl⟩
  have A4 : zAr 91 91 3 48 [(3, 94), (2, 93), (1, 92)] R (zfa R2 91 3 16 94) := zAr_s A3 (by decide) (by decide) (by decide) 3 16 (by decide) (by decide) (by decide)
  rw [hR3] at e4 A4
  have e5 := gi70_28 (o := 91) (l := 95) (R := R3) (m := m) ik91 ik95 il95 (zAr_z A4 (by decide)) (zAr_n A4 (by decide)) (zrow_z (hm 95 (by decide)))
  obtain ⟨R4, hR4⟩ : ∃ q, zfa R3 91 4 16 95 = q := ⟨_, rfl⟩
  have A5 : zAr 91 91 4 64 [(4, 95), (3, 94), (2, 93), (1, 92)] R (zfa R3 91 4 16 95) := zAr_s A4 (by decide) (by decide) (by decide) 4 16 (by decide) (by decide) (by decide)
  rw [hR4] at e5 A5
  have e6 := gi70_36 (o := 91) (R := R4) (m := m)
  exact ⟨_, e1.trans (e2.trans (e3.trans (e4.trans (e5.trans (e6))))), A5⟩
theorem ci74_87 (h : R 0 0 = 87) (hm : ∀ b, 87 < b → m b = fun _ => 0) : ∃ R1, ev 74 0 [(2, 87)] [] R m = some ((9, 0), R1, m) ∧ zAr 87 87 3 18 [(6, 90), (5, 89), (4, 88)] R R1 := by
  have A0 : zAr 87 87 0 0 [] R R := zAr_0 h
  have e1 := gi74_0 (o := 87) (R := R) (m := m) ik87
  have e2 := gi74_4 (o := 87) (l := 88) (R := R) (m := m) ik87 ik88 il88 (zAr_z A0 (by decide)) (zAr_n A0 (by decide)) (zrow_z (hm 88 (by decide)))
  obtain ⟨R1, hR1⟩ : ∃ q, zfa R 87 4 6 88 = q := ⟨_, rfl⟩
  have A2 : zAr 87 87 1 6 [(4, 88)] R (zfa R 87 4 6 88) := zAr_s A0 (by decide) (by decide) (by decide) 4 6 (by decide) (by decide) (by decide)
  rw [hR1] at e2 A2
  have e3 := gi74_12 (o := 87) (l := 89) (R := R1) (m := m) ik87 ik89 il89 (zAr_z A2 (by decide)) (zAr_n A2 (by decide)) (zrow_z (hm 89 (by decide)))
  obtain ⟨R2, hR2⟩ : ∃ q, zfa R1 87 5 6 89 = q := ⟨_, rfl⟩
  have A3 : zAr 87 87 2 12 [(5, 89), (4, 88)] R (zfa R1 87 5 6 89) := zAr_s A2 (by decide) (by decide) (by decide) 5 6 (by decide) (by decide) (by decide)
  rw [hR2] at e3 A3
  have e4 := gi74_20 (o := 87) (l := 90) (R := R2) (m := m) ik87 ik90 il90 (zAr_z A3 (by decide)) (zAr_n A3 (by decide)) (zrow_z (hm 90 (by decide)))
  obtain ⟨R3, hR3⟩ : ∃ q, zfa R2 87 6 6 90 = q := ⟨_, rfl⟩
  have A4 : zAr 87 87 3 18 [(6, 90), (5, 89), (4, 88)] R (zfa R2 87 6 6 90) := zAr_s A3 (by decide) (by decide) (by decide) 6 6 (by decide) (by decide) (by decide)
  rw [hR3] at e4 A4
  have e5 := gi74_28 (o := 87) (R := R3) (m := m)
  exact ⟨_, e1.trans (e2.trans (e3.trans (e4.trans (e5)))), A4⟩
theorem ci86_11 (h : R 0 0 = 11) (hm : ∀ b, 11 < b → m b = fun _ => 0) : ∃ R1, ev 86 0 [(2, 11)] [] R m = some ((9, 0), R1, m) ∧ zAr 11 11 15 608 [(15, 26), (14, 25), (13, 24), (12, 23), (11, 22), (10, 21), (9, 20), (8, 19), (7, 18), (6, 17), (5, 16), (4, 15), (3, 14), (2, 13), (1, 12)] R R1 := by
  have A0 : zAr 11 11 0 0 [] R R := zAr_0 h
  have e1 := gi86_0 (o := 11) (R := R) (m := m) ik11
  have e2 := gi86_4 (o := 11) (l := 12) (R := R) (m := m) ik11 ik12 il12 (zAr_z A0 (by decide)) (zAr_n A0 (by decide)) (zrow_z (hm 12 (by decide)))
  obtain ⟨R1, hR1⟩ : ∃ q, zfa R 11 1 20 12 = q := ⟨_, rfl⟩
  have A2 : zAr 11 11 1 20 [(1, 12)] R (zfa R 11 1 20 12) := zAr_s A0 (by decide) (by decide) (by decide) 1 20 (by decide) (by decide) (by decide)
  rw [hR1] at e2 A2
  have e3 := gi86_12 (o := 11) (l := 13) (R := R1) (m := m) ik11 ik13 il13 (zAr_z A2 (by decide)) (zAr_n A2 (by decide)) (zrow_z (hm 13 (by decide)))
  obtain ⟨R2, hR2⟩ : ∃ q, zfa R1 11 2 20 13 = q := ⟨_, rfl⟩
  have A3 : zAr 11 11 2 40 [(2, 13), (1, 12)] R (zfa R1 11 2 20 13) := zAr_s A2 (by decide) (by decide) (by decide) 2 20 (by decide) (by decide) (by decide)
  rw [hR2] at e3 A3
  have e4 := gi86_20 (o := 11) (l := 14) (R := R2) (m := m) ik11 ik14 il14 (zAr_z A3 (by decide)) (zAr_n A3 (by decide)) (zrow_z (hm 14 (by decide)))
  obtain ⟨R3, hR3⟩ : ∃ q, zfa R2 11 3 20 14 = q := ⟨_, rfl⟩
  have A4 : zAr 11 11 3 60 [(3, 14), (2, 13), (1, 12)] R (zfa R2 11 3 20 14) := zAr_s A3 (by decide) (by decide) (by decide) 3 20 (by decide) (by decide) (by decide)
  rw [hR3] at e4 A4
  have e5 := gi86_28 (o := 11) (l := 15) (R := R3) (m := m) ik11 ik15 il15 (zAr_z A4 (by decide)) (zAr_n A4 (by decide)) (zrow_z (hm 15 (by decide)))
  obtain ⟨R4, hR4⟩ : ∃ q, zfa R3 11 4 20 15 = q := ⟨_, rfl⟩
  have A5 : zAr 11 11 4 80 [(4, 15), (3, 14), (2, 13), (1, 12)] R (zfa R3 11 4 20 15) := zAr_s A4 (by decide) (by decide) (by decide) 4 20 (by decide) (by decide) (by decide)
  rw [hR4] at e5 A5
  have e6 := gi86_36 (o := 11) (l := 16) (R := R4) (m := m) ik11 ik16 il16 (zAr_z A5 (by decide)) (zAr_n A5 (by decide)) (zrow_z (hm 16 (by decide)))
  obtain ⟨R5, hR5⟩ : ∃ q, zfa R4 11 5 20 16 = q := ⟨_, rfl⟩
  have A6 : zAr 11 11 5 100 [(5, 16), (4, 15), (3, 14), (2, 13), (1, 12)] R (zfa R4 11 5 20 16) := zAr_s A5 (by decide) (by decide) (by decide) 5 20 (by decide) (by decide) (by decide)
  rw [hR5] at e6 A6
  have e7 := gi86_44 (o := 11) (l := 17) (R := R5) (m := m) ik11 ik17 il17 (zAr_z A6 (by decide)) (zAr_n A6 (by decide)) (zrow_z (hm 17 (by decide)))
  obtain ⟨R6, hR6⟩ : ∃ q, zfa R5 11 6 20 17 = q := ⟨_, rfl⟩
  have A7 : zAr 11 11 6 120 [(6, 17), (5, 16), (4, 15), (3, 14), (2, 13), (1, 12)] R (zfa R5 11 6 20 17) := zAr_s A6 (by decide) (by decide) (by decide) 6 20 (by decide) (by decide) (by decide)
  rw [hR6] at e7 A7
  have e8 := gi86_52 (o := 11) (l := 18) (R := R6) (m := m) ik11 ik18 il18 (zAr_z A7 (by decide)) (zAr_n A7 (by decide)) (zrow_z (hm 18 (by decide)))
  obtain ⟨R7, hR7⟩ : ∃ q, zfa R6 11 7 20 18 = q := ⟨_, rfl⟩
  have A8 : zAr 11 11 7 140 [(7, 18), (6, 17), (5, 16), (4, 15), (3, 14), (2, 13), (1, 12)] R (zfa R6 11 7 20 18) := zAr_s A7 (by decide) (by decide) (by decide) 7 20 (by decide) (by decide) (by decide)
  rw [hR7] at e8 A8
  have e9 := gi86_60 (o := 11) (l := 19) (R := R7) (m := m) ik11 ik19 il19 (zAr_z A8 (by decide)) (zAr_n A8 (by decide)) (zrow_z (hm 19 (by decide)))
  obtain ⟨R8, hR8⟩ : ∃ q, zfa R7 11 8 20 19 = q := ⟨_, rfl⟩
  have A9 : zAr 11 11 8 160 [(8, 19), (7, 18), (6, 17), (5, 16), (4, 15), (3, 14), (2, 13), (1, 12)] R (zfa R7 11 8 20 19) := zAr_s A8 (by decide) (by decide) (by decide) 8 20 (by decide) (by decide) (by decide)
  rw [hR8] at e9 A9
  have e10 := gi86_68 (o := 11) (l := 20) (R := R8) (m := m) ik11 ik20 il20 (zAr_z A9 (by decide)) (zAr_n A9 (by decide)) (zrow_z (hm 20 (by decide)))
  obtain ⟨R9, hR9⟩ : ∃ q, zfa R8 11 9 20 20 = q := ⟨_, rfl⟩
  have A10 : zAr 11 11 9 180 [(9, 20), (8, 19), (7, 18), (6, 17), (5, 16), (4, 15), (3, 14), (2, 13), (1, 12)] R (zfa R8 11 9 20 20) := zAr_s A9 (by decide) (by decide) (by decide) 9 20 (by decide) (by decide) (by decide)
  rw [hR9] at e10 A10
  have e11 := gi86_76 (o := 11) (l := 21) (R := R9) (m := m) ik11 ik21 il21 (zAr_z A10 (by decide)) (zAr_n A10 (by decide)) (zrow_z (hm 21 (by decide)))
  obtain ⟨R10, hR10⟩ : ∃ q, zfa R9 11 10 20 21 = q := ⟨_, rfl⟩
  have A11 : zAr 11 11 10 200 [(10, 21), (9, 20), (8, 19), (7, 18), (6, 17), (5, 16), (4, 15), (3, 14), (2, 13), (1, 12)] R (zfa R9 11 10 20 21) := zAr_s A10 (by decide) (by decide) (by decide) 10 20 (by decide) (by decide) (by decide)
  rw [hR10] at e11 A11
  have e12 := gi86_84 (o := 11) (l := 22) (R := R10) (m := m) ik11 ik22 il22 (zAr_z A11 (by decide)) (zAr_n A11 (by decide)) (zrow_z (hm 22 (by decide)))
  obtain ⟨R11, hR11⟩ : ∃ q, zfa R10 11 11 20 22 = q := ⟨_, rfl⟩
  have A12 : zAr 11 11 11 220 [(11, 22), (10, 21), (9, 20), (8, 19), (7, 18), (6, 17), (5, 16), (4, 15), (3, 14), (2, 13), (1, 12)] R (zfa R10 11 11 20 22) := zAr_s A11 (by decide) (by decide) (by decide) 11 20 (by decide) (by decide) (by decide)
  rw [hR11] at e12 A12
  have e13 := gi86_92 (o := 11) (l := 23) (R := R11) (m := m) ik11 ik23 il23 (zAr_z A12 (by decide)) (zAr_n A12 (by decide)) (zrow_z (hm 23 (by decide)))
  obtain ⟨R12, hR12⟩ : ∃ q, zfa R11 11 12 64 23 = q := ⟨_, rfl⟩
  have A13 : zAr 11 11 12 284 [(12, 23), (11, 22), (10, 21), (9, 20), (8, 19), (7, 18), (6, 17), (5, 16), (4, 15), (3, 14), (2, 13), (1, 12)] R (zfa R11 11 12 64 23) := zAr_s A12 (by decide) (by decide) (by decide) 12 64 (by decide) (by decide) (by decide)
  rw [hR12] at e13 A13
  have e14 := gi86_100 (o := 11) (l := 24) (R := R12) (m := m) ik11 ik24 il24 (zAr_z A13 (by decide)) (zAr_n A13 (by decide)) (zrow_z (hm 24 (by decide)))
  obtain ⟨R13, hR13⟩ : ∃ q, zfa R12 11 13 4 24 = q := ⟨_, rfl⟩
  have A14 : zAr 11 11 13 288 [(13, 24), (12, 23), (11, 22), (10, 21), (9, 20), (8, 19), (7, 18), (6, 17), (5, 16), (4, 15), (3, 14), (2, 13), (1, 12)] R (zfa R12 11 13 4 24) := zAr_s A13 (by decide) (by decide) (by decide) 13 4 (by decide) (by decide) (by decide)
  rw [hR13] at e14 A14
  have e15 := gi86_107 (o := 11) (l := 25) (R := R13) (m := m) ik11 ik25 il25 (zAr_z A14 (by decide)) (zAr_n A14 (by decide)) (zrow_z (hm 25 (by decide)))
  obtain ⟨R14, hR14⟩ : ∃ q, zfa R13 11 14 256 25 = q := ⟨_, rfl⟩
  have A15 : zAr 11 11 14 544 [(14, 25), (13, 24), (12, 23), (11, 22), (10, 21), (9, 20), (8, 19), (7, 18), (6, 17), (5, 16), (4, 15), (3, 14), (2, 13), (1, 12)] R (zfa R13 11 14 256 25) := zAr_s A14 (by decide) (by decide) (by decide) 14 256 (by decide) (by decide) (by decide)
  rw [hR14] at e15 A15
  have e16 := gi86_116 (o := 11) (l := 26) (R := R14) (m := m) ik11 ik26 il26 (zAr_z A15 (by decide)) (zAr_n A15 (by decide)) (zrow_z (hm 26 (by decide)))
  obtain ⟨R15, hR15⟩ : ∃ q, zfa R14 11 15 64 26 = q := ⟨_, rfl⟩
  have A16 : zAr 11 11 15 608 [(15, 26), (14, 25), (13, 24), (12, 23), (11, 22), (10, 21), (9, 20), (8, 19), (7, 18), (6, 17), (5, 16), (4, 15), (3, 14), (2, 13), (1, 12)] R (zfa R14 11 15 64 26) := zAr_s A15 (by decide) (by decide) (by decide) 15 64 (by decide) (by decide) (by decide)
  rw [hR15] at e16 A16
  have e17 := gi86_124 (o := 11) (R := R15) (m := m)
  exact ⟨_, e1.trans (e2.trans (e3.trans (e4.trans (e5.trans (e6.trans (e7.trans (e8.trans (e9.trans (e10.trans (e11.trans (e12.trans (e13.trans (e14.trans (e15.trans (e16.trans (e17)))))))))))))))), A16⟩
theorem ci86_39 (h : R 0 0 = 39) (hm : ∀ b, 39 < b → m b = fun _ => 0) : ∃ R1, ev 86 0 [(2, 39)] [] R m = some ((9, 0), R1, m) ∧ zAr 39 39 15 608 [(15, 54), (14, 53), (13, 52), (12, 51), (11, 50), (10, 49), (9, 48), (8, 47), (7, 46), (6, 45), (5, 44), (4, 43), (3, 42), (2, 41), (1, 40)] R R1 := by
  have A0 : zAr 39 39 0 0 [] R R := zAr_0 h
  have e1 := gi86_0 (o := 39) (R := R) (m := m) ik39
  have e2 := gi86_4 (o := 39) (l := 40) (R := R) (m := m) ik39 ik40 il40 (zAr_z A0 (by decide)) (zAr_n A0 (by decide)) (zrow_z (hm 40 (by decide)))
  obtain ⟨R1, hR1⟩ : ∃ q, zfa R 39 1 20 40 = q := ⟨_, rfl⟩
  have A2 : zAr 39 39 1 20 [(1, 40)] R (zfa R 39 1 20 40) := zAr_s A0 (by decide) (by decide) (by decide) 1 20 (by decide) (by decide) (by decide)
  rw [hR1] at e2 A2
  have e3 := gi86_12 (o := 39) (l := 41) (R := R1) (m := m) ik39 ik41 il41 (zAr_z A2 (by decide)) (zAr_n A2 (by decide)) (zrow_z (hm 41 (by decide)))
  obtain ⟨R2, hR2⟩ : ∃ q, zfa R1 39 2 20 41 = q := ⟨_, rfl⟩
  have A3 : zAr 39 39 2 40 [(2, 41), (1, 40)] R (zfa R1 39 2 20 41) := zAr_s A2 (by decide) (by decide) (by decide) 2 20 (by decide) (by decide) (by decide)
  rw [hR2] at e3 A3
  have e4 := gi86_20 (o := 39) (l := 42) (R := R2) (m := m) ik39 ik42 il42 (zAr_z A3 (by decide)) (zAr_n A3 (by decide)) (zrow_z (hm 42 (by decide)))
  obtain ⟨R3, hR3⟩ : ∃ q, zfa R2 39 3 20 42 = q := ⟨_, rfl⟩
  have A4 : zAr 39 39 3 60 [(3, 42), (2, 41), (1, 40)] R (zfa R2 39 3 20 42) := zAr_s A3 (by decide) (by decide) (by decide) 3 20 (by decide) (by decide) (by decide)
  rw [hR3] at e4 A4
  have e5 := gi86_28 (o := 39) (l := 43) (R := R3) (m := m) ik39 ik43 il43 (zAr_z A4 (by decide)) (zAr_n A4 (by decide)) (zrow_z (hm 43 (by decide)))
  obtain ⟨R4, hR4⟩ : ∃ q, zfa R3 39 4 20 43 = q := ⟨_, rfl⟩
  have A5 : zAr 39 39 4 80 [(4, 43), (3, 42), (2, 41), (1, 40)] R (zfa R3 39 4 20 43) := zAr_s A4 (by decide) (by decide) (by decide) 4 20 (by decide) (by decide) (by decide)
  rw [hR4] at e5 A5
  have e6 := gi86_36 (o := 39) (l := 44) (R := R4) (m := m) ik39 ik44 il44 (zAr_z A5 (by decide)) (zAr_n A5 (by decide)) (zrow_z (hm 44 (by decide)))
  obtain ⟨R5, hR5⟩ : ∃ q, zfa R4 39 5 20 44 = q := ⟨_, rfl⟩
  have A6 : zAr 39 39 5 100 [(5, 44), (4, 43), (3, 42), (2, 41), (1, 40)] R (zfa R4 39 5 20 44) := zAr_s A5 (by decide) (by decide) (by decide) 5 20 (by decide) (by decide) (by decide)
  rw [hR5] at e6 A6
  have e7 := gi86_44 (o := 39) (l := 45) (R := R5) (m := m) ik39 ik45 il45 (zAr_z A6 (by decide)) (zAr_n A6 (by decide)) (zrow_z (hm 45 (by decide)))
  obtain ⟨R6, hR6⟩ : ∃ q, zfa R5 39 6 20 45 = q := ⟨_, rfl⟩
  have A7 : zAr 39 39 6 120 [(6, 45), (5, 44), (4, 43), (3, 42), (2, 41), (1, 40)] R (zfa R5 39 6 20 45) := zAr_s A6 (by decide) (by decide) (by decide) 6 20 (by decide) (by decide) (by decide)
  rw [hR6] at e7 A7
  have e8 := gi86_52 (o := 39) (l := 46) (R := R6) (m := m) ik39 ik46 il46 (zAr_z A7 (by decide)) (zAr_n A7 (by decide)) (zrow_z (hm 46 (by decide)))
  obtain ⟨R7, hR7⟩ : ∃ q, zfa R6 39 7 20 46 = q := ⟨_, rfl⟩
  have A8 : zAr 39 39 7 140 [(7, 46), (6, 45), (5, 44), (4, 43), (3, 42), (2, 41), (1, 40)] R (zfa R6 39 7 20 46) := zAr_s A7 (by decide) (by decide) (by decide) 7 20 (by decide) (by decide) (by decide)
  rw [hR7] at e8 A8
  have e9 := gi86_60 (o := 39) (l := 47) (R := R7) (m := m) ik39 ik47 il47 (zAr_z A8 (by decide)) (zAr_n A8 (by decide)) (zrow_z (hm 47 (by decide)))
  obtain ⟨R8, hR8⟩ : ∃ q, zfa R7 39 8 20 47 = q := ⟨_, rfl⟩
  have A9 : zAr 39 39 8 160 [(8, 47), (7, 46), (6, 45), (5, 44), (4, 43), (3, 42), (2, 41), (1, 40)] R (zfa R7 39 8 20 47) := zAr_s A8 (by decide) (by decide) (by decide) 8 20 (by decide) (by decide) (by decide)
  rw [hR8] at e9 A9
  have e10 := gi86_68 (o := 39) (l := 48) (R := R8) (m := m) ik39 ik48 il48 (zAr_z A9 (by decide)) (zAr_n A9 (by decide)) (zrow_z (hm 48 (by decide)))
  obtain ⟨R9, hR9⟩ : ∃ q, zfa R8 39 9 20 48 = q := ⟨_, rfl⟩
  have A10 : zAr 39 39 9 180 [(9, 48), (8, 47), (7, 46), (6, 45), (5, 44), (4, 43), (3, 42), (2, 41), (1, 40)] R (zfa R8 39 9 20 48) := zAr_s A9 (by decide) (by decide) (by decide) 9 20 (by decide) (by decide) (by decide)
  rw [hR9] at e10 A10
  have e11 := gi86_76 (o := 39) (l := 49) (R := R9) (m := m) ik39 ik49 il49 (zAr_z A10 (by decide)) (zAr_n A10 (by decide)) (zrow_z (hm 49 (by decide)))
  obtain ⟨R10, hR10⟩ : ∃ q, zfa R9 39 10 20 49 = q := ⟨_, rfl⟩
  have A11 : zAr 39 39 10 200 [(10, 49), (9, 48), (8, 47), (7, 46), (6, 45), (5, 44), (4, 43), (3, 42), (2, 41), (1, 40)] R (zfa R9 39 10 20 49) := zAr_s A10 (by decide) (by decide) (by decide) 10 20 (by decide) (by decide) (by decide)
  rw [hR10] at e11 A11
  have e12 := gi86_84 (o := 39) (l := 50) (R := R10) (m := m) ik39 ik50 il50 (zAr_z A11 (by decide)) (zAr_n A11 (by decide)) (zrow_z (hm 50 (by decide)))
  obtain ⟨R11, hR11⟩ : ∃ q, zfa R10 39 11 20 50 = q := ⟨_, rfl⟩
  have A12 : zAr 39 39 11 220 [(11, 50), (10, 49), (9, 48), (8, 47), (7, 46), (6, 45), (5, 44), (4, 43), (3, 42), (2, 41), (1, 40)] R (zfa R10 39 11 20 50) := zAr_s A11 (by decide) (by decide) (by decide) 11 20 (by decide) (by decide) (by decide)
  rw [hR11] at e12 A12
  have e13 := gi86_92 (o := 39) (l := 51) (R := R11) (m := m) ik39 ik51 il51 (zAr_z A12 (by decide)) (zAr_n A12 (by decide)) (zrow_z (hm 51 (by decide)))
  obtain ⟨R12, hR12⟩ : ∃ q, zfa R11 39 12 64 51 = q := ⟨_, rfl⟩
  have A13 : zAr 39 39 12 284 [(12, 51), (11, 50), (10, 49), (9, 48), (8, 47), (7, 46), (6, 45), (5, 44), (4, 43), (3, 42), (2, 41), (1, 40)] R (zfa R11 39 12 64 51) := zAr_s A12 (by decide) (by decide) (by decide) 12 64 (by decide) (by decide) (by decide)
  rw [hR12] at e13 A13
  have e14 := gi86_100 (o := 39) (l := 52) (R := R12) (m := m) ik39 ik52 il52 (zAr_z A13 (by decide)) (zAr_n A13 (by decide)) (zrow_z (hm 52 (by decide)))
  obtain ⟨R13, hR13⟩ : ∃ q, zfa R12 39 13 4 52 = q := ⟨_, rfl⟩
  have A14 : zAr 39 39 13 288 [(13, 52), (12, 51), (11, 50), (10, 49), (9, 48), (8, 47), (7, 46), (6, 45), (5, 44), (4, 43), (3, 42), (2, 41), (1, 40)] R (zfa R12 39 13 4 52) := zAr_s A13 (by decide) (by decide) (by decide) 13 4 (by decide) (by decide) (by decide)
  rw [hR13] at e14 A14
  have e15 := gi86_107 (o := 39) (l := 53) (R := R13) (m := m) ik39 ik53 il53 (zAr_z A14 (by decide)) (zAr_n A14 (by decide)) (zrow_z (hm 53 (by decide)))
  obtain ⟨R14, hR14⟩ : ∃ q, zfa R13 39 14 256 53 = q := ⟨_, rfl⟩
  have A15 : zAr 39 39 14 544 [(14, 53), (13, 52), (12, 51), (11, 50), (10, 49), (9, 48), (8, 47), (7, 46), (6, 45), (5, 44), (4, 43), (3, 42), (2, 41), (1, 40)] R (zfa R13 39 14 256 53) := zAr_s A14 (by decide) (by decide) (by decide) 14 256 (by decide) (by decide) (by decide)
  rw [hR14] at e15 A15
  have e16 := gi86_116 (o := 39) (l := 54) (R := R14) (m := m) ik39 ik54 il54 (zAr_z A15 (by decide)) (zAr_n A15 (by decide)) (zrow_z (hm 54 (by decide)))
  obtain ⟨R15, hR15⟩ : ∃ q, zfa R14 39 15 64 54 = q := ⟨_, rfl⟩
  have A16 : zAr 39 39 15 608 [(15, 54), (14, 53), (13, 52), (12, 51), (11, 50), (10, 49), (9, 48), (8, 47), (7, 46), (6, 45), (5, 44), (4, 43), (3, 42), (2, 41), (1, 40)] R (zfa R14 39 15 64 54) := zAr_s A15 (by decide) (by decide) (by decide) 15 64 (by decide) (by decide) (by decide)
  rw [hR15] at e16 A16
  have e17 := gi86_124 (o := 39) (R := R15) (m := m)
  exact ⟨_, e1.trans (e2.trans (e3.trans (e4.trans (e5.trans (e6.trans (e7.trans (e8.trans (e9.trans (e10.trans (e11.trans (e12.trans (e13.trans (e14.trans (e15.trans (e16.trans (e17)))))))))))))))), A16⟩
theorem ci131_79 (h : R 0 0 = 79) (hm : ∀ b, 79 < b → m b = fun _ => 0) : ∃ R1, ev 131 0 [(2, 79), (2, 70)] [] R m = some ((9, 0), R1, (zup m 79 4 (-1))) ∧ zAr 79 79 7 560 [(0, 70), (12, 86), (11, 85), (10, 84), (9, 83), (8, 82), (7, 81), (6, 80)] R R1 := by
  have A0 : zAr 79 79 0 0 [] R R := zAr_0 h
  have e1 := gi131_0 (o := 79) (u := 70) (R := R) (m := m) ik79
  have e2 := gi131_4 (o := 79) (u := 70) (R := R) (m := m) ik79
  have e3 := gi131_9 (o := 79) (u := 70) (l := 80) (R := R) (m := (zup m 79 4 (-1))) ik79 ik80 il80 (zAr_z A0 (by decide)) (zAr_n A0 (by decide)) (zrow_z ((zup_row (by decide)).trans (hm 80 (by decide))))
  obtain ⟨R1, hR1⟩ : ∃ q, zfa R 79 6 8 80 = q := ⟨_, rfl⟩
  have A3 : zAr 79 79 1 8 [(6, 80)] R (zfa R 79 6 8 80) := zAr_s A0 (by decide) (by decide) (by decide) 6 8 (by decide) (by decide) (by decide)
  rw [hR1] at e3 A3
  have e4 := gi131_17 (o := 79) (u := 70) (l := 81) (R := R1) (m := (zup m 79 4 (-1))) ik79 ik81 il81 (zAr_z A3 (by decide)) (zAr_n A3 (by decide)) (zrow_z ((zup_row (by decide)).trans (hm 81 (by decide))))
  obtain ⟨R2, hR2⟩ : ∃ q, zfa R1 79 7 8 81 = q := ⟨_, rfl⟩
  have A4 : zAr 79 79 2 16 [(7, 81), (6, 80)] R (zfa R1 79 7 8 81) := zAr_s A3 (by decide) (by decide) (by decide) 7 8 (by decide) (by decide) (by decide)
  rw [hR2] at e4 A4
  have e5 := gi131_25 (o := 79) (u := 70) (l := 82) (R := R2) (m := (zup m 79 4 (-1))) ik79 ik82 il82 (zAr_z A4 (by decide)) (zAr_n A4 (by decide)) (zrow_z ((zup_row (by decide)).trans (hm 82 (by decide))))
  obtain ⟨R3, hR3⟩ : ∃ q, zfa R2 79 8 8 82 = q := ⟨_, rfl⟩
  have A5 : zAr 79 79 3 24 [(8, 82), (7, 81), (6, 80)] R (zfa R2 79 8 8 82) := zAr_s A4 (by decide) (by decide) (by decide) 8 8 (by decide) (by decide) (by decide)
  rw [hR3] at e5 A5
  have e6 := gi131_33 (o := 79) (u := 70) (l := 83) (R := R3) (m := (zup m 79 4 (-1))) ik79 ik83 il83 (zAr_z A5 (by decide)) (zAr_n A5 (by decide)) (zrow_z ((zup_row (by decide)).trans (hm 83 (by decide))))
  obtain ⟨R4, hR4⟩ : ∃ q, zfa R3 79 9 8 83 = q := ⟨_, rfl⟩
  have A6 : zAr 79 79 4 32 [(9, 83), (8, 82), (7, 81), (6, 80)] R (zfa R3 79 9 8 83) := zAr_s A5 (by decide) (by decide) (by decide) 9 8 (by decide) (by decide) (by decide)
  rw [hR4] at e6 A6
  have e7 := gi131_41 (o := 79) (u := 70) (l := 84) (R := R4) (m := (zup m 79 4 (-1))) ik79 ik84 il84 (zAr_z A6 (by decide)) (zAr_n A6 (by decide)) (zrow_z ((zup_row (by decide)).trans (hm 84 (by decide))))
  obtain ⟨R5, hR5⟩ : ∃ q, zfa R4 79 10 8 84 = q := ⟨_, rfl⟩
  have A7 : zAr 79 79 5 40 [(10, 84), (9, 83), (8, 82), (7, 81), (6, 80)] R (zfa R4 79 10 8 84) := zAr_s A6 (by decide) (by decide) (by decide) 10 8 (by decide) (by decide) (by decide)
  rw [hR5] at e7 A7
  have e8 := gi131_49 (o := 79) (u := 70) (l := 85) (R := R5) (m := (zup m 79 4 (-1))) ik79 ik85 il85 (zAr_z A7 (by decide)) (zAr_n A7 (by decide)) (zrow_z ((zup_row (by decide)).trans (hm 85 (by decide))))
  obtain ⟨R6, hR6⟩ : ∃ q, zfa R5 79 11 8 85 = q := ⟨_, rfl⟩
  have A8 : zAr 79 79 6 48 [(11, 85), (10, 84), (9, 83), (8, 82), (7, 81), (6, 80)] R (zfa R5 79 11 8 85) := zAr_s A7 (by decide) (by decide) (by decide) 11 8 (by decide) (by decide) (by decide)
  rw [hR6] at e8 A8
  have e9 := gi131_57 (o := 79) (u := 70) (l := 86) (R := R6) (m := (zup m 79 4 (-1))) ik79 ik86 il86 (zAr_z A8 (by decide)) (zAr_n A8 (by decide)) (zrow_z ((zup_row (by decide)).trans (hm 86 (by decide))))
  obtain ⟨R7, hR7⟩ : ∃ q, zfa R6 79 12 512 86 = q := ⟨_, rfl⟩
  have A9 : zAr 79 79 7 560 [(12, 86), (11, 85), (10, 84), (9, 83), (8, 82), (7, 81), (6, 80)] R (zfa R6 79 12 512 86) := zAr_s A8 (by decide) (by decide) (by decide) 12 512 (by decide) (by decide) (by decide)
  rw [hR7] at e9 A9
  have e10 := gi131_66 (o := 79) (u := 70) (R := R7) (m := (zup m 79 4 (-1))) ik79
  have A10 : zAr 79 79 7 560 [(0, 70), (12, 86), (11, 85), (10, 84), (9, 83), (8, 82), (7, 81), (6, 80)] R (zup R7 79 0 70) := zAr_p A9 (by decide) 0 70 (by decide)
  have e11 := gi131_71 (o := 79) (u := 70) (R := (zup R7 79 0 70)) (m := (zup m 79 4 (-1)))
  exact ⟨_, e1.trans (e2.trans (e3.trans (e4.trans (e5.trans (e6.trans (e7.trans (e8.trans (e9.trans (e10.trans (e11)))))))))), A10⟩
theorem ci146_70 (h : R 0 0 = 70) (hm : ∀ b, 70 < b → m b = fun _ => 0) : ∃ R1, ev 146 0 [(2, 70), (2, 3)] [] R m = some ((9, 0), R1, (zup m 70 7 (-1))) ∧ zAr 70 70 8 1060 [(0, 3), (12, 78), (9, 77), (8, 76), (6, 75), (5, 74), (4, 73), (3, 72), (2, 71)] R R1 := by
  have A0 : zAr 70 70 0 0 [] R R := zAr_0 h
  have e1 := gi146_0 (o := 70) (u := 3) (R := R) (m := m) ik70
  have e2 := gi146_4 (o := 70) (u := 3) (l := 71) (R := R) (m := m) ik70 ik71 il71 (zAr_z A0 (by decide)) (zAr_n A0 (by decide)) (zrow_z (hm 71 (by decide)))
  obtain ⟨R1, hR1⟩ : ∃ q, zfa R 70 2 24 71 = q := ⟨_, rfl⟩
  have A2 : zAr 70 70 1 24 [(2, 71)] R (zfa R 70 2 24 71) := zAr_s A0 (by decide) (by decide) (by decide) 2 24 (by decide) (by decide) (by decide)
  rw [hR1] at e2 A2
  have e3 := gi146_12 (o := 70) (u := 3) (l := 72) (R := R1) (m := m) ik70 ik72 il72 (zAr_z A2 (by decide)) (zAr_n A2 (by decide)) (zrow_z (hm 72 (by decide)))
  obtain ⟨R2, hR2⟩ : ∃ q, zfa R1 70 3 4 72 = q := ⟨_, rfl⟩
  have A3 : zAr 70 70 2 28 [(3, 72), (2, 71)] R (zfa R1 70 3 4 72) := zAr_s A2 (by decide) (by decide) (by decide) 3 4 (by decide) (by decide) (by decide)
  rw [hR2] at e3 A3
  have e4 := gi146_19 (o := 70) (u := 3) (l := 73) (R := R2) (m := m) ik70 ik73 il73 (zAr_z A3 (by decide)) (zAr_n A3 (by decide)) (zrow_z (hm 73 (by decide)))
  obtain ⟨R3, hR3⟩ : ∃ q, zfa R2 70 4 256 73 = q := ⟨_, rfl⟩
  have A4 : zAr 70 70 3 284 [(4, 73), (3, 72), (2, 71)] R (zfa R2 70 4 256 73) := zAr_s A3 (by decide) (by decide) (by decide) 4 256 (by decide) (by decide) (by decide)
  rw [hR3] at e4 A4
  have e5 := gi146_28 (o := 70) (u := 3) (l := 74) (R := R3) (m := m) ik70 ik74 il74 (zAr_z A4 (by decide)) (zAr_n A4 (by decide)) (zrow_z (hm 74 (by decide)))
  obtain ⟨R4, hR4⟩ : ∃ q, zfa R3 70 5 256 74 = q := ⟨_, rfl⟩
  have A5 : zAr 70 70 4 540 [(5, 74), (4, 73), (3, 72), (2, 71)] R (zfa R3 70 5 256 74) := zAr_s A4 (by decide) (by decide) (by decide) 5 256 (by decide) (by decide) (by decide)
  rw [hR4] at e5 A5
  have e6 := gi146_37 (o := 70) (u := 3) (l := 75) (R := R4) (m := m) ik70 ik75 il75 (zAr_z A5 (by decide)) (zAr_n A5 (by decide)) (zrow_z (hm 75 (by decide)))
  obtain ⟨R5, hR5⟩ : ∃ q, zfa R4 70 6 256 75 = q := ⟨_, rfl⟩
  have A6 : zAr 70 70 5 796 [(6, 75), (5, 74), (4, 73), (3, 72), (2, 71)] R (zfa R4 70 6 256 75) := zAr_s A5 (by decide) (by decide) (by decide) 6 256 (by decide) (by decide) (by decide)
  rw [hR5] at e6 A6
  have e7 := gi146_46 (o := 70) (u := 3) (R := R5) (m := m) ik70
  have e8 := gi146_51 (o := 70) (u := 3) (l := 76) (R := R5) (m := (zup m 70 7 (-1))) ik70 ik76 il76 (zAr_z A6 (by decide)) (zAr_n A6 (by decide)) (zrow_z ((zup_row (by decide)).trans (hm 76 (by decide))))
  obtain ⟨R6, hR6⟩ : ∃ q, zfa R5 70 8 88 76 = q := ⟨_, rfl⟩
  have A8 : zAr 70 70 6 884 [(8, 76), (6, 75), (5, 74), (4, 73), (3, 72), (2, 71)] R (zfa R5 70 8 88 76) := zAr_s A6 (by decide) (by decide) (by decide) 8 88 (by decide) (by decide) (by decide)
  rw [hR6] at e8 A8
  have e9 := gi146_59 (o := 70) (u := 3) (l := 77) (R := R6) (m := (zup m 70 7 (-1))) ik70 ik77 il77 (zAr_z A8 (by decide)) (zAr_n A8 (by decide)) (zrow_z ((zup_row (by decide)).trans (hm 77 (by decide))))
  obtain ⟨R7, hR7⟩ : ∃ q, zfa R6 70 9 88 77 = q := ⟨_, rfl⟩
  have A9 : zAr 70 70 7 972 [(9, 77), (8, 76), (6, 75), (5, 74), (4, 73), (3, 72), (2, 71)] R (zfa R6 70 9 88 77) := zAr_s A8 (by decide) (by decide) (by decide) 9 88 (by decide) (by decide) (by decide)
  rw [hR7] at e9 A9
  have e10 := gi146_67 (o := 70) (u := 3) (l := 78) (R := R7) (m := (zup m 70 7 (-1))) ik70 ik78 il78 (zAr_z A9 (by decide)) (zAr_n A9 (by decide)) (zrow_z ((zup_row (by decide)).trans (hm 78 (by decide))))
  obtain ⟨R8, hR8⟩ : ∃ q, zfa R7 70 12 88 78 = q := ⟨_, rfl⟩
  have A10 : zAr 70 70 8 1060 [(12, 78), (9, 77), (8, 76), (6, 75), (5, 74), (4, 73), (3, 72), (2, 71)] R (zfa R7 70 12 88 78) := zAr_s A9 (by decide) (by decide) (by decide) 12 88 (by decide) (by decide) (by decide)
  rw [hR8] at e10 A10
  have e11 := gi146_75 (o := 70) (u := 3) (R := R8) (m := (zup m 70 7 (-1))) ik70
  have A11 : zAr 70 70 8 1060 [(0, 3), (12, 78), (9, 77), (8, 76), (6, 75), (5, 74), (4, 73), (3, 72), (2, 71)] R (zup R8 70 0 3) := zAr_p A10 (by decide) 0 3 (by decide)
  have e12 := gi146_80 (o := 70) (u := 3) (R := (zup R8 70 0 3)) (m := (zup m 70 7 (-1)))
  exact ⟨_, e1.trans (e2.trans (e3.trans (e4.trans (e5.trans (e6.trans (e7.trans (e8.trans (e9.trans (e10.trans (e11.trans (e12))))))))))), A11⟩
theorem ci12_3 (h : R 0 0 = 3) (hm : ∀ b, 3 ≤ b → m b = fun _ => 0) : ∃ R1 m1, ev 12 0 [(2, 3)] [] R m = some ((9, 0), R1, m1) ∧ zAr 3 3 5 1157 [(8, 8), (7, 7), (6, 6), (5, 5), (4, 4)] R R1 ∧ zfr [3, 4, 5, 6, 7, 8] m m1 ∧ BN m1 3 4 4 ∧ m1 3 3 = 1 := by
  have A0 : zAr 3 3 0 0 [] R R := zAr_0 h
  have e1 := gi12_0 (o := 3) (R := R) (m := m) ik3
  have e2 := gi12_4 (o := 3) (l := 4) (R := R) (m := m) ik3 ik4 il4 (zAr_z A0 (by decide)) (zAr_n A0 (by decide)) (zrow_z (hm 4 (by decide)))
  obtain ⟨R1, hR1⟩ : ∃ q, zfa R 3 4 64 4 = q := ⟨_, rfl⟩
  have A2 : zAr 3 3 1 64 [(4, 4)] R (zfa R 3 4 64 4) := zAr_s A0 (by decide) (by decide) (by decide) 4 64 (by decide) (by decide) (by decide)
  rw [hR1] at e2 A2
  have e3 := gi12_12 (o := 3) (l := 5) (R := R1) (m := m) ik3 ik5 il5 (zAr_z A2 (by decide)) (zAr_n A2 (by decide)) (zrow_z (hm 5 (by decide)))
  obtain ⟨R2, hR2⟩ : ∃ q, zfa R1 3 5 64 5 = q := ⟨_, rfl⟩
  have A3 : zAr 3 3 2 128 [(5, 5), (4, 4)] R (zfa R1 3 5 64 5) := zAr_s A2 (by decide) (by decide) (by decide) 5 64 (by decide) (by decide) (by decide)
  rw [hR2] at e3 A3
  have e4 := gi12_20 (o := 3) (l := 6) (R := R2) (m := m) ik3 ik6 il6 (zAr_z A3 (by decide)) (zAr_n A3 (by decide)) (zrow_z (hm 6 (by decide)))
  obtain ⟨R3, hR3⟩ : ∃ q, zfa R2 3 6 64 6 = q := ⟨_, rfl⟩
  have A4 : zAr 3 3 3 192 [(6, 6), (5, 5), (4, 4)] R (zfa R2 3 6 64 6) := zAr_s A3 (by decide) (by decide) (by decide) 6 64 (by decide) (by decide) (by decide)
  rw [hR3] at e4 A4
  have e5 := gi12_28 (o := 3) (l := 7) (R := R3) (m := m) ik3 ik7 il7 (zAr_z A4 (by decide)) (zAr_n A4 (by decide)) (zrow_z (hm 7 (by decide)))
  obtain ⟨R4, hR4⟩ : ∃ q, zfa R3 3 7 5 7 = q := ⟨_, rfl⟩
  have A5 : zAr 3 3 4 197 [(7, 7), (6, 6), (5, 5), (4, 4)] R (zfa R3 3 7 5 7) := zAr_s A4 (by decide) (by decide) (by decide) 7 5 (by decide) (by decide) (by decide)
  rw [hR4] at e5 A5
  have e6 := gi12_35 (o := 3) (l := 8) (R := R4) (m := m) ik3 ik8 il8 (zAr_z A5 (by decide)) (zAr_n A5 (by decide)) (zrow_z (hm 8 (by decide)))
  obtain ⟨R5, hR5⟩ : ∃ q, zfa R4 3 8 960 8 = q := ⟨_, rfl⟩
  have A6 : zAr 3 3 5 1157 [(8, 8), (7, 7), (6, 6), (5, 5), (4, 4)] R (zfa R4 3 8 960 8) := zAr_s A5 (by decide) (by decide) (by decide) 8 960 (by decide) (by decide) (by decide)
  rw [hR5] at e6 A6
  have F : ∀ p ∈ ([(8, 8), (7, 7), (6, 6), (5, 5), (4, 4)] : List (Int × Int)), R5 3 p.1 = p.2 := A6.2.2.2.1
  have hB : BK R5 3 := ⟨ik3, F (4, 4) (by decide), ik4, il4, F (5, 5) (by decide), ik5, il5, F (6, 6) (by decide), ik6, il6, F (7, 7) (by decide), ik7, il7, F (8, 8) (by decide), ik8, il8⟩
  have z3 : m 3 = fun _ => 0 := hm 3 (by decide)
  obtain ⟨m1, b1, b2, b3, b4⟩ := tz_bbegin (R := R5) (m := m) (o := 3) hB (w := 4) (h := 4) (by decide) (by decide) (by rw [z3]; decide) (fun e => by rw [z3] at e; exact absurd e (by decide))
  have eb : ev 12 44 [(2, 3)] [] R5 m = some ((9, 0), R5, m1) := by
    simp only [s12_44, s12_45, s12_46, s12_47, s12_50, zps_0, zps_1, zps_2, zps_3, zps_9, Option.bind_some, Option.bind_none, Int.reduceEq, Int.reduceNe, Int.reduceLT, Int.reduceLE, Int.reduceNeg, Int.reduceAdd, Int.reduceSub, Int.reduceMul, reduceIte, if_true, if_false, true_and, and_true, false_and, and_false, or_true, true_or, or_false, false_or, not_true_eq_false, not_false_eq_true, ite_not, z_b0, z_b1, z_b01, ik3, b1]
  refine ⟨R5, m1, e1.trans (e2.trans (e3.trans (e4.trans (e5.trans (e6.trans (eb)))))), A6, b2, b3, ?_⟩
  rw [b4, z3]
  rfl
theorem ci12_31 (h : R 0 0 = 31) (hm : ∀ b, 31 ≤ b → m b = fun _ => 0) : ∃ R1 m1, ev 12 0 [(2, 31)] [] R m = some ((9, 0), R1, m1) ∧ zAr 31 31 5 1157 [(8, 36), (7, 35), (6, 34), (5, 33), (4, 32)] R R1 ∧ zfr [31, 32, 33, 34, 35, 36] m m1 ∧ BN m1 31 4 4 ∧ m1 31 3 = 1 := by
  have A0 : zAr 31 31 0 0 [] R R := zAr_0 h
  have e1 := gi12_0 (o := 31) (R := R) (m := m) ik31
  have e2 := gi12_4 (o := 31) (l := 32) (R := R) (m := m) ik31 ik32 il32 (zAr_z A0 (by decide)) (zAr_n A0 (by decide)) (zrow_z (hm 32 (by decide)))
  obtain ⟨R1, hR1⟩ : ∃ q, zfa R 31 4 64 32 = q := ⟨_, rfl⟩
  have A2 : zAr 31 31 1 64 [(4, 32)] R (zfa R 31 4 64 32) := zAr_s A0 (by decide) (by decide) (by decide) 4 64 (by decide) (by decide) (by decide)
  rw [hR1] at e2 A2
  have e3 := gi12_12 (o := 31) (l := 33) (R := R1) (m := m) ik31 ik33 il33 (zAr_z A2 (by decide)) (zAr_n A2 (by decide)) (zrow_z (hm 33 (by decide)))
  obtain ⟨R2, hR2⟩ : ∃ q, zfa R1 31 5 64 33 = q := ⟨_, rfl⟩
  have A3 : zAr 31 31 2 128 [(5, 33), (4, 32)] R (zfa R1 31 5 64 33) := zAr_s A2 (by decide) (by decide) (by decide) 5 64 (by decide) (by decide) (by decide)
  rw [hR2] at e3 A3
  have e4 := gi12_20 (o := 31) (l := 34) (R := R2) (m := m) ik31 ik34 il34 (zAr_z A3 (by decide)) (zAr_n A3 (by decide)) (zrow_z (hm 34 (by decide)))
  obtain ⟨R3, hR3⟩ : ∃ q, zfa R2 31 6 64 34 = q := ⟨_, rfl⟩
  have A4 : zAr 31 31 3 192 [(6, 34), (5, 33), (4, 32)] R (zfa R2 31 6 64 34) := zAr_s A3 (by decide) (by decide) (by decide) 6 64 (by decide) (by decide) (by decide)
  rw [hR3] at e4 A4
  have e5 := gi12_28 (o := 31) (l := 35) (R := R3) (m := m) ik31 ik35 il35 (zAr_z A4 (by decide)) (zAr_n A4 (by decide)) (zrow_z (hm 35 (by decide)))
  obtain ⟨R4, hR4⟩ : ∃ q, zfa R3 31 7 5 35 = q := ⟨_, rfl⟩
  have A5 : zAr 31 31 4 197 [(7, 35), (6, 34), (5, 33), (4, 32)] R (zfa R3 31 7 5 35) := zAr_s A4 (by decide) (by decide) (by decide) 7 5 (by decide) (by decide) (by decide)
  rw [hR4] at e5 A5
  have e6 := gi12_35 (o := 31) (l := 36) (R := R4) (m := m) ik31 ik36 il36 (zAr_z A5 (by decide)) (zAr_n A5 (by decide)) (zrow_z (hm 36 (by decide)))
  obtain ⟨R5, hR5⟩ : ∃ q, zfa R4 31 8 960 36 = q := ⟨_, rfl⟩
  have A6 : zAr 31 31 5 1157 [(8, 36), (7, 35), (6, 34), (5, 33), (4, 32)] R (zfa R4 31 8 960 36) := zAr_s A5 (by decide) (by decide) (by decide) 8 960 (by decide) (by decide) (by decide)
  rw [hR5] at e6 A6
  have F : ∀ p ∈ ([(8, 36), (7, 35), (6, 34), (5, 33), (4, 32)] : List (Int × Int)), R5 31 p.1 = p.2 := A6.2.2.2.1
  have hB : BK R5 31 := ⟨ik31, F (4, 32) (by decide), ik32, il32, F (5, 33) (by decide), ik33, il33, F (6, 34) (by decide), ik34, il34, F (7, 35) (by decide), ik35, il35, F (8, 36) (by decide), ik36, il36⟩
  have z3 : m 31 = fun _ => 0 := hm 31 (by decide)
  obtain ⟨m1, b1, b2, b3, b4⟩ := tz_bbegin (R := R5) (m := m) (o := 31) hB (w := 4) (h := 4) (by decide) (by decide) (by rw [z3]; decide) (fun e => by rw [z3] at e; exact absurd e (by decide))
  have eb : ev 12 44 [(2, 31)] [] R5 m = some ((9, 0), R5, m1) := by
    simp only [s12_44, s12_45, s12_46, s12_47, s12_50, zps_0, zps_1, zps_2, zps_3, zps_9, Option.bind_some, Option.bind_none, Int.reduceEq, Int.reduceNe, Int.reduceLT, Int.reduceLE, Int.reduceNeg, Int.reduceAdd, Int.reduceSub, Int.reduceMul, reduceIte, if_true, if_false, true_and, and_true, false_and, and_false, or_true, true_or, or_false, false_or, not_true_eq_false, not_false_eq_true, ite_not, z_b0, z_b1, z_b01, ik31, b1]
  refine ⟨R5, m1, e1.trans (e2.trans (e3.trans (e4.trans (e5.trans (e6.trans (eb)))))), A6, b2, b3, ?_⟩
  rw [b4, z3]
  rfl
theorem ci105_96 (h : R 0 0 = 96) (hm : ∀ b, 96 < b → m b = fun _ => 0) : ∃ R1, ev 105 0 [(2, 96)] [] R m = some ((9, 0), R1, zpr m 97 (zfll (m 97) 4 (-1))) ∧ zAr 96 96 3 520 [(2, 99), (1, 98), (0, 97)] R R1 := by
  have A0 : zAr 96 96 0 0 [] R R := zAr_0 h
  have e1 := gi105_0 (o := 96) (R := R) (m := m) ik96
  have e2 := gi105_4 (o := 96) (l := 97) (R := R) (m := m) ik96 ik97 il97 (zAr_z A0 (by decide)) (zAr_n A0 (by decide)) (zrow_z (hm 97 (by decide)))
  obtain ⟨R1, hR1⟩ : ∃ q, zfa R 96 0 4 97 = q := ⟨_, rfl⟩
  have A2 : zAr 96 96 1 4 [(0, 97)] R (zfa R 96 0 4 97) := zAr_s A0 (by decide) (by decide) (by decide) 0 4 (by decide) (by decide) (by decide)
  rw [hR1] at e2 A2
  have e3 := gi105_11 (o := 96) (l := 98) (R := R1) (m := m) ik96 ik98 il98 (zAr_z A2 (by decide)) (zAr_n A2 (by decide)) (zrow_z (hm 98 (by decide)))
  obtain ⟨R2, hR2⟩ : ∃ q, zfa R1 96 1 4 98 = q := ⟨_, rfl⟩
  have A3 : zAr 96 96 2 8 [(1, 98), (0, 97)] R (zfa R1 96 1 4 98) := zAr_s A2 (by decide) (by decide) (by decide) 1 4 (by decide) (by decide) (by decide)
  rw [hR2] at e3 A3
  have e4 := gi105_18 (o := 96) (l := 99) (R := R2) (m := m) ik96 ik99 il99 (zAr_z A3 (by decide)) (zAr_n A3 (by decide)) (zrow_z (hm 99 (by decide)))
  obtain ⟨R3, hR3⟩ : ∃ q, zfa R2 96 2 512 99 = q := ⟨_, rfl⟩
  have A4 : zAr 96 96 3 520 [(2, 99), (1, 98), (0, 97)] R (zfa R2 96 2 512 99) := zAr_s A3 (by decide) (by decide) (by decide) 2 512 (by decide) (by decide) (by decide)
  rw [hR3] at e4 A4
  have F : R3 96 0 = 97 := A4.2.2.2.1 (0, 97) (by decide)
  have FL := tz_fill (a := 97) (n := 4) (-1) (R := R3) (m := m) ik97 il97 (by decide) (by decide)
  have eb : ev 105 27 [(2, 96)] [] R3 m = some ((9, 0), R3, zpr m 97 (zfll (m 97) 4 (-1))) := by
    simp only [s105_27, s105_28, s105_31, s105_32, s105_35, zps_0, zps_1, zps_2, zps_3, zps_9, Option.bind_some, Option.bind_none, Int.reduceEq, Int.reduceNe, Int.reduceLT, Int.reduceLE, Int.reduceNeg, Int.reduceAdd, Int.reduceSub, Int.reduceMul, reduceIte, if_true, if_false, true_and, and_true, false_and, and_false, or_true, true_or, or_false, false_or, not_true_eq_false, not_false_eq_true, ite_not, z_b0, z_b1, z_b01, ik96, F, FL]
  exact ⟨R3, e1.trans (e2.trans (e3.trans (e4.trans (eb)))), A4⟩
end CTOR
