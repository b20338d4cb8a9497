/-! the layout of the cells (printed by a program of mine) -/
def BK (R : zM) (o : Int) : Prop := KD o = 2 ∧ R o 4 = o + 1 ∧ KD (o + 1) = 20 ∧ LN (o + 1) = 64 ∧ R o 5 = o + 2 ∧ KD (o + 2) = 20 ∧ LN (o + 2) = 64 ∧ R o 6 = o + 3 ∧ KD (o + 3) = 20 ∧ LN (o + 3) = 64 ∧ R o 7 = o + 4 ∧ KD (o + 4) = 21 ∧ LN (o + 4) = 5 ∧ R o 8 = o + 5 ∧ KD (o + 5) = 21 ∧ LN (o + 5) = 960
def LK (R : zM) (o : Int) : Prop := KX R o = 4 ∧ R o 1 = o + 1 ∧ KX R (o + 1) = 20 ∧ LX R (o + 1) = 84
def SK (R : zM) (o : Int) : Prop := KD o = 7 ∧ R o 1 = o + 1 ∧ KD (o + 1) = 20 ∧ LN (o + 1) = 20 ∧ R o 2 = o + 2 ∧ KD (o + 2) = 20 ∧ LN (o + 2) = 20 ∧ R o 3 = o + 3 ∧ KD (o + 3) = 20 ∧ LN (o + 3) = 20 ∧ R o 4 = o + 4 ∧ KD (o + 4) = 20 ∧ LN (o + 4) = 20 ∧ R o 5 = o + 5 ∧ KD (o + 5) = 20 ∧ LN (o + 5) = 20 ∧ R o 6 = o + 6 ∧ KD (o + 6) = 20 ∧ LN (o + 6) = 20 ∧ R o 7 = o + 7 ∧ KD (o + 7) = 20 ∧ LN (o + 7) = 20 ∧ R o 8 = o + 8 ∧ KD (o + 8) = 20 ∧ LN (o + 8) = 20 ∧ R o 9 = o + 9 ∧ KD (o + 9) = 20 ∧ LN (o + 9) = 20 ∧ R o 10 = o + 10 ∧ KD (o + 10) = 20 ∧ LN (o + 10) = 20 ∧ R o 11 = o + 11 ∧ KD (o + 11) = 21 ∧ LN (o + 11) = 20 ∧ R o 12 = o + 12 ∧ KD (o + 12) = 20 ∧ LN (o + 12) = 64 ∧ R o 13 = o + 13 ∧ KD (o + 13) = 21 ∧ LN (o + 13) = 4 ∧ R o 14 = o + 14 ∧ KD (o + 14) = 20 ∧ LN (o + 14) = 256 ∧ R o 15 = o + 15 ∧ KD (o + 15) = 20 ∧ LN (o + 15) = 64
def TK (R : zM) (t : Int) : Prop := KD t = 9 ∧ R t 0 = t + 1 ∧ R t 1 = t + 7 ∧ R t 2 = t + 9 ∧ R t 5 = t + 25 ∧ KD (t + 25) = 20 ∧ LN (t + 25) = 1536 ∧ R t 6 = t + 26 ∧ KD (t + 26) = 20 ∧ LN (t + 26) = 96 ∧ R t 7 = t + 27 ∧ KD (t + 27) = 20 ∧ LN (t + 27) = 20 ∧ KD (t + 1) = 2 ∧ R (t + 1) 4 = t + 2 ∧ KD (t + 2) = 20 ∧ LN (t + 2) = 64 ∧ R (t + 1) 5 = t + 3 ∧ KD (t + 3) = 20 ∧ LN (t + 3) = 64 ∧ R (t + 1) 6 = t + 4 ∧ KD (t + 4) = 20 ∧ LN (t + 4) = 64 ∧ R (t + 1) 7 = t + 5 ∧ KD (t + 5) = 21 ∧ LN (t + 5) = 5 ∧ R (t + 1) 8 = t + 6 ∧ KD (t + 6) = 21 ∧ LN (t + 6) = 960 ∧ KD (t + 7) = 4 ∧ R (t + 7) 1 = t + 8 ∧ KD (t + 8) = 20 ∧ LN (t + 8) = 84 ∧ KD (t + 9) = 7 ∧ R (t + 9) 1 = t + 10 ∧ KD (t + 10) = 20 ∧ LN (t + 10) = 20 ∧ R (t + 9) 2 = t + 11 ∧ KD (t + 11) = 20 ∧ LN (t + 11) = 20 ∧ R (t + 9) 3 = t + 12 ∧ KD (t + 12) = 20 ∧ LN (t + 12) = 20 ∧ R (t + 9) 4 = t + 13 ∧ KD (t + 13) = 20 ∧ LN (t + 13) = 20 ∧ R (t + 9) 5 = t + 14 ∧ KD (t + 14) = 20 ∧ LN (t + 14) = 20 ∧ R (t + 9) 6 = t + 15 ∧ KD (t + 15) = 20 ∧ LN (t + 15) = 20 ∧ R (t + 9) 7 = t + 16 ∧ KD (t + 16) = 20 ∧ LN (t + 16) = 20 ∧ R (t + 9) 8 = t + 17 ∧ KD (t + 17) = 20 ∧ LN (t + 17) = 20 ∧ R (t + 9) 9 = t + 18 ∧ KD (t + 18) = 20 ∧ LN (t + 18) = 20 ∧ R (t + 9) 10 = t + 19 ∧ KD (t + 19) = 20 ∧ LN (t + 19) = 20 ∧ R (t + 9) 11 = t + 20 ∧ KD (t + 20) = 21 ∧ LN (t + 20) = 20 ∧ R (t + 9) 12 = t + 21 ∧ KD (t + 21) = 20 ∧ LN (t + 21) = 64 ∧ R (t + 9) 13 = t + 22 ∧ KD (t + 22) = 21 ∧ LN (t + 22) = 4 ∧ R (t + 9) 14 = t + 23 ∧ KD (t + 23) = 20 ∧ LN (t + 23) = 256 ∧ R (t + 9) 15 = t + 24 ∧ KD (t + 24) = 20 ∧ LN (t + 24) = 64
theorem LK_D {R : zM} {o : Int} (h : KD o = 4 ∧ R o 1 = o + 1 ∧ KD (o + 1) = 20 ∧ LN (o + 1) = 84) : LK R o := ⟨KX_k h.1 (by decide), h.2.1, KX_k h.2.2.1 (by decide), by rw [KX_l h.2.2.1 (by decide)]; exact h.2.2.2⟩
def GK (R : zM) : Prop := R 1 0 = 2 ∧ R 1 1 = 30 ∧ R 1 2 = 58 ∧ R 1 3 = 63 ∧ R 1 4 = 68 ∧ R 1 5 = 70 ∧ R 1 6 = 79 ∧ R 1 7 = 87 ∧ R 1 8 = 91 ∧ R 1 9 = 96
theorem kGK0 : KD 1 = 12 := by decide +kernel
def AK (R : zM) : Prop := R 58 1 = 59 ∧ R 58 2 = 60 ∧ R 58 3 = 61 ∧ R 58 4 = 62
theorem kAK0 : KD 58 = 1 := by decide +kernel
theorem kAK1 : KD 59 = 20 := by decide +kernel
theorem kAK2 : LN 59 = 60 := by decide +kernel
theorem kAK3 : KD 60 = 20 := by decide +kernel
theorem kAK4 : LN 60 = 60 := by decide +kernel
theorem kAK5 : KD 61 = 20 := by decide +kernel
theorem kAK6 : LN 61 = 240 := by decide +kernel
theorem kAK7 : KD 62 = 23 := by decide +kernel
theorem kAK8 : LN 62 = 60 := by decide +kernel
def XK (R : zM) : Prop := R 63 3 = 64 ∧ R 63 5 = 65 ∧ R 63 6 = 66 ∧ R 63 7 = 67
theorem kXK0 : KD 63 = 3 := by decide +kernel
theorem kXK1 : KD 64 = 20 := by decide +kernel
theorem kXK2 : LN 64 = 320 := by decide +kernel
theorem kXK3 : KD 65 = 20 := by decide +kernel
theorem kXK4 : LN 65 = 321 := by decide +kernel
theorem kXK5 : KD 66 = 20 := by decide +kernel
theorem kXK6 : LN 66 = 321 := by decide +kernel
theorem kXK7 : KD 67 = 20 := by decide +kernel
theorem kXK8 : LN 67 = 321 := by decide +kernel
def WK (R : zM) : Prop := R 70 0 = 3 ∧ R 70 2 = 71 ∧ R 70 3 = 72 ∧ R 70 4 = 73 ∧ R 70 5 = 74 ∧ R 70 6 = 75 ∧ R 70 8 = 76 ∧ R 70 9 = 77 ∧ R 70 12 = 78
theorem kWK0 : KD 70 = 11 := by decide +kernel
theorem kWK1 : KD 71 = 20 := by decide +kernel
theorem kWK2 : LN 71 = 24 := by decide +kernel
theorem kWK3 : KD 72 = 20 := by decide +kernel
theorem kWK4 : LN 72 = 4 := by decide +kernel
theorem kWK5 : KD 73 = 20 := by decide +kernel
theorem kWK6 : LN 73 = 256 := by decide +kernel
theorem kWK7 : KD 74 = 20 := by decide +kernel
theorem kWK8 : LN 74 = 256 := by decide +kernel
theorem kWK9 : KD 75 = 20 := by decide +kernel
theorem kWK10 : LN 75 = 256 := by decide +kernel
theorem kWK11 : KD 76 = 20 := by decide +kernel
theorem kWK12 : LN 76 = 88 := by decide +kernel
theorem kWK13 : KD 77 = 20 := by decide +kernel
theorem kWK14 : LN 77 = 88 := by decide +kernel
theorem kWK15 : KD 78 = 20 := by decide +kernel
theorem kWK16 : LN 78 = 88 := by decide +kernel
def PK (R : zM) : Prop := R 79 0 = 70 ∧ R 79 6 = 80 ∧ R 79 7 = 81 ∧ R 79 8 = 82 ∧ R 79 9 = 83 ∧ R 79 10 = 84 ∧ R 79 11 = 85 ∧ R 79 12 = 86
theorem kPK0 : KD 79 = 10 := by decide +kernel
theorem kPK1 : KD 80 = 20 := by decide +kernel
theorem kPK2 : LN 80 = 8 := by decide +kernel
theorem kPK3 : KD 81 = 20 := by decide +kernel
theorem kPK4 : LN 81 = 8 := by decide +kernel
theorem kPK5 : KD 82 = 20 := by decide +kernel
theorem kPK6 : LN 82 = 8 := by decide +kernel
theorem kPK7 : KD 83 = 20 := by decide +kernel
theorem kPK8 : LN 83 = 8 := by decide +kernel
theorem kPK9 : KD 84 = 20 := by decide +kernel
theorem kPK10 : LN 84 = 8 := by decide +kernel
theorem kPK11 : KD 85 = 20 := by decide +kernel
theorem kPK12 : LN 85 = 8 := by decide +kernel
theorem kPK13 : KD 86 = 20 := by decide +kernel
theorem kPK14 : LN 86 = 512 := by decide +kernel
def QK (R : zM) : Prop := R 87 4 = 88 ∧ R 87 5 = 89 ∧ R 87 6 = 90
theorem kQK0 : KD 87 = 6 := by decide +kernel
theorem kQK1 : KD 88 = 20 := by decide +kernel
theorem kQK2 : LN 88 = 6 := by decide +kernel
theorem kQK3 : KD 89 = 20 := by decide +kernel
theorem kQK4 : LN 89 = 6 := by decide +kernel
theorem kQK5 : KD 90 = 20 := by decide +kernel
theorem kQK6 : LN 90 = 6 := by decide +kernel
def NK (R : zM) : Prop := R 91 1 = 92 ∧ R 91 2 = 93 ∧ R 91 3 = 94 ∧ R 91 4 = 95
theorem kNK0 : KD 91 = 5 := by decide +kernel
theorem kNK1 : KD 92 = 20 := by decide +kernel
theorem kNK2 : LN 92 = 16 := by decide +kernel
theorem kNK3 : KD 93 = 20 := by decide +kernel
theorem kNK4 : LN 93 = 16 := by decide +kernel
theorem kNK5 : KD 94 = 20 := by decide +kernel
theorem kNK6 : LN 94 = 16 := by decide +kernel
theorem kNK7 : KD 95 = 20 := by decide +kernel
theorem kNK8 : LN 95 = 16 := by decide +kernel
def CK (R : zM) : Prop := R 96 0 = 97 ∧ R 96 1 = 98 ∧ R 96 2 = 99
theorem kCK0 : KD 96 = 8 := by decide +kernel
theorem kCK1 : KD 97 = 20 := by decide +kernel
theorem kCK2 : LN 97 = 4 := by decide +kernel
theorem kCK3 : KD 98 = 20 := by decide +kernel
theorem kCK4 : LN 98 = 4 := by decide +kernel
theorem kCK5 : KD 99 = 20 := by decide +kernel
theorem kCK6 : LN 99 = 512 := by decide +kernel
def RK (R : zM) : Prop := TK R 2 ∧ TK R 30 ∧ LK R 68 ∧ GK R ∧ AK R ∧ XK R ∧ WK R ∧ PK R ∧ QK R ∧ NK R ∧ CK R
