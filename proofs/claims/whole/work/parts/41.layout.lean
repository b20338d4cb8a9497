/-! the layout of the cells (printed by a program of mine) -/
def BK (R : zM) (o : Int) : Prop := KD o = 2 ∧ R o 4 = o + 1 ∧ KD (o + 1) = 20 ∧ LN (o + 1) = 64 ∧ R o 5 = o + 2 ∧ KD (o + 2) = 20 ∧ LN (o + 2) = 64 ∧ R o 6 = o + 3 ∧ KD (o + 3) = 20 ∧ LN (o + 3) = 64 ∧ R o 7 = o + 4 ∧ KD (o + 4) = 21 ∧ LN (o + 4) = 5 ∧ R o 8 = o + 5 ∧ KD (o + 5) = 21 ∧ LN (o + 5) = 960
def LK (R : zM) (o : Int) : Prop := KD o = 4 ∧ R o 1 = o + 1 ∧ KD (o + 1) = 20 ∧ LN (o + 1) = 84
def SK (R : zM) (o : Int) : Prop := KD o = 7 ∧ R o 1 = o + 1 ∧ KD (o + 1) = 20 ∧ LN (o + 1) = 20 ∧ R o 2 = o + 2 ∧ KD (o + 2) = 20 ∧ LN (o + 2) = 20 ∧ R o 3 = o + 3 ∧ KD (o + 3) = 20 ∧ LN (o + 3) = 20 ∧ R o 4 = o + 4 ∧ KD (o + 4) = 20 ∧ LN (o + 4) = 20 ∧ R o 5 = o + 5 ∧ KD (o + 5) = 20 ∧ LN (o + 5) = 20 ∧ R o 6 = o + 6 ∧ KD (o + 6) = 20 ∧ LN (o + 6) = 20 ∧ R o 7 = o + 7 ∧ KD (o + 7) = 20 ∧ LN (o + 7) = 20 ∧ R o 8 = o + 8 ∧ KD (o + 8) = 20 ∧ LN (o + 8) = 20 ∧ R o 9 = o + 9 ∧ KD (o + 9) = 20 ∧ LN (o + 9) = 20 ∧ R o 10 = o + 10 ∧ KD (o + 10) = 20 ∧ LN (o + 10) = 20 ∧ R o 11 = o + 11 ∧ KD (o + 11) = 21 ∧ LN (o + 11) = 20 ∧ R o 12 = o + 12 ∧ KD (o + 12) = 20 ∧ LN (o + 12) = 64 ∧ R o 13 = o + 13 ∧ KD (o + 13) = 21 ∧ LN (o + 13) = 4 ∧ R o 14 = o + 14 ∧ KD (o + 14) = 20 ∧ LN (o + 14) = 256 ∧ R o 15 = o + 15 ∧ KD (o + 15) = 20 ∧ LN (o + 15) = 64
def TK (R : zM) (t : Int) : Prop := KD t = 9 ∧ R t 0 = t + 1 ∧ R t 1 = t + 7 ∧ R t 2 = t + 9 ∧ R t 5 = t + 25 ∧ KD (t + 25) = 20 ∧ LN (t + 25) = 1536 ∧ R t 6 = t + 26 ∧ KD (t + 26) = 20 ∧ LN (t + 26) = 96 ∧ R t 7 = t + 27 ∧ KD (t + 27) = 20 ∧ LN (t + 27) = 20 ∧ KD (t + 1) = 2 ∧ R (t + 1) 4 = t + 2 ∧ KD (t + 2) = 20 ∧ LN (t + 2) = 64 ∧ R (t + 1) 5 = t + 3 ∧ KD (t + 3) = 20 ∧ LN (t + 3) = 64 ∧ R (t + 1) 6 = t + 4 ∧ KD (t + 4) = 20 ∧ LN (t + 4) = 64 ∧ R (t + 1) 7 = t + 5 ∧ KD (t + 5) = 21 ∧ LN (t + 5) = 5 ∧ R (t + 1) 8 = t + 6 ∧ KD (t + 6) = 21 ∧ LN (t + 6) = 960 ∧ KD (t + 7) = 4 ∧ R (t + 7) 1 = t + 8 ∧ KD (t + 8) = 20 ∧ LN (t + 8) = 84 ∧ KD (t + 9) = 7 ∧ R (t + 9) 1 = t + 10 ∧ KD (t + 10) = 20 ∧ LN (t + 10) = 20 ∧ R (t + 9) 2 = t + 11 ∧ KD (t + 11) = 20 ∧ LN (t + 11) = 20 ∧ R (t + 9) 3 = t + 12 ∧ KD (t + 12) = 20 ∧ LN (t + 12) = 20 ∧ R (t + 9) 4 = t + 13 ∧ KD (t + 13) = 20 ∧ LN (t + 13) = 20 ∧ R (t + 9) 5 = t + 14 ∧ KD (t + 14) = 20 ∧ LN (t + 14) = 20 ∧ R (t + 9) 6 = t + 15 ∧ KD (t + 15) = 20 ∧ LN (t + 15) = 20 ∧ R (t + 9) 7 = t + 16 ∧ KD (t + 16) = 20 ∧ LN (t + 16) = 20 ∧ R (t + 9) 8 = t + 17 ∧ KD (t + 17) = 20 ∧ LN (t + 17) = 20 ∧ R (t + 9) 9 = t + 18 ∧ KD (t + 18) = 20 ∧ LN (t + 18) = 20 ∧ R (t + 9) 10 = t + 19 ∧ KD (t + 19) = 20 ∧ LN (t + 19) = 20 ∧ R (t + 9) 11 = t + 20 ∧ KD (t + 20) = 21 ∧ LN (t + 20) = 20 ∧ R (t + 9) 12 = t + 21 ∧ KD (t + 21) = 20 ∧ LN (t + 21) = 64 ∧ R (t + 9) 13 = t + 22 ∧ KD (t + 22) = 21 ∧ LN (t + 22) = 4 ∧ R (t + 9) 14 = t + 23 ∧ KD (t + 23) = 20 ∧ LN (t + 23) = 256 ∧ R (t + 9) 15 = t + 24 ∧ KD (t + 24) = 20 ∧ LN (t + 24) = 64
def GK (R : zM) : Prop := R 1 0 = 2 ∧ R 1 1 = 30 ∧ R 1 2 = 58 ∧ R 1 3 = 63 ∧ R 1 4 = 68 ∧ R 1 5 = 70 ∧ R 1 6 = 79 ∧ R 1 7 = 87 ∧ R 1 8 = 91 ∧ R 1 9 = 96
theorem GK_k : KD 1 = 12 := by decide +kernel
theorem kGK0 : KD 1 = 12 := by decide +kernel
def AK (R : zM) : Prop := R 58 1 = 59 ∧ R 58 2 = 60 ∧ R 58 3 = 61 ∧ R 58 4 = 62
theorem AK_k : KD 58 = 1 ∧ KD 59 = 20 ∧ LN 59 = 60 ∧ KD 60 = 20 ∧ LN 60 = 60 ∧ KD 61 = 20 ∧ LN 61 = 240 ∧ KD 62 = 23 ∧ LN 62 = 60 := by decide +kernel
theorem kAK0 : KD 58 = 1 := by decide +kernel
theorem kAK1 : KD 59 = 20 := by decide +kernel
theorem kAK2 : LN 59 = 60 := by decide +kernel
theorem kAK3 : KD 60 = 20 := by decide +kernel
theorem kAK4 : LN 60 = 60 := by decide +kernel
theorem kAK5 : KD 61 = 20 := by decide +kernel
theorem kAK6 : LN 61 = 240 := by decide +kernel
theorem kAK7 : KD 62 = 23 := by decide +kernel
theorem kAK8 : LN 62 = 60 := by decide +kernel
def XK (R : zM) : Prop := R 63 3 = 64 ∧ R 63 5 = 65 ∧ R 63 6 = 66 ∧ R 63 7 = 67
theorem XK_k : KD 63 = 3 ∧ KD 64 = 20 ∧ LN 64 = 320 ∧ KD 65 = 20 ∧ LN 65 = 321 ∧ KD 66 = 20 ∧ LN 66 = 321 ∧ KD 67 = 20 ∧ LN 67 = 321 := by decide +kernel
theorem kXK0 : KD 63 = 3 := by decide +kernel
theorem kXK1 : KD 64 = 20 := by decide +kernel
theorem kXK2 : LN 64 = 320 := by decide +kernel
theorem kXK3 : KD 65 = 20 := by decide +kernel
theorem kXK4 : LN 65 = 321 := by decide +kernel
theorem kXK5 : KD 66 = 20 := by decide +kernel
theorem kXK6 : LN 66 = 321 := by decide +kernel
theorem kXK7 : KD 67 = 20 := by decide +kernel
theorem kXK8 : LN 67 = 321 := by decide +kernel
def WK (R : zM) : Prop := R 70 0 = 3 ∧ R 70 2 = 71 ∧ R 70 3 = 72 ∧ R 70 4 = 73 ∧ R 70 5 = 74 ∧ R 70 6 = 75 ∧ R 70 8 = 76 ∧ R 70 9 = 77 ∧ R 70 12 = 78
theorem WK_k : KD 70 = 11 ∧ KD 71 = 20 ∧ LN 71 = 24 ∧ KD 72 = 20 ∧ LN 72 = 4 ∧ KD 73 = 20 ∧ LN 73 = 256 ∧ KD 74 = 20 ∧ LN 74 = 256 ∧ KD 75 = 20 ∧ LN 75 = 256 ∧ KD 76 = 20 ∧ LN 76 = 88 ∧ KD 77 = 20 ∧ LN 77 = 88 ∧ KD 78 = 20 ∧ LN 78 = 88 := by decide +kernel
theorem kWK0 : KD 70 = 11 := by decide +kernel
theorem kWK1 : KD 71 = 20 := by decide +kernel
theorem kWK2 : LN 71 = 24 := by decide +kernel
theorem kWK3 : KD 72 = 20 := by decide +kernel
theorem kWK4 : LN 72 = 4 := by decide +kernel
theorem kWK5 : KD 73 = 20 := by decide +kernel
theorem kWK6 : LN 73 = 256 := by decide +kernel
theorem kWK7 : KD 74 = 20 := by decide +kernel
theorem kWK8 : LN 74 = 256 := by decide +kernel
theorem kWK9 : KD 75 = 20 := by decide +kernel
theorem kWK10 : LN 75 = 256 := by decide +kernel
theorem kWK11 : KD 76 = 20 := by decide +kernel
theorem kWK12 : LN 76 = 88 := by decide +kernel
theorem kWK13 : KD 77 = 20 := by decide +kernel
theorem kWK14 : LN 77 = 88 := by decide +kernel
theorem kWK15 : KD 78 = 20 := by decide +kernel
theorem kWK16 : LN 78 = 88 := by decide +kernel
def PK (R : zM) : Prop := R 79 0 = 70 ∧ R 79 6 = 80 ∧ R 79 7 = 81 ∧ R 79 8 = 82 ∧ R 79 9 = 83 ∧ R 79 10 = 84 ∧ R 79 11 = 85 ∧ R 79 12 = 86
theorem PK_k : KD 79 = 10 ∧ KD 80 = 20 ∧ LN 80 = 8 ∧ KD 81 = 20 ∧ LN 81 = 8 ∧ KD 82 = 20 ∧ LN 82 = 8 ∧ KD 83 = 20 ∧ LN 83 = 8 ∧ KD 84 = 20 ∧ LN 84 = 8 ∧ KD 85 = 20 ∧ LN 85 = 8 ∧ KD 86 = 20 ∧ LN 86 = 512 := by decide +kernel
theorem kPK0 : KD 79 = 10 := by decide +kernel
theorem kPK1 : KD 80 = 20 := by decide +kernel
theorem kPK2 : LN 80 = 8 := by decide +kernel
theorem kPK3 : KD 81 = 20 := by decide +kernel
theorem kPK4 : LN 81 = 8 := by decide +kernel
theorem kPK5 : KD 82 = 20 := by decide +kernel
theorem kPK6 : LN 82 = 8 := by decide +kernel
theorem kPK7 : KD 83 = 20 := by decide +kernel
theorem kPK8 : LN 83 = 8 := by decide +kernel
theorem kPK9 : KD 84 = 20 := by decide +kernel
theorem kPK10 : LN 84 = 8 := by decide +kernel
theorem kPK11 : KD 85 = 20 := by decide +kernel
theorem kPK12 : LN 85 = 8 := by decide +kernel
theorem kPK13 : KD 86 = 20 := by decide +kernel
theorem kPK14 : LN 86 = 512 := by decide +kernel
def QK (R : zM) : Prop := R 87 4 = 88 ∧ R 87 5 = 89 ∧ R 87 6 = 90
theorem QK_k : KD 87 = 6 ∧ KD 88 = 20 ∧ LN 88 = 6 ∧ KD 89 = 20 ∧ LN 89 = 6 ∧ KD 90 = 20 ∧ LN 90 = 6 := by decide +kernel
theorem kQK0 : KD 87 = 6 := by decide +kernel
theorem kQK1 : KD 88 = 20 := by decide +kernel
theorem kQK2 : LN 88 = 6 := by decide +kernel
theorem kQK3 : KD 89 = 20 := by decide +kernel
theorem kQK4 : LN 89 = 6 := by decide +kernel
theorem kQK5 : KD 90 = 20 := by decide +kernel
theorem kQK6 : LN 90 = 6 := by decide +kernel
def NK (R : zM) : Prop := R 91 1 = 92 ∧ R 91 2 = 93 ∧ R 91 3 = 94 ∧ R 91 4 = 95
theorem NK_k : KD 91 = 5 ∧ KD 92 = 20 ∧ LN 92 = 16 ∧ KD 93 = 20 ∧ LN 93 = 16 ∧ KD 94 = 20 ∧ LN 94 = 16 ∧ KD 95 = 20 ∧ LN 95 = 16 := by decide +kernel
theorem kNK0 : KD 91 = 5 := by decide +kernel
theorem kNK1 : KD 92 = 20 := by decide +kernel
theorem kNK2 : LN 92 = 16 := by decide +kernel
theorem kNK3 : KD 93 = 20 := by decide +kernel
theorem kNK4 : LN 93 = 16 := by decide +kernel
theorem kNK5 : KD 94 = 20 := by decide +kernel
theorem kNK6 : LN 94 = 16 := by decide +kernel
theorem kNK7 : KD 95 = 20 := by decide +kernel
theorem kNK8 : LN 95 = 16 := by decide +kernel
def CK (R : zM) : Prop := R 96 0 = 97 ∧ R 96 1 = 98 ∧ R 96 2 = 99
theorem CK_k : KD 96 = 8 ∧ KD 97 = 20 ∧ LN 97 = 4 ∧ KD 98 = 20 ∧ LN 98 = 4 ∧ KD 99 = 20 ∧ LN 99 = 512 := by decide +kernel
theorem kCK0 : KD 96 = 8 := by decide +kernel
theorem kCK1 : KD 97 = 20 := by decide +kernel
theorem kCK2 : LN 97 = 4 := by decide +kernel
theorem kCK3 : KD 98 = 20 := by decide +kernel
theorem kCK4 : LN 98 = 4 := by decide +kernel
theorem kCK5 : KD 99 = 20 := by decide +kernel
theorem kCK6 : LN 99 = 512 := by decide +kernel
def MK (R : zM) : Prop := R 100 2 = 101 ∧ R 100 3 = 102 ∧ R 100 4 = 103 ∧ R 100 5 = 104 ∧ R 100 9 = 105 ∧ R 100 11 = 106 ∧ R 100 12 = 107 ∧ R 100 13 = 108 ∧ R 100 14 = 109 ∧ R 100 15 = 110 ∧ R 100 16 = 111 ∧ R 100 17 = 112 ∧ R 100 18 = 113 ∧ R 100 20 = 114 ∧ R 100 21 = 115 ∧ R 100 22 = 116 ∧ R 100 23 = 117 ∧ R 100 24 = 118 ∧ R 100 25 = 119 ∧ R 100 26 = 120 ∧ R 100 35 = 121 ∧ R 100 37 = 122 ∧ R 100 38 = 123 ∧ R 100 39 = 124 ∧ R 100 40 = 125 ∧ R 100 41 = 126 ∧ R 100 42 = 127 ∧ R 100 43 = 128 ∧ R 100 47 = 129 ∧ R 100 48 = 130 ∧ R 100 52 = 131 ∧ R 100 53 = 132 ∧ R 100 54 = 133 ∧ R 100 55 = 134 ∧ R 100 57 = 135 ∧ R 100 59 = 136 ∧ R 100 60 = 137 ∧ R 100 61 = 138 ∧ R 100 63 = 139 ∧ R 100 64 = 140 ∧ R 100 65 = 141 ∧ R 100 66 = 142 ∧ R 100 68 = 143 ∧ R 100 69 = 144 ∧ R 100 70 = 145 ∧ R 100 72 = 146 ∧ R 100 73 = 147 ∧ R 100 74 = 148 ∧ R 100 75 = 149 ∧ R 100 76 = 150 ∧ R 100 77 = 151 ∧ R 100 78 = 152
theorem MK_k : KD 100 = 13 ∧ KD 101 = 20 ∧ LN 101 = 64 ∧ KD 102 = 20 ∧ LN 102 = 64 ∧ KD 103 = 20 ∧ LN 103 = 64 ∧ KD 104 = 20 ∧ LN 104 = 64 ∧ KD 105 = 20 ∧ LN 105 = 84 ∧ KD 106 = 20 ∧ LN 106 = 20 ∧ KD 107 = 20 ∧ LN 107 = 20 ∧ KD 108 = 20 ∧ LN 108 = 20 ∧ KD 109 = 20 ∧ LN 109 = 20 ∧ KD 110 = 20 ∧ LN 110 = 20 ∧ KD 111 = 20 ∧ LN 111 = 20 ∧ KD 112 = 20 ∧ LN 112 = 20 ∧ KD 113 = 20 ∧ LN 113 = 20 ∧ KD 114 = 20 ∧ LN 114 = 60 ∧ KD 115 = 20 ∧ LN 115 = 60 ∧ KD 116 = 20 ∧ LN 116 = 240 ∧ KD 117 = 20 ∧ LN 117 = 5040 ∧ KD 118 = 20 ∧ LN 118 = 1536 ∧ KD 119 = 20 ∧ LN 119 = 96 ∧ KD 120 = 20 ∧ LN 120 = 320 ∧ KD 121 = 20 ∧ LN 121 = 84 ∧ KD 122 = 20 ∧ LN 122 = 12 ∧ KD 123 = 20 ∧ LN 123 = 44 ∧ KD 124 = 20 ∧ LN 124 = 64 ∧ KD 125 = 20 ∧ LN 125 = 20 ∧ KD 126 = 21 ∧ LN 126 = 20 ∧ KD 127 = 20 ∧ LN 127 = 256 ∧ KD 128 = 22 ∧ LN 128 = 256 ∧ KD 129 = 20 ∧ LN 129 = 64 ∧ KD 130 = 20 ∧ LN 130 = 512 ∧ KD 131 = 20 ∧ LN 131 = 4 ∧ KD 132 = 20 ∧ LN 132 = 24 ∧ KD 133 = 20 ∧ LN 133 = 88 ∧ KD 134 = 22 ∧ LN 134 = 88 ∧ KD 135 = 20 ∧ LN 135 = 128 ∧ KD 136 = 20 ∧ LN 136 = 256 ∧ KD 137 = 22 ∧ LN 137 = 88 ∧ KD 138 = 22 ∧ LN 138 = 88 ∧ KD 139 = 20 ∧ LN 139 = 8 ∧ KD 140 = 20 ∧ LN 140 = 8 ∧ KD 141 = 20 ∧ LN 141 = 8 ∧ KD 142 = 20 ∧ LN 142 = 512 ∧ KD 143 = 20 ∧ LN 143 = 6 ∧ KD 144 = 20 ∧ LN 144 = 6 ∧ KD 145 = 20 ∧ LN 145 = 6 ∧ KD 146 = 20 ∧ LN 146 = 16 ∧ KD 147 = 20 ∧ LN 147 = 16 ∧ KD 148 = 20 ∧ LN 148 = 16 ∧ KD 149 = 20 ∧ LN 149 = 16 ∧ KD 150 = 20 ∧ LN 150 = 4 ∧ KD 151 = 20 ∧ LN 151 = 4 ∧ KD 152 = 20 ∧ LN 152 = 512 := by decide +kernel
theorem kMK0 : KD 100 = 13 := by decide +kernel
theorem kMK1 : KD 101 = 20 := by decide +kernel
theorem kMK2 : LN 101 = 64 := by decide +kernel
theorem kMK3 : KD 102 = 20 := by decide +kernel
theorem kMK4 : LN 102 = 64 := by decide +kernel
theorem kMK5 : KD 103 = 20 := by decide +kernel
theorem kMK6 : LN 103 = 64 := by decide +kernel
theorem kMK7 : KD 104 = 20 := by decide +kernel
theorem kMK8 : LN 104 = 64 := by decide +kernel
theorem kMK9 : KD 105 = 20 := by decide +kernel
theorem kMK10 : LN 105 = 84 := by decide +kernel
theorem kMK11 : KD 106 = 20 := by decide +kernel
theorem kMK12 : LN 106 = 20 := by decide +kernel
theorem kMK13 : KD 107 = 20 := by decide +kernel
theorem kMK14 : LN 107 = 20 := by decide +kernel
theorem kMK15 : KD 108 = 20 := by decide +kernel
theorem kMK16 : LN 108 = 20 := by decide +kernel
theorem kMK17 : KD 109 = 20 := by decide +kernel
theorem kMK18 : LN 109 = 20 := by decide +kernel
theorem kMK19 : KD 110 = 20 := by decide +kernel
theorem kMK20 : LN 110 = 20 := by decide +kernel
theorem kMK21 : KD 111 = 20 := by decide +kernel
theorem kMK22 : LN 111 = 20 := by decide +kernel
theorem kMK23 : KD 112 = 20 := by decide +kernel
theorem kMK24 : LN 112 = 20 := by decide +kernel
theorem kMK25 : KD 113 = 20 := by decide +kernel
theorem kMK26 : LN 113 = 20 := by decide +kernel
theorem kMK27 : KD 114 = 20 := by decide +kernel
theorem kMK28 : LN 114 = 60 := by decide +kernel
theorem kMK29 : KD 115 = 20 := by decide +kernel
theorem kMK30 : LN 115 = 60 := by decide +kernel
theorem kMK31 : KD 116 = 20 := by decide +kernel
theorem kMK32 : LN 116 = 240 := by decide +kernel
theorem kMK33 : KD 117 = 20 := by decide +kernel
theorem kMK34 : LN 117 = 5040 := by decide +kernel
theorem kMK35 : KD 118 = 20 := by decide +kernel
theorem kMK36 : LN 118 = 1536 := by decide +kernel
theorem kMK37 : KD 119 = 20 := by decide +kernel
theorem kMK38 : LN 119 = 96 := by decide +kernel
theorem kMK39 : KD 120 = 20 := by decide +kernel
theorem kMK40 : LN 120 = 320 := by decide +kernel
theorem kMK41 : KD 121 = 20 := by decide +kernel
theorem kMK42 : LN 121 = 84 := by decide +kernel
theorem kMK43 : KD 122 = 20 := by decide +kernel
theorem kMK44 : LN 122 = 12 := by decide +kernel
theorem kMK45 : KD 123 = 20 := by decide +kernel
theorem kMK46 : LN 123 = 44 := by decide +kernel
theorem kMK47 : KD 124 = 20 := by decide +kernel
theorem kMK48 : LN 124 = 64 := by decide +kernel
theorem kMK49 : KD 125 = 20 := by decide +kernel
theorem kMK50 : LN 125 = 20 := by decide +kernel
theorem kMK51 : KD 126 = 21 := by decide +kernel
theorem kMK52 : LN 126 = 20 := by decide +kernel
theorem kMK53 : KD 127 = 20 := by decide +kernel
theorem kMK54 : LN 127 = 256 := by decide +kernel
theorem kMK55 : KD 128 = 22 := by decide +kernel
theorem kMK56 : LN 128 = 256 := by decide +kernel
theorem kMK57 : KD 129 = 20 := by decide +kernel
theorem kMK58 : LN 129 = 64 := by decide +kernel
theorem kMK59 : KD 130 = 20 := by decide +kernel
theorem kMK60 : LN 130 = 512 := by decide +kernel
theorem kMK61 : KD 131 = 20 := by decide +kernel
theorem kMK62 : LN 131 = 4 := by decide +kernel
theorem kMK63 : KD 132 = 20 := by decide +kernel
theorem kMK64 : LN 132 = 24 := by decide +kernel
theorem kMK65 : KD 133 = 20 := by decide +kernel
theorem kMK66 : LN 133 = 88 := by decide +kernel
theorem kMK67 : KD 134 = 22 := by decide +kernel
theorem kMK68 : LN 134 = 88 := by decide +kernel
theorem kMK69 : KD 135 = 20 := by decide +kernel
theorem kMK70 : LN 135 = 128 := by decide +kernel
theorem kMK71 : KD 136 = 20 := by decide +kernel
theorem kMK72 : LN 136 = 256 := by decide +kernel
theorem kMK73 : KD 137 = 22 := by decide +kernel
theorem kMK74 : LN 137 = 88 := by decide +kernel
theorem kMK75 : KD 138 = 22 := by decide +kernel
theorem kMK76 : LN 138 = 88 := by decide +kernel
theorem kMK77 : KD 139 = 20 := by decide +kernel
theorem kMK78 : LN 139 = 8 := by decide +kernel
theorem kMK79 : KD 140 = 20 := by decide +kernel
theorem kMK80 : LN 140 = 8 := by decide +kernel
theorem kMK81 : KD 141 = 20 := by decide +kernel
theorem kMK82 : LN 141 = 8 := by decide +kernel
theorem kMK83 : KD 142 = 20 := by decide +kernel
theorem kMK84 : LN 142 = 512 := by decide +kernel
theorem kMK85 : KD 143 = 20 := by decide +kernel
theorem kMK86 : LN 143 = 6 := by decide +kernel
theorem kMK87 : KD 144 = 20 := by decide +kernel
theorem kMK88 : LN 144 = 6 := by decide +kernel
theorem kMK89 : KD 145 = 20 := by decide +kernel
theorem kMK90 : LN 145 = 6 := by decide +kernel
theorem kMK91 : KD 146 = 20 := by decide +kernel
theorem kMK92 : LN 146 = 16 := by decide +kernel
theorem kMK93 : KD 147 = 20 := by decide +kernel
theorem kMK94 : LN 147 = 16 := by decide +kernel
theorem kMK95 : KD 148 = 20 := by decide +kernel
theorem kMK96 : LN 148 = 16 := by decide +kernel
theorem kMK97 : KD 149 = 20 := by decide +kernel
theorem kMK98 : LN 149 = 16 := by decide +kernel
theorem kMK99 : KD 150 = 20 := by decide +kernel
theorem kMK100 : LN 150 = 4 := by decide +kernel
theorem kMK101 : KD 151 = 20 := by decide +kernel
theorem kMK102 : LN 151 = 4 := by decide +kernel
theorem kMK103 : KD 152 = 20 := by decide +kernel
theorem kMK104 : LN 152 = 512 := by decide +kernel
def RK (R : zM) : Prop := TK R 2 ∧ TK R 30 ∧ LK R 68 ∧ GK R ∧ AK R ∧ XK R ∧ WK R ∧ PK R ∧ QK R ∧ NK R ∧ CK R ∧ MK R
