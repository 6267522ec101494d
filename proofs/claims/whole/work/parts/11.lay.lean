/-! the layout that the two constructors make: the class from 9 on, the reference from 150 on -/
def LKl : List Kd := [.inl 0, .inl 0, .inl 0, .inl 0, .inl 0, .inl 0, .inl 0, .inl 0, .inl 0, .inl 8, .inl 6, .inr (0, 400), .inl 0, .inr (3, 6), .inr (4, 6), .inr (5, 12), .inl 1, .inl 1, .inl 1, .inl 1, .inl 1, .inl 1, .inl 7, .inl 7, .inl 7, .inl 7, .inl 7, .inl 7, .inl 5, .inl 5, .inl 5, .inl 5, .inl 5, .inl 5, .inl 5, .inl 5, .inl 5, .inl 5, .inl 5, .inl 5, .inl 0, .inr (3, 6), .inr (4, 6), .inr (5, 12), .inl 1, .inl 1, .inl 1, .inl 1, .inl 1, .inl 1, .inl 7, .inl 7, .inl 7, .inl 7, .inl 7, .inl 7, .inl 5, .inl 5, .inl 5, .inl 5, .inl 5, .inl 5, .inl 5, .inl 5, .inl 5, .inl 5, .inl 5, .inl 5, .inr (6, 2), .inr (2, 2), .inr (7, 4), .inl 2, .inr (3, 6), .inr (1, 7), .inr (1, 6), .inr (1, 6), .inl 1, .inl 1, .inl 1, .inl 1, .inl 1, .inl 1, .inl 1, .inr (0, 6), .inr (0, 6), .inr (0, 9), .inl 0, .inr (3, 6), .inr (4, 6), .inr (5, 12), .inl 1, .inl 1, .inl 1, .inl 1, .inl 1, .inl 1, .inl 7, .inl 7, .inl 7, .inl 7, .inl 7, .inl 7, .inl 5, .inl 5, .inl 5, .inl 5, .inl 5, .inl 5, .inl 5, .inl 5, .inl 5, .inl 5, .inl 5, .inl 5, .inl 0, .inr (3, 6), .inr (4, 6), .inr (5, 12), .inl 1, .inl 1, .inl 1, .inl 1, .inl 1, .inl 1, .inl 7, .inl 7, .inl 7, .inl 7, .inl 7, .inl 7, .inl 5, .inl 5, .inl 5, .inl 5, .inl 5, .inl 5, .inl 5, .inl 5, .inl 5, .inl 5, .inl 5, .inl 5, .inl 4, .inr (0, 40), .inl 4, .inr (0, 40), .inl 4, .inr (0, 40), .inl 4, .inr (0, 40), .inl 9, .inr (0, 324), .inr (2, 2), .inr (0, 108), .inr (0, 400), .inr (1, 46656), .inr (1, 46656), .inr (0, 12), .inr (0, 4), .inr (0, 4), .inr (0, 160)]
def LK (a : Nat) : Kd := LKl.getD a (.inl 0)
def LRl : List (List (Option Nat)) := [[], [], [], [], [], [], [], [], [], [some 10, some 12, some 40, some 68, some 69, some 70, some 71, some 82, some 83, some 84, some 85], [some 11], [], [some 13, some 14, some 15], [some 16, some 17, some 18, some 19, some 20, some 21], [some 22, some 23, some 24, some 25, some 26, some 27], [some 28, some 29, some 30, some 31, some 32, some 33, some 34, some 35, some 36, some 37, some 38, some 39], [], [], [], [], [], [], [], [], [], [], [], [], [], [], [], [], [], [], [], [], [], [], [], [], [some 41, some 42, some 43], [some 44, some 45, some 46, some 47, some 48, some 49], [some 50, some 51, some 52, some 53, some 54, some 55], [some 56, some 57, some 58, some 59, some 60, some 61, some 62, some 63, some 64, some 65, some 66, some 67], [], [], [], [], [], [], [], [], [], [], [], [], [], [], [], [], [], [], [], [], [], [], [], [], [some 86, some 114], [], [some 142, some 144, some 146, some 148], [some 72, some 73, some 74, some 75], [some 76, some 77, some 78, some 79, some 80, some 81], [], [], [], [], [], [], [], [], [], [], [], [], [], [some 87, some 88, some 89], [some 90, some 91, some 92, some 93, some 94, some 95], [some 96, some 97, some 98, some 99, some 100, some 101], [some 102, some 103, some 104, some 105, some 106, some 107, some 108, some 109, some 110, some 111, some 112, some 113], [], [], [], [], [], [], [], [], [], [], [], [], [], [], [], [], [], [], [], [], [], [], [], [], [some 115, some 116, some 117], [some 118, some 119, some 120, some 121, some 122, some 123], [some 124, some 125, some 126, some 127, some 128, some 129], [some 130, some 131, some 132, some 133, some 134, some 135, some 136, some 137, some 138, some 139, some 140, some 141], [], [], [], [], [], [], [], [], [], [], [], [], [], [], [], [], [], [], [], [], [], [], [], [], [some 143], [], [some 145], [], [some 147], [], [some 149], [], [some 151, some 152, none, some 153, none, none, none, none, some 154, none, none, none, none, none, none, none, some 155, some 156, none, none, none, none, some 157, some 158, some 159, some 160], [], [], [], [], [], [], [], [], [], []]
def LR (a j : Nat) : Option Nat := (LRl.getD a []).getD j none
def Lay (y : LY) : Prop := 161 ≤ y.n ∧ ∀ a, 9 ≤ a → a < 161 → y.k a = LK a ∧ ∀ j, y.R a j = LR a j
theorem Lay.o {y : LY} (hY : Lay y) {a ci : Nat} (h : 9 ≤ a ∧ a < 161 ∧ LK a = .inl ci) : IsO y a ci := ⟨h.1, Nat.lt_of_lt_of_le h.2.1 hY.1, (hY.2 a h.1 h.2.1).1.trans h.2.2⟩
theorem Lay.a {y : LY} (hY : Lay y) {a t n : Nat} (h : 9 ≤ a ∧ a < 161 ∧ LK a = .inr (t, n)) : IsA y a t n := ⟨h.1, Nat.lt_of_lt_of_le h.2.1 hY.1, (hY.2 a h.1 h.2.1).1.trans h.2.2⟩
theorem Lay.r {y : LY} (hY : Lay y) {a j b : Nat} (h : 9 ≤ a ∧ a < 161 ∧ LR a j = some b) : y.R a j = some b := ((hY.2 a h.1 h.2.1).2 j).trans h.2.2
theorem yo9 {y : LY} (hY : Lay y) : IsO y 9 8 := hY.o (by decide +kernel)
theorem yo10 {y : LY} (hY : Lay y) : IsO y 10 6 := hY.o (by decide +kernel)
theorem ya11 {y : LY} (hY : Lay y) : IsA y 11 0 400 := hY.a (by decide +kernel)
theorem yo12 {y : LY} (hY : Lay y) : IsO y 12 0 := hY.o (by decide +kernel)
theorem ya13 {y : LY} (hY : Lay y) : IsA y 13 3 6 := hY.a (by decide +kernel)
theorem ya14 {y : LY} (hY : Lay y) : IsA y 14 4 6 := hY.a (by decide +kernel)
theorem ya15 {y : LY} (hY : Lay y) : IsA y 15 5 12 := hY.a (by decide +kernel)
theorem yo16 {y : LY} (hY : Lay y) : IsO y 16 1 := hY.o (by decide +kernel)
theorem yo17 {y : LY} (hY : Lay y) : IsO y 17 1 := hY.o (by decide +kernel)
theorem yo18 {y : LY} (hY : Lay y) : IsO y 18 1 := hY.o (by decide +kernel)
theorem yo19 {y : LY} (hY : Lay y) : IsO y 19 1 := hY.o (by decide +kernel)
theorem yo20 {y : LY} (hY : Lay y) : IsO y 20 1 := hY.o (by decide +kernel)
theorem yo21 {y : LY} (hY : Lay y) : IsO y 21 1 := hY.o (by decide +kernel)
theorem yo22 {y : LY} (hY : Lay y) : IsO y 22 7 := hY.o (by decide +kernel)
theorem yo23 {y : LY} (hY : Lay y) : IsO y 23 7 := hY.o (by decide +kernel)
theorem yo24 {y : LY} (hY : Lay y) : IsO y 24 7 := hY.o (by decide +kernel)
theorem yo25 {y : LY} (hY : Lay y) : IsO y 25 7 := hY.o (by decide +kernel)
theorem yo26 {y : LY} (hY : Lay y) : IsO y 26 7 := hY.o (by decide +kernel)
theorem yo27 {y : LY} (hY : Lay y) : IsO y 27 7 := hY.o (by decide +kernel)
theorem yo28 {y : LY} (hY : Lay y) : IsO y 28 5 := hY.o (by decide +kernel)
theorem yo29 {y : LY} (hY : Lay y) : IsO y 29 5 := hY.o (by decide +kernel)
theorem yo30 {y : LY} (hY : Lay y) : IsO y 30 5 := hY.o (by decide +kernel)
theorem yo31 {y : LY} (hY : Lay y) : IsO y 31 5 := hY.o (by decide +kernel)
theorem yo32 {y : LY} (hY : Lay y) : IsO y 32 5 := hY.o (by decide +kernel)
theorem yo33 {y : LY} (hY : Lay y) : IsO y 33 5 := hY.o (by decide +kernel)
theorem yo34 {y : LY} (hY : Lay y) : IsO y 34 5 := hY.o (by decide +kernel)
theorem yo35 {y : LY} (hY : Lay y) : IsO y 35 5 := hY.o (by decide +kernel)
theorem yo36 {y : LY} (hY : Lay y) : IsO y 36 5 := hY.o (by decide +kernel)
theorem yo37 {y : LY} (hY : Lay y) : IsO y 37 5 := hY.o (by decide +kernel)
theorem yo38 {y : LY} (hY : Lay y) : IsO y 38 5 := hY.o (by decide +kernel)
theorem yo39 {y : LY} (hY : Lay y) : IsO y 39 5 := hY.o (by decide +kernel)
theorem yo40 {y : LY} (hY : Lay y) : IsO y 40 0 := hY.o (by decide +kernel)
theorem ya41 {y : LY} (hY : Lay y) : IsA y 41 3 6 := hY.a (by decide +kernel)
theorem ya42 {y : LY} (hY : Lay y) : IsA y 42 4 6 := hY.a (by decide +kernel)
theorem ya43 {y : LY} (hY : Lay y) : IsA y 43 5 12 := hY.a (by decide +kernel)
theorem yo44 {y : LY} (hY : Lay y) : IsO y 44 1 := hY.o (by decide +kernel)
theorem yo45 {y : LY} (hY : Lay y) : IsO y 45 1 := hY.o (by decide +kernel)
theorem yo46 {y : LY} (hY : Lay y) : IsO y 46 1 := hY.o (by decide +kernel)
theorem yo47 {y : LY} (hY : Lay y) : IsO y 47 1 := hY.o (by decide +kernel)
theorem yo48 {y : LY} (hY : Lay y) : IsO y 48 1 := hY.o (by decide +kernel)
theorem yo49 {y : LY} (hY : Lay y) : IsO y 49 1 := hY.o (by decide +kernel)
theorem yo50 {y : LY} (hY : Lay y) : IsO y 50 7 := hY.o (by decide +kernel)
theorem yo51 {y : LY} (hY : Lay y) : IsO y 51 7 := hY.o (by decide +kernel)
theorem yo52 {y : LY} (hY : Lay y) : IsO y 52 7 := hY.o (by decide +kernel)
theorem yo53 {y : LY} (hY : Lay y) : IsO y 53 7 := hY.o (by decide +kernel)
theorem yo54 {y : LY} (hY : Lay y) : IsO y 54 7 := hY.o (by decide +kernel)
theorem yo55 {y : LY} (hY : Lay y) : IsO y 55 7 := hY.o (by decide +kernel)
theorem yo56 {y : LY} (hY : Lay y) : IsO y 56 5 := hY.o (by decide +kernel)
theorem yo57 {y : LY} (hY : Lay y) : IsO y 57 5 := hY.o (by decide +kernel)
theorem yo58 {y : LY} (hY : Lay y) : IsO y 58 5 := hY.o (by decide +kernel)
theorem yo59 {y : LY} (hY : Lay y) : IsO y 59 5 := hY.o (by decide +kernel)
theorem yo60 {y : LY} (hY : Lay y) : IsO y 60 5 := hY.o (by decide +kernel)
theorem yo61 {y : LY} (hY : Lay y) : IsO y 61 5 := hY.o (by decide +kernel)
theorem yo62 {y : LY} (hY : Lay y) : IsO y 62 5 := hY.o (by decide +kernel)
theorem yo63 {y : LY} (hY : Lay y) : IsO y 63 5 := hY.o (by decide +kernel)
theorem yo64 {y : LY} (hY : Lay y) : IsO y 64 5 := hY.o (by decide +kernel)
theorem yo65 {y : LY} (hY : Lay y) : IsO y 65 5 := hY.o (by decide +kernel)
theorem yo66 {y : LY} (hY : Lay y) : IsO y 66 5 := hY.o (by decide +kernel)
theorem yo67 {y : LY} (hY : Lay y) : IsO y 67 5 := hY.o (by decide +kernel)
theorem ya68 {y : LY} (hY : Lay y) : IsA y 68 6 2 := hY.a (by decide +kernel)
theorem ya69 {y : LY} (hY : Lay y) : IsA y 69 2 2 := hY.a (by decide +kernel)
theorem ya70 {y : LY} (hY : Lay y) : IsA y 70 7 4 := hY.a (by decide +kernel)
theorem yo71 {y : LY} (hY : Lay y) : IsO y 71 2 := hY.o (by decide +kernel)
theorem ya72 {y : LY} (hY : Lay y) : IsA y 72 3 6 := hY.a (by decide +kernel)
theorem ya73 {y : LY} (hY : Lay y) : IsA y 73 1 7 := hY.a (by decide +kernel)
theorem ya74 {y : LY} (hY : Lay y) : IsA y 74 1 6 := hY.a (by decide +kernel)
theorem ya75 {y : LY} (hY : Lay y) : IsA y 75 1 6 := hY.a (by decide +kernel)
theorem yo76 {y : LY} (hY : Lay y) : IsO y 76 1 := hY.o (by decide +kernel)
theorem yo77 {y : LY} (hY : Lay y) : IsO y 77 1 := hY.o (by decide +kernel)
theorem yo78 {y : LY} (hY : Lay y) : IsO y 78 1 := hY.o (by decide +kernel)
theorem yo79 {y : LY} (hY : Lay y) : IsO y 79 1 := hY.o (by decide +kernel)
theorem yo80 {y : LY} (hY : Lay y) : IsO y 80 1 := hY.o (by decide +kernel)
theorem yo81 {y : LY} (hY : Lay y) : IsO y 81 1 := hY.o (by decide +kernel)
theorem yo82 {y : LY} (hY : Lay y) : IsO y 82 1 := hY.o (by decide +kernel)
theorem ya83 {y : LY} (hY : Lay y) : IsA y 83 0 6 := hY.a (by decide +kernel)
theorem ya84 {y : LY} (hY : Lay y) : IsA y 84 0 6 := hY.a (by decide +kernel)
theorem ya85 {y : LY} (hY : Lay y) : IsA y 85 0 9 := hY.a (by decide +kernel)
theorem yo86 {y : LY} (hY : Lay y) : IsO y 86 0 := hY.o (by decide +kernel)
theorem ya87 {y : LY} (hY : Lay y) : IsA y 87 3 6 := hY.a (by decide +kernel)
theorem ya88 {y : LY} (hY : Lay y) : IsA y 88 4 6 := hY.a (by decide +kernel)
theorem ya89 {y : LY} (hY : Lay y) : IsA y 89 5 12 := hY.a (by decide +kernel)
theorem yo90 {y : LY} (hY : Lay y) : IsO y 90 1 := hY.o (by decide +kernel)
theorem yo91 {y : LY} (hY : Lay y) : IsO y 91 1 := hY.o (by decide +kernel)
theorem yo92 {y : LY} (hY : Lay y) : IsO y 92 1 := hY.o (by decide +kernel)
theorem yo93 {y : LY} (hY : Lay y) : IsO y 93 1 := hY.o (by decide +kernel)
theorem yo94 {y : LY} (hY : Lay y) : IsO y 94 1 := hY.o (by decide +kernel)
theorem yo95 {y : LY} (hY : Lay y) : IsO y 95 1 := hY.o (by decide +kernel)
theorem yo96 {y : LY} (hY : Lay y) : IsO y 96 7 := hY.o (by decide +kernel)
theorem yo97 {y : LY} (hY : Lay y) : IsO y 97 7 := hY.o (by decide +kernel)
theorem yo98 {y : LY} (hY : Lay y) : IsO y 98 7 := hY.o (by decide +kernel)
theorem yo99 {y : LY} (hY : Lay y) : IsO y 99 7 := hY.o (by decide +kernel)
theorem yo100 {y : LY} (hY : Lay y) : IsO y 100 7 := hY.o (by decide +kernel)
theorem yo101 {y : LY} (hY : Lay y) : IsO y 101 7 := hY.o (by decide +kernel)
theorem yo102 {y : LY} (hY : Lay y) : IsO y 102 5 := hY.o (by decide +kernel)
theorem yo103 {y : LY} (hY : Lay y) : IsO y 103 5 := hY.o (by decide +kernel)
theorem yo104 {y : LY} (hY : Lay y) : IsO y 104 5 := hY.o (by decide +kernel)
theorem yo105 {y : LY} (hY : Lay y) : IsO y 105 5 := hY.o (by decide +kernel)
theorem yo106 {y : LY} (hY : Lay y) : IsO y 106 5 := hY.o (by decide +kernel)
theorem yo107 {y : LY} (hY : Lay y) : IsO y 107 5 := hY.o (by decide +kernel)
theorem yo108 {y : LY} (hY : Lay y) : IsO y 108 5 := hY.o (by decide +kernel)
theorem yo109 {y : LY} (hY : Lay y) : IsO y 109 5 := hY.o (by decide +kernel)
theorem yo110 {y : LY} (hY : Lay y) : IsO y 110 5 := hY.o (by decide +kernel)
theorem yo111 {y : LY} (hY : Lay y) : IsO y 111 5 := hY.o (by decide +kernel)
theorem yo112 {y : LY} (hY : Lay y) : IsO y 112 5 := hY.o (by decide +kernel)
theorem yo113 {y : LY} (hY : Lay y) : IsO y 113 5 := hY.o (by decide +kernel)
theorem yo114 {y : LY} (hY : Lay y) : IsO y 114 0 := hY.o (by decide +kernel)
theorem ya115 {y : LY} (hY : Lay y) : IsA y 115 3 6 := hY.a (by decide +kernel)
theorem ya116 {y : LY} (hY : Lay y) : IsA y 116 4 6 := hY.a (by decide +kernel)
theorem ya117 {y : LY} (hY : Lay y) : IsA y 117 5 12 := hY.a (by decide +kernel)
theorem yo118 {y : LY} (hY : Lay y) : IsO y 118 1 := hY.o (by decide +kernel)
theorem yo119 {y : LY} (hY : Lay y) : IsO y 119 1 := hY.o (by decide +kernel)
theorem yo120 {y : LY} (hY : Lay y) : IsO y 120 1 := hY.o (by decide +kernel)
theorem yo121 {y : LY} (hY : Lay y) : IsO y 121 1 := hY.o (by decide +kernel)
theorem yo122 {y : LY} (hY : Lay y) : IsO y 122 1 := hY.o (by decide +kernel)
theorem yo123 {y : LY} (hY : Lay y) : IsO y 123 1 := hY.o (by decide +kernel)
theorem yo124 {y : LY} (hY : Lay y) : IsO y 124 7 := hY.o (by decide +kernel)
theorem yo125 {y : LY} (hY : Lay y) : IsO y 125 7 := hY.o (by decide +kernel)
theorem yo126 {y : LY} (hY : Lay y) : IsO y 126 7 := hY.o (by decide +kernel)
theorem yo127 {y : LY} (hY : Lay y) : IsO y 127 7 := hY.o (by decide +kernel)
theorem yo128 {y : LY} (hY : Lay y) : IsO y 128 7 := hY.o (by decide +kernel)
theorem yo129 {y : LY} (hY : Lay y) : IsO y 129 7 := hY.o (by decide +kernel)
theorem yo130 {y : LY} (hY : Lay y) : IsO y 130 5 := hY.o (by decide +kernel)
theorem yo131 {y : LY} (hY : Lay y) : IsO y 131 5 := hY.o (by decide +kernel)
theorem yo132 {y : LY} (hY : Lay y) : IsO y 132 5 := hY.o (by decide +kernel)
theorem yo133 {y : LY} (hY : Lay y) : IsO y 133 5 := hY.o (by decide +kernel)
theorem yo134 {y : LY} (hY : Lay y) : IsO y 134 5 := hY.o (by decide +kernel)
theorem yo135 {y : LY} (hY : Lay y) : IsO y 135 5 := hY.o (by decide +kernel)
theorem yo136 {y : LY} (hY : Lay y) : IsO y 136 5 := hY.o (by decide +kernel)
theorem yo137 {y : LY} (hY : Lay y) : IsO y 137 5 := hY.o (by decide +kernel)
theorem yo138 {y : LY} (hY : Lay y) : IsO y 138 5 := hY.o (by decide +kernel)
theorem yo139 {y : LY} (hY : Lay y) : IsO y 139 5 := hY.o (by decide +kernel)
theorem yo140 {y : LY} (hY : Lay y) : IsO y 140 5 := hY.o (by decide +kernel)
theorem yo141 {y : LY} (hY : Lay y) : IsO y 141 5 := hY.o (by decide +kernel)
theorem yo142 {y : LY} (hY : Lay y) : IsO y 142 4 := hY.o (by decide +kernel)
theorem ya143 {y : LY} (hY : Lay y) : IsA y 143 0 40 := hY.a (by decide +kernel)
theorem yo144 {y : LY} (hY : Lay y) : IsO y 144 4 := hY.o (by decide +kernel)
theorem ya145 {y : LY} (hY : Lay y) : IsA y 145 0 40 := hY.a (by decide +kernel)
theorem yo146 {y : LY} (hY : Lay y) : IsO y 146 4 := hY.o (by decide +kernel)
theorem ya147 {y : LY} (hY : Lay y) : IsA y 147 0 40 := hY.a (by decide +kernel)
theorem yo148 {y : LY} (hY : Lay y) : IsO y 148 4 := hY.o (by decide +kernel)
theorem ya149 {y : LY} (hY : Lay y) : IsA y 149 0 40 := hY.a (by decide +kernel)
theorem yo150 {y : LY} (hY : Lay y) : IsO y 150 9 := hY.o (by decide +kernel)
theorem ya151 {y : LY} (hY : Lay y) : IsA y 151 0 324 := hY.a (by decide +kernel)
theorem ya152 {y : LY} (hY : Lay y) : IsA y 152 2 2 := hY.a (by decide +kernel)
theorem ya153 {y : LY} (hY : Lay y) : IsA y 153 0 108 := hY.a (by decide +kernel)
theorem ya154 {y : LY} (hY : Lay y) : IsA y 154 0 400 := hY.a (by decide +kernel)
theorem ya155 {y : LY} (hY : Lay y) : IsA y 155 1 46656 := hY.a (by decide +kernel)
theorem ya156 {y : LY} (hY : Lay y) : IsA y 156 1 46656 := hY.a (by decide +kernel)
theorem ya157 {y : LY} (hY : Lay y) : IsA y 157 0 12 := hY.a (by decide +kernel)
theorem ya158 {y : LY} (hY : Lay y) : IsA y 158 0 4 := hY.a (by decide +kernel)
theorem ya159 {y : LY} (hY : Lay y) : IsA y 159 0 4 := hY.a (by decide +kernel)
theorem ya160 {y : LY} (hY : Lay y) : IsA y 160 0 160 := hY.a (by decide +kernel)
theorem yr9_0 {y : LY} (hY : Lay y) : y.R 9 0 = some 10 := hY.r (by decide +kernel)
theorem yr9_1 {y : LY} (hY : Lay y) : y.R 9 1 = some 12 := hY.r (by decide +kernel)
theorem yr9_2 {y : LY} (hY : Lay y) : y.R 9 2 = some 40 := hY.r (by decide +kernel)
theorem yr9_3 {y : LY} (hY : Lay y) : y.R 9 3 = some 68 := hY.r (by decide +kernel)
theorem yr9_4 {y : LY} (hY : Lay y) : y.R 9 4 = some 69 := hY.r (by decide +kernel)
theorem yr9_5 {y : LY} (hY : Lay y) : y.R 9 5 = some 70 := hY.r (by decide +kernel)
theorem yr9_6 {y : LY} (hY : Lay y) : y.R 9 6 = some 71 := hY.r (by decide +kernel)
theorem yr9_7 {y : LY} (hY : Lay y) : y.R 9 7 = some 82 := hY.r (by decide +kernel)
theorem yr9_8 {y : LY} (hY : Lay y) : y.R 9 8 = some 83 := hY.r (by decide +kernel)
theorem yr9_9 {y : LY} (hY : Lay y) : y.R 9 9 = some 84 := hY.r (by decide +kernel)
theorem yr9_10 {y : LY} (hY : Lay y) : y.R 9 10 = some 85 := hY.r (by decide +kernel)
theorem yr10_0 {y : LY} (hY : Lay y) : y.R 10 0 = some 11 := hY.r (by decide +kernel)
theorem yr71_0 {y : LY} (hY : Lay y) : y.R 71 0 = some 72 := hY.r (by decide +kernel)
theorem yr71_1 {y : LY} (hY : Lay y) : y.R 71 1 = some 73 := hY.r (by decide +kernel)
theorem yr71_2 {y : LY} (hY : Lay y) : y.R 71 2 = some 74 := hY.r (by decide +kernel)
theorem yr71_3 {y : LY} (hY : Lay y) : y.R 71 3 = some 75 := hY.r (by decide +kernel)
theorem yr150_0 {y : LY} (hY : Lay y) : y.R 150 0 = some 151 := hY.r (by decide +kernel)
theorem yr150_1 {y : LY} (hY : Lay y) : y.R 150 1 = some 152 := hY.r (by decide +kernel)
theorem yr150_3 {y : LY} (hY : Lay y) : y.R 150 3 = some 153 := hY.r (by decide +kernel)
theorem yr150_8 {y : LY} (hY : Lay y) : y.R 150 8 = some 154 := hY.r (by decide +kernel)
theorem yr150_16 {y : LY} (hY : Lay y) : y.R 150 16 = some 155 := hY.r (by decide +kernel)
theorem yr150_17 {y : LY} (hY : Lay y) : y.R 150 17 = some 156 := hY.r (by decide +kernel)
theorem yr150_22 {y : LY} (hY : Lay y) : y.R 150 22 = some 157 := hY.r (by decide +kernel)
theorem yr150_23 {y : LY} (hY : Lay y) : y.R 150 23 = some 158 := hY.r (by decide +kernel)
theorem yr150_24 {y : LY} (hY : Lay y) : y.R 150 24 = some 159 := hY.r (by decide +kernel)
theorem yr150_25 {y : LY} (hY : Lay y) : y.R 150 25 = some 160 := hY.r (by decide +kernel)
/-- the four clocks -/
def Clk (c : Nat) : Prop := c = 12 ∨ c = 40 ∨ c = 86 ∨ c = 114
theorem clk12 : Clk 12 := Or.inl rfl
theorem clk40 : Clk 40 := Or.inr (Or.inl rfl)
theorem ck_o {y : LY} (hY : Lay y) {c : Nat} (hc : Clk c) : IsO y c 0 := by rcases hc with rfl | rfl | rfl | rfl <;> exact hY.o (by decide +kernel)
theorem ck_r0 {y : LY} (hY : Lay y) {c : Nat} (hc : Clk c) : y.R c 0 = some (c + 1) := by rcases hc with rfl | rfl | rfl | rfl <;> exact hY.r (by decide +kernel)
theorem ck_r1 {y : LY} (hY : Lay y) {c : Nat} (hc : Clk c) : y.R c 1 = some (c + 2) := by rcases hc with rfl | rfl | rfl | rfl <;> exact hY.r (by decide +kernel)
theorem ck_r2 {y : LY} (hY : Lay y) {c : Nat} (hc : Clk c) : y.R c 2 = some (c + 3) := by rcases hc with rfl | rfl | rfl | rfl <;> exact hY.r (by decide +kernel)
theorem ck_a0 {y : LY} (hY : Lay y) {c : Nat} (hc : Clk c) : IsA y (c + 1) 3 6 := by rcases hc with rfl | rfl | rfl | rfl <;> exact hY.a (by decide +kernel)
theorem ck_a1 {y : LY} (hY : Lay y) {c : Nat} (hc : Clk c) : IsA y (c + 2) 4 6 := by rcases hc with rfl | rfl | rfl | rfl <;> exact hY.a (by decide +kernel)
theorem ck_a2 {y : LY} (hY : Lay y) {c : Nat} (hc : Clk c) : IsA y (c + 3) 5 12 := by rcases hc with rfl | rfl | rfl | rfl <;> exact hY.a (by decide +kernel)
theorem lt_all {n : Nat} {P : Nat → Prop} (h : ∀ k, k < n → P k) {i : Int} (hi : 0 ≤ i ∧ i < n) : P i.toNat := h _ (by omega)
theorem ck_fdec : ∀ c ∈ [12, 40, 86, 114], ∀ k, k < 6 → (9 ≤ c + 4 + k ∧ c + 4 + k < 161 ∧ LK (c + 4 + k) = .inl 1) ∧ (9 ≤ c + 1 ∧ c + 1 < 161 ∧ LR (c + 1) k = some (c + 4 + k)) := by decide +kernel
theorem ck_fo {y : LY} (hY : Lay y) {c : Nat} (hc : Clk c) {i : Int} (hi : 0 ≤ i ∧ i < 6) : IsO y (c + 4 + i.toNat) 1 := hY.o (ck_fdec c (by rcases hc with rfl | rfl | rfl | rfl <;> decide) _ (by omega)).1
theorem ck_fr {y : LY} (hY : Lay y) {c : Nat} (hc : Clk c) {i : Int} (hi : 0 ≤ i ∧ i < 6) : y.R (c + 1) i.toNat = some (c + 4 + i.toNat) := hY.r (ck_fdec c (by rcases hc with rfl | rfl | rfl | rfl <;> decide) _ (by omega)).2
theorem ck_vdec : ∀ c ∈ [12, 40, 86, 114], ∀ k, k < 6 → (9 ≤ c + 10 + k ∧ c + 10 + k < 161 ∧ LK (c + 10 + k) = .inl 7) ∧ (9 ≤ c + 2 ∧ c + 2 < 161 ∧ LR (c + 2) k = some (c + 10 + k)) := by decide +kernel
theorem ck_vo {y : LY} (hY : Lay y) {c : Nat} (hc : Clk c) {i : Int} (hi : 0 ≤ i ∧ i < 6) : IsO y (c + 10 + i.toNat) 7 := hY.o (ck_vdec c (by rcases hc with rfl | rfl | rfl | rfl <;> decide) _ (by omega)).1
theorem ck_vr {y : LY} (hY : Lay y) {c : Nat} (hc : Clk c) {i : Int} (hi : 0 ≤ i ∧ i < 6) : y.R (c + 2) i.toNat = some (c + 10 + i.toNat) := hY.r (ck_vdec c (by rcases hc with rfl | rfl | rfl | rfl <;> decide) _ (by omega)).2
theorem ck_sdec : ∀ c ∈ [12, 40, 86, 114], ∀ k, k < 12 → (9 ≤ c + 16 + k ∧ c + 16 + k < 161 ∧ LK (c + 16 + k) = .inl 5) ∧ (9 ≤ c + 3 ∧ c + 3 < 161 ∧ LR (c + 3) k = some (c + 16 + k)) := by decide +kernel
theorem ck_so {y : LY} (hY : Lay y) {c : Nat} (hc : Clk c) {i : Int} (hi : 0 ≤ i ∧ i < 12) : IsO y (c + 16 + i.toNat) 5 := hY.o (ck_sdec c (by rcases hc with rfl | rfl | rfl | rfl <;> decide) _ (by omega)).1
theorem ck_sr {y : LY} (hY : Lay y) {c : Nat} (hc : Clk c) {i : Int} (hi : 0 ≤ i ∧ i < 12) : y.R (c + 3) i.toNat = some (c + 16 + i.toNat) := hY.r (ck_sdec c (by rcases hc with rfl | rfl | rfl | rfl <;> decide) _ (by omega)).2
theorem sh_dec : ∀ k, k < 4 → (9 ≤ 142 + 2 * k ∧ 142 + 2 * k < 161 ∧ LK (142 + 2 * k) = .inl 4) ∧ (LR 70 k = some (142 + 2 * k)) ∧ (LR (142 + 2 * k) 0 = some (143 + 2 * k)) ∧ (143 + 2 * k < 161 ∧ LK (143 + 2 * k) = .inr (0, 40)) := by decide +kernel
theorem sh_o {y : LY} (hY : Lay y) {i : Int} (hi : 0 ≤ i ∧ i < 4) : IsO y (142 + 2 * i.toNat) 4 := hY.o (sh_dec _ (by omega)).1
theorem sh_r {y : LY} (hY : Lay y) {i : Int} (hi : 0 ≤ i ∧ i < 4) : y.R 70 i.toNat = some (142 + 2 * i.toNat) := hY.r ⟨by decide, by decide, (sh_dec _ (by omega)).2.1⟩
theorem sh_rr {y : LY} (hY : Lay y) {i : Int} (hi : 0 ≤ i ∧ i < 4) : y.R (142 + 2 * i.toNat) 0 = some (143 + 2 * i.toNat) := hY.r ⟨by omega, by omega, (sh_dec _ (by omega)).2.2.1⟩
theorem sh_a {y : LY} (hY : Lay y) {i : Int} (hi : 0 ≤ i ∧ i < 4) : IsA y (143 + 2 * i.toNat) 0 40 := hY.a ⟨by omega, (sh_dec i.toNat (by omega)).2.2.2.1, (sh_dec _ (by omega)).2.2.2.2⟩
theorem fd_dec : ∀ k, k < 6 → (9 ≤ 76 + k ∧ 76 + k < 161 ∧ LK (76 + k) = .inl 1) ∧ LR 72 k = some (76 + k) := by decide +kernel
theorem fd_o {y : LY} (hY : Lay y) {i : Int} (hi : 0 ≤ i ∧ i < 6) : IsO y (76 + i.toNat) 1 := hY.o (fd_dec _ (by omega)).1
theorem fd_r {y : LY} (hY : Lay y) {i : Int} (hi : 0 ≤ i ∧ i < 6) : y.R 72 i.toNat = some (76 + i.toNat) := hY.r ⟨by decide, by decide, (fd_dec _ (by omega)).2⟩
theorem im_dec : ∀ k, k < 2 → LR 68 k = some (86 + 28 * k) ∧ Clk (86 + 28 * k) := by
  intro k hk
  match k, hk with
  | 0, _ => exact ⟨by decide +kernel, Or.inr (Or.inr (Or.inl rfl))⟩
  | 1, _ => exact ⟨by decide +kernel, Or.inr (Or.inr (Or.inr rfl))⟩
theorem im_r {y : LY} (hY : Lay y) {i : Int} (hi : 0 ≤ i ∧ i < 2) : y.R 68 i.toNat = some (86 + 28 * i.toNat) := hY.r ⟨by decide, by decide, (im_dec _ (by omega)).1⟩
theorem im_c {i : Int} (hi : 0 ≤ i ∧ i < 2) : Clk (86 + 28 * i.toNat) := (im_dec _ (by omega)).2
section Drop
variable {G : GX} {M : MI} {R : Room} {Z : ZT} {y : LY} {pc : Nat} {st : List Value} {h : HM} {cs : Nat × Nat}
theorem g_sub {ls ls1 : List (Option Value)} (hs : ∀ (i : Nat) (v : Value), ls1[i]? = some (some v) → ls[i]? = some (some v)) (k : Go G M R Z y pc ls1 st h cs) : Go G M R Z y pc ls st h cs := by
  intro p e s m args below meth c H locs la C hh hS hl
  exact k p e s m args below meth c H locs la C hh hS ⟨hl.1, hl.2.1, fun i v hv => hl.2.2 i v (hs i v hv)⟩
theorem dr_aux {x : Option Value} {r : List (Option Value)} : ∀ (l : List (Option Value)) (i : Nat) (v : Value), (l ++ none :: r)[i]? = some (some v) → (l ++ x :: r)[i]? = some (some v) := by
  intro l
  induction l with
  | nil => intro i v hv; cases i with
    | zero => simp at hv
    | succ i => simpa using hv
  | cons a l ih => intro i v hv; cases i with
    | zero => simpa using hv
    | succ i => simp at hv ⊢; exact ih i v hv
theorem g_dr0 {x0 : Option Value} {r : List (Option Value)} (k : Go G M R Z y pc (none :: r) st h cs) : Go G M R Z y pc (x0 :: r) st h cs := g_sub (fun j v hv => dr_aux [] j v hv) k
theorem g_dr1 {x0 x1 : Option Value} {r : List (Option Value)} (k : Go G M R Z y pc (x0 :: none :: r) st h cs) : Go G M R Z y pc (x0 :: x1 :: r) st h cs := g_sub (fun j v hv => dr_aux [x0] j v hv) k
theorem g_dr2 {x0 x1 x2 : Option Value} {r : List (Option Value)} (k : Go G M R Z y pc (x0 :: x1 :: none :: r) st h cs) : Go G M R Z y pc (x0 :: x1 :: x2 :: r) st h cs := g_sub (fun j v hv => dr_aux [x0, x1] j v hv) k
theorem g_dr3 {x0 x1 x2 x3 : Option Value} {r : List (Option Value)} (k : Go G M R Z y pc (x0 :: x1 :: x2 :: none :: r) st h cs) : Go G M R Z y pc (x0 :: x1 :: x2 :: x3 :: r) st h cs := g_sub (fun j v hv => dr_aux [x0, x1, x2] j v hv) k
theorem g_dr4 {x0 x1 x2 x3 x4 : Option Value} {r : List (Option Value)} (k : Go G M R Z y pc (x0 :: x1 :: x2 :: x3 :: none :: r) st h cs) : Go G M R Z y pc (x0 :: x1 :: x2 :: x3 :: x4 :: r) st h cs := g_sub (fun j v hv => dr_aux [x0, x1, x2, x3] j v hv) k
theorem g_dr5 {x0 x1 x2 x3 x4 x5 : Option Value} {r : List (Option Value)} (k : Go G M R Z y pc (x0 :: x1 :: x2 :: x3 :: x4 :: none :: r) st h cs) : Go G M R Z y pc (x0 :: x1 :: x2 :: x3 :: x4 :: x5 :: r) st h cs := g_sub (fun j v hv => dr_aux [x0, x1, x2, x3, x4] j v hv) k
theorem g_dr6 {x0 x1 x2 x3 x4 x5 x6 : Option Value} {r : List (Option Value)} (k : Go G M R Z y pc (x0 :: x1 :: x2 :: x3 :: x4 :: x5 :: none :: r) st h cs) : Go G M R Z y pc (x0 :: x1 :: x2 :: x3 :: x4 :: x5 :: x6 :: r) st h cs := g_sub (fun j v hv => dr_aux [x0, x1, x2, x3, x4, x5] j v hv) k
theorem g_dr7 {x0 x1 x2 x3 x4 x5 x6 x7 : Option Value} {r : List (Option Value)} (k : Go G M R Z y pc (x0 :: x1 :: x2 :: x3 :: x4 :: x5 :: x6 :: none :: r) st h cs) : Go G M R Z y pc (x0 :: x1 :: x2 :: x3 :: x4 :: x5 :: x6 :: x7 :: r) st h cs := g_sub (fun j v hv => dr_aux [x0, x1, x2, x3, x4, x5, x6] j v hv) k
theorem g_dr8 {x0 x1 x2 x3 x4 x5 x6 x7 x8 : Option Value} {r : List (Option Value)} (k : Go G M R Z y pc (x0 :: x1 :: x2 :: x3 :: x4 :: x5 :: x6 :: x7 :: none :: r) st h cs) : Go G M R Z y pc (x0 :: x1 :: x2 :: x3 :: x4 :: x5 :: x6 :: x7 :: x8 :: r) st h cs := g_sub (fun j v hv => dr_aux [x0, x1, x2, x3, x4, x5, x6, x7] j v hv) k
theorem g_dr9 {x0 x1 x2 x3 x4 x5 x6 x7 x8 x9 : Option Value} {r : List (Option Value)} (k : Go G M R Z y pc (x0 :: x1 :: x2 :: x3 :: x4 :: x5 :: x6 :: x7 :: x8 :: none :: r) st h cs) : Go G M R Z y pc (x0 :: x1 :: x2 :: x3 :: x4 :: x5 :: x6 :: x7 :: x8 :: x9 :: r) st h cs := g_sub (fun j v hv => dr_aux [x0, x1, x2, x3, x4, x5, x6, x7, x8] j v hv) k
theorem g_dr10 {x0 x1 x2 x3 x4 x5 x6 x7 x8 x9 x10 : Option Value} {r : List (Option Value)} (k : Go G M R Z y pc (x0 :: x1 :: x2 :: x3 :: x4 :: x5 :: x6 :: x7 :: x8 :: x9 :: none :: r) st h cs) : Go G M R Z y pc (x0 :: x1 :: x2 :: x3 :: x4 :: x5 :: x6 :: x7 :: x8 :: x9 :: x10 :: r) st h cs := g_sub (fun j v hv => dr_aux [x0, x1, x2, x3, x4, x5, x6, x7, x8, x9] j v hv) k
theorem g_dr11 {x0 x1 x2 x3 x4 x5 x6 x7 x8 x9 x10 x11 : Option Value} {r : List (Option Value)} (k : Go G M R Z y pc (x0 :: x1 :: x2 :: x3 :: x4 :: x5 :: x6 :: x7 :: x8 :: x9 :: x10 :: none :: r) st h cs) : Go G M R Z y pc (x0 :: x1 :: x2 :: x3 :: x4 :: x5 :: x6 :: x7 :: x8 :: x9 :: x10 :: x11 :: r) st h cs := g_sub (fun j v hv => dr_aux [x0, x1, x2, x3, x4, x5, x6, x7, x8, x9, x10] j v hv) k
theorem g_dr12 {x0 x1 x2 x3 x4 x5 x6 x7 x8 x9 x10 x11 x12 : Option Value} {r : List (Option Value)} (k : Go G M R Z y pc (x0 :: x1 :: x2 :: x3 :: x4 :: x5 :: x6 :: x7 :: x8 :: x9 :: x10 :: x11 :: none :: r) st h cs) : Go G M R Z y pc (x0 :: x1 :: x2 :: x3 :: x4 :: x5 :: x6 :: x7 :: x8 :: x9 :: x10 :: x11 :: x12 :: r) st h cs := g_sub (fun j v hv => dr_aux [x0, x1, x2, x3, x4, x5, x6, x7, x8, x9, x10, x11] j v hv) k
theorem g_dr13 {x0 x1 x2 x3 x4 x5 x6 x7 x8 x9 x10 x11 x12 x13 : Option Value} {r : List (Option Value)} (k : Go G M R Z y pc (x0 :: x1 :: x2 :: x3 :: x4 :: x5 :: x6 :: x7 :: x8 :: x9 :: x10 :: x11 :: x12 :: none :: r) st h cs) : Go G M R Z y pc (x0 :: x1 :: x2 :: x3 :: x4 :: x5 :: x6 :: x7 :: x8 :: x9 :: x10 :: x11 :: x12 :: x13 :: r) st h cs := g_sub (fun j v hv => dr_aux [x0, x1, x2, x3, x4, x5, x6, x7, x8, x9, x10, x11, x12] j v hv) k
theorem g_dr14 {x0 x1 x2 x3 x4 x5 x6 x7 x8 x9 x10 x11 x12 x13 x14 : Option Value} {r : List (Option Value)} (k : Go G M R Z y pc (x0 :: x1 :: x2 :: x3 :: x4 :: x5 :: x6 :: x7 :: x8 :: x9 :: x10 :: x11 :: x12 :: x13 :: none :: r) st h cs) : Go G M R Z y pc (x0 :: x1 :: x2 :: x3 :: x4 :: x5 :: x6 :: x7 :: x8 :: x9 :: x10 :: x11 :: x12 :: x13 :: x14 :: r) st h cs := g_sub (fun j v hv => dr_aux [x0, x1, x2, x3, x4, x5, x6, x7, x8, x9, x10, x11, x12, x13] j v hv) k
theorem g_dr15 {x0 x1 x2 x3 x4 x5 x6 x7 x8 x9 x10 x11 x12 x13 x14 x15 : Option Value} {r : List (Option Value)} (k : Go G M R Z y pc (x0 :: x1 :: x2 :: x3 :: x4 :: x5 :: x6 :: x7 :: x8 :: x9 :: x10 :: x11 :: x12 :: x13 :: x14 :: none :: r) st h cs) : Go G M R Z y pc (x0 :: x1 :: x2 :: x3 :: x4 :: x5 :: x6 :: x7 :: x8 :: x9 :: x10 :: x11 :: x12 :: x13 :: x14 :: x15 :: r) st h cs := g_sub (fun j v hv => dr_aux [x0, x1, x2, x3, x4, x5, x6, x7, x8, x9, x10, x11, x12, x13, x14] j v hv) k
theorem g_dr16 {x0 x1 x2 x3 x4 x5 x6 x7 x8 x9 x10 x11 x12 x13 x14 x15 x16 : Option Value} {r : List (Option Value)} (k : Go G M R Z y pc (x0 :: x1 :: x2 :: x3 :: x4 :: x5 :: x6 :: x7 :: x8 :: x9 :: x10 :: x11 :: x12 :: x13 :: x14 :: x15 :: none :: r) st h cs) : Go G M R Z y pc (x0 :: x1 :: x2 :: x3 :: x4 :: x5 :: x6 :: x7 :: x8 :: x9 :: x10 :: x11 :: x12 :: x13 :: x14 :: x15 :: x16 :: r) st h cs := g_sub (fun j v hv => dr_aux [x0, x1, x2, x3, x4, x5, x6, x7, x8, x9, x10, x11, x12, x13, x14, x15] j v hv) k
end Drop
