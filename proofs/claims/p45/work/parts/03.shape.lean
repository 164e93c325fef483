/-! the objects behind both constructors: logical numbers, kinds (0 .. 10 an object of vwCl, 20 int[], 22 Deeds[], 23 Glove[], 24 int[][]), lengths, references -/
abbrev Mem : Type := (Nat → Nat → Int32) × (Nat → Nat → Int64)
abbrev Glob : Type := Launch × va_G × (Nat → ClassId) × (Nat → Nat)
abbrev gl (G : Glob) : Launch := G.1
abbrev gD (G : Glob) : va_G := G.2.1
def gc (G : Glob) : Nat → ClassId := G.2.2.1
def ad (G : Glob) : Nat → Nat := G.2.2.2
def nT : Nat := 71
def kdL : List Nat := [10, 9, 24, 20, 9, 24, 20, 7, 20, 20, 20, 20, 3, 23, 2, 20, 22, 2, 2, 2, 20, 20, 20, 6, 20, 20, 20, 20, 0, 3, 23, 2, 20, 20, 20, 20, 5, 4, 20, 8, 20, 20, 1, 20, 20, 20, 20, 20, 20, 20, 20, 20, 20, 20, 20, 4, 4, 4, 4, 4, 4, 4, 4, 4, 4, 4, 4, 4, 4, 4, 4]
def kd (a : Nat) : Nat := kdL.getD a 99
def lnL : List Nat := [0, 0, 6, 6, 0, 4, 4, 0, 8, 8, 8, 8, 0, 8, 0, 40, 3, 0, 0, 0, 40, 40, 40, 0, 64, 256, 256, 256, 0, 0, 8, 0, 40, 64, 3, 3, 0, 0, 6, 0, 6561, 256, 0, 8, 6, 40, 40, 40, 40, 40, 40, 60, 60, 60, 60, 0, 0, 0, 0, 0, 0, 0, 0, 0, 0, 0, 0, 0, 0, 0, 0]
def ln (a : Nat) : Nat := lnL.getD a 0
def fkL : List (List Nat) := [[2, 2, 2, 2, 0, 0, 0], [2, 1, 1], [2, 0], [2, 2, 0, 0], [0, 0, 0, 0, 0, 0], [2, 2], [2, 2, 2, 2], [2, 2, 2, 2, 0, 0], [2, 2], [2, 2, 0, 0], [2, 2, 2, 2, 2, 2, 2, 2, 2, 2, 2, 0, 0]]
def fks (c : Nat) : List Nat := fkL.getD c []
def rfL : List (List Nat) := [[1, 4, 7, 12, 16, 23, 28, 36, 39, 42, 44], [2, 3], [], [], [5, 6], [], [], [8, 9, 10, 11], [], [], [], [], [13, 14], [], [15], [], [], [20], [21], [22], [], [], [], [24, 25, 26, 27], [], [], [], [], [29, 33, 34, 35], [30, 31], [], [32], [], [], [], [], [37, 38], [], [], [40, 41], [], [], [43], [], [], [], [], [], [], [], [], [], [], [], [], [], [], [], [], [], [], [], [], [], [], [], [], [], [], [], []]
def rfB : List Nat := [0, 0, 45, 0, 0, 51, 0, 0, 0, 0, 0, 0, 0, 55, 0, 0, 17, 0, 0, 0, 0, 0, 0, 0, 0, 0, 0, 0, 0, 0, 63, 0, 0, 0, 0, 0, 0, 0, 0, 0, 0, 0, 0, 0, 0, 0, 0, 0, 0, 0, 0, 0, 0, 0, 0, 0, 0, 0, 0, 0, 0, 0, 0, 0, 0, 0, 0, 0, 0, 0, 0]
/-- what a place refers to: an array of references by its first one (they lie in a row), an object by its list -/
def rf (a k : Nat) : Nat := if 22 ≤ kd a then rfB.getD a 0 + k else (rfL.getD a []).getD k 0
