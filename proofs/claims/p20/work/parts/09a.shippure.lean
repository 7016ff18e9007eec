/-! WHAT THE CHART'S INNER METHODS DO, over the tables -/
theorem z_t1 (n : Int) {x k : Int32} (hk : k.toInt = n) (h : ¬ x = k) : ¬ n = x.toInt := fun e => h (Int32.toInt_inj.mp (by rw [hk, e]))
def zNf (I : zIt) : Nat := (I 1 3).toNatClampNeg
abbrev zIts (I : zIt) (κ : Nat) : Prop := ¬ I κ 5 = -1 ∧ zHasF I (32 + (I κ 5).toNatClampNeg) (I κ 6)
def zBeg (I : zIt) (κ : Nat) (a b : Int32) : zIt := zu (zu I κ 3 a) κ 4 b
def zArr (I : zIt) (κ : Nat) : zIt := if zIts I κ then zBeg I κ 2 6 else zBeg I κ 0 0
def zMask (s : Int32) : Int32 := 1 <<< (s &&& 31)
def zRmv (I : zIt) (c : Nat) (s : Int32) : zIt :=
  zu (zu (zs I 6 (zRf (8 * nI c + s) (I 6) (zNf I)).2) 1 3 (nI (zRf (8 * nI c + s) (I 6) (zNf I)).1)) (32 + c) 5 (I (32 + c) 5 &&& ((1 <<< (s &&& 31)) ^^^ (-1)))
def zMend (I : zIt) (κ : Nat) : zIt :=
  if zIts I κ then zBeg (zu (zu (zRmv I (I κ 5).toNatClampNeg (I κ 6)) κ 7 (zRmv I (I κ 5).toNatClampNeg (I κ 6) κ 7 + 1)) 0 7 1) κ 0 0 else zBeg I κ 0 0
def zGo (I : zIt) (κ : Nat) : zIt := if I κ 3 = 1 then zArr I κ else if I κ 3 = 2 then zBeg I κ 3 2 else zMend I κ
def zWork (I : zIt) (κ : Nat) : zIt := if I κ 3 = 0 then I else if I κ 4 - 1 = 0 then zGo (zu I κ 4 (I κ 4 - 1)) κ else zu I κ 4 (I κ 4 - 1)
def zSet (I : zIt) (κ : Nat) (a b : Int32) : zIt :=
  if zHours (I κ 1) (I κ 2) (I κ 0) a b = 0 then zArr (zBeg (zu (zu I κ 1 a) κ 2 b) κ 1 (zHours (I κ 1) (I κ 2) (I κ 0) a b)) κ
  else zBeg (zu (zu I κ 1 a) κ 2 b) κ 1 (zHours (I κ 1) (I κ 2) (I κ 0) a b)
def zAddF (I : zIt) (c : Nat) (s : Int32) : zIt :=
  zu (zu (zu I (32 + c) 5 (I (32 + c) 5 ||| (1 <<< (s &&& 31)))) 6 (zNf I) (8 * nI c + s)) 1 3 (nI (zNf I + 1))
def zSetI (I : zIt) (t : Nat) : zIt :=
  if I (80 + t) 1 = -1 then zu (zu I (64 + t) 9 (I (64 + t) 9 + 1)) (64 + t) 8 (zmin (I (64 + t) 5) (I (64 + t) 8 + I (64 + t) 3))
  else if I (64 + t) 2 < I (80 + t) 3 then zu (zu I (64 + t) 10 (I (64 + t) 10 + 1)) (64 + t) 8 (zmin (I (64 + t) 5) (I (64 + t) 8 + I (64 + t) 4)) else I
def zSetL (I : zIt) (L : zLt) (t : Nat) : zLt := if I (80 + t) 1 = -1 then L else zu L (64 + t) 7 (L (64 + t) 7 + (I (80 + t) 2).toInt64)
theorem zRmv_ne {I : zIt} {c : Nat} {s : Int32} {κ k : Nat} (h1 : κ ≠ 6) (h2 : ¬ (κ = 1 ∧ k = 3)) (h3 : ¬ (κ = 32 + c ∧ k = 5)) : zRmv I c s κ k = I κ k := by
  unfold zRmv
  rw [zu_ne _ _ h3, zu_ne _ _ h2, zs_ne _ _ h1]
