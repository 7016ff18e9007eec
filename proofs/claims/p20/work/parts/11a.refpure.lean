/-! WHAT THE REFERENCE'S METHODS DO, over the tables -/
theorem zin_lt {i : Int32} {n : Nat} (hn : n ≤ 4000) : zin i 0 (nI n - 1) ↔ zlt i n := by
  have h0 : (0 : Int32).toInt = 0 := by decide
  unfold zin zlt
  rw [Int32.le_iff_toInt_le, Int32.le_iff_toInt_le, h0]
  have h1 : (nI n - 1).toInt = (n : Int) - 1 := by
    cases n with
    | zero => decide
    | succ m => rw [nI_pred, nI_toInt (by omega)]; omega
  rw [h1]
  omega
def zRsp (I : zIt) (i : Int32) : Nat := (I 136 i.toNatClampNeg).toNatClampNeg
def zRn (I : zIt) : Nat := (I 128 11).toNatClampNeg
/-- the place of a fault's code among all -/
def zPl (I : zIt) (x : Int32) : Option Nat := zfst (fun j => decide (I 140 j = x)) (zRn I)
/-- a cable has no fault -/
def zDw (I : zIt) (x : Int32) : Prop := zfst (fun j => decide (I 140 j / 8 = x)) (zRn I) = none
theorem zDw_dec (I : zIt) (x : Int32) : zDw I x ∨ ¬ zDw I x := by
  unfold zDw
  cases zfst (fun j => decide (I 140 j / 8 = x)) (zRn I) with
  | none => exact Or.inl rfl
  | some k => exact Or.inr (fun h => by cases h)
abbrev zDwb (I : zIt) (x : Int32) : Bool := (zfst (fun j => decide (I 140 j / 8 = x)) (zRn I)).isNone
def zsz (x : Int32) : Int32 := if 0 ≤ x then x else -x
abbrev zThere (I : zIt) (s : Nat) : Prop := ¬ I 147 s = -1 ∧ ¬ zoi (zPl I (I 147 s)) = -1
def zCome (I : zIt) (s : Nat) : zIt := if zThere I s then zu (zu I 143 s 2) 146 s 6 else zu (zu I 143 s 0) 146 s 0
def zRh (I : zIt) (s : Nat) (a b : Int32) : Int32 := (zsz (a - I 144 s) + zsz (b - I 145 s) + I 142 s - 1) / I 142 s
def zSail (I : zIt) (s : Nat) (a b t : Int32) : zIt :=
  if zRh I s a b = 0 then zCome (zu (zu (zu (zu (zu I 144 s a) 145 s b) 147 s t) 143 s 1) 146 s (zRh I s a b)) s
  else zu (zu (zu (zu (zu I 144 s a) 145 s b) 147 s t) 143 s 1) 146 s (zRh I s a b)
/-- a row without its place k, up to n -/
def zShf (f : Nat → Int32) (a n : Nat) : Nat → Int32 := fun j => if a ≤ j ∧ j < n then f (j + 1) else f j
theorem zShf_0 (f : Nat → Int32) (a : Nat) : zShf f a a = f := by
  funext j
  unfold zShf
  rw [if_neg (by omega)]
theorem zShf_s (f : Nat → Int32) (a n : Nat) (h : a ≤ n) : zs (zShf f a n) n (f (n + 1)) = zShf f a (n + 1) := by
  funext j
  by_cases hj : j = n
  · subst hj
    rw [zs_self]
    unfold zShf
    rw [if_pos (by omega)]
  · rw [zs_ne _ _ hj]
    unfold zShf
    by_cases h2 : a ≤ j ∧ j < n
    · rw [if_pos h2, if_pos (by omega)]
    · rw [if_neg h2, if_neg (by omega)]
theorem zShf_at (f : Nat → Int32) (a n : Nat) : zShf f a n (n + 1) = f (n + 1) := by
  unfold zShf
  rw [if_neg (by omega)]
def zRmend (I : zIt) (s : Nat) : zIt := match zPl I (I 147 s) with
  | none => zu I 143 s 0
  | some k => zu (zu (zs (zu I 128 11 (nI (zRn I - 1))) 140 (zShf (I 140) k (zRn I - 1))) 148 s (I 148 s + 1)) 143 s 0
def zRgo (I : zIt) (s : Nat) : zIt :=
  if 0 < I 146 s - 1 then zu I 146 s (I 146 s - 1)
  else if I 143 s = 1 then zCome (zu I 146 s (I 146 s - 1)) s
  else if I 143 s = 2 then zu (zu (zu I 146 s (I 146 s - 1)) 143 s 3) 146 s 2
  else zRmend (zu I 146 s (I 146 s - 1)) s
def zRcost (I : zIt) (k : Nat) : Int64 := 1000000 * (I 138 k).toInt64 + 100 * (I 137 k).toInt64 + 1
def zAcr (I : zIt) (k : Nat) (i : Int32) : Int32 := if I 134 k = i then I 135 k else I 134 k
abbrev zFAR : Int64 := 1000000000000000
/-- one relaxing, as the reference does it -/
def zRx1 (I : zIt) (g : Nat → Int32) (f : Nat → Int64) (k : Nat) : Nat → Int64 :=
  if g k = 0 then f else
    zs (zs f (I 134 k).toNatClampNeg (if 0 ≤ lg_cmp (f (I 135 k).toNatClampNeg + zRcost I k) (f (I 134 k).toNatClampNeg) then f (I 134 k).toNatClampNeg else f (I 135 k).toNatClampNeg + zRcost I k))
      (I 135 k).toNatClampNeg (if 0 ≤ lg_cmp (f (I 134 k).toNatClampNeg + zRcost I k) (f (I 135 k).toNatClampNeg) then f (I 135 k).toNatClampNeg else f (I 134 k).toNatClampNeg + zRcost I k)
def zRx (I : zIt) (g : Nat → Int32) (f : Nat → Int64) : Nat → Nat → Int64
  | 0 => f
  | k + 1 => zRx1 I g (zRx I g f k) k
def zRxr (I : zIt) (g : Nat → Int32) (nc : Nat) (f : Nat → Int64) : Nat → Nat → Int64
  | 0 => f
  | k + 1 => zRx I g (zRxr I g nc f k) nc
def zF0 (f : Nat → Int64) (x : Int32) (n : Nat) : Nat → Int64 := fun j => if j < n then (if nI j = x then 0 else zFAR) else f j
theorem zF0_0 (f : Nat → Int64) (x : Int32) : zF0 f x 0 = f := by
  funext j
  simp [zF0]
theorem zF0_s (f : Nat → Int64) (x : Int32) (n : Nat) : zs (zF0 f x n) n (if nI n = x then 0 else zFAR) = zF0 f x (n + 1) := by
  funext j
  by_cases hj : j = n
  · subst hj
    rw [zs_self]
    unfold zF0
    rw [if_pos (show j < j + 1 by omega)]
  · rw [zs_ne _ _ hj]
    unfold zF0
    by_cases h2 : j < n
    · rw [if_pos h2, if_pos (show j < n + 1 by omega)]
    · rw [if_neg h2, if_neg (show ¬ j < n + 1 by omega)]
def zG0 (I : zIt) (n : Nat) : Nat → Int32 := fun j => if j < n then zb (zDwb I (nI j) = true) else I 158 j
theorem zG0_0 (I : zIt) : zG0 I 0 = I 158 := by
  funext j
  simp [zG0]
theorem zG0_s (I : zIt) (n : Nat) : zs (zG0 I n) n (zb (zDwb I (nI n) = true)) = zG0 I (n + 1) := by
  funext j
  by_cases hj : j = n
  · subst hj
    rw [zs_self]
    unfold zG0
    rw [if_pos (by omega)]
  · rw [zs_ne _ _ hj]
    unfold zG0
    by_cases h2 : j < n
    · rw [if_pos h2, if_pos (by omega)]
    · rw [if_neg h2, if_neg (by omega)]
/-- the rows 'goes' and 'far' behind findWays -/
def zGoes (I : zIt) (nc : Nat) : Nat → Int32 := zG0 I nc
def zFar (I : zIt) (f : Nat → Int64) (ni nc : Nat) (x : Int32) : Nat → Int64 := zRxr I (zGoes I nc) nc (zF0 f x ni) ni
/-- the ends of the reference's cables -/
def zRends (I : zIt) (nc : Nat) : Prop := ∀ i, i < nc → (∃ a, a < 10 ∧ I 134 i = nI a) ∧ ∃ b, b < 10 ∧ I 135 i = nI b
def zNxb (I : zIt) (g : Nat → Int32) (f : Nat → Int64) (u i : Nat) : Bool :=
  decide (¬ g i = 0 ∧ (I 134 i = nI u ∨ I 135 i = nI u) ∧ ¬ lg_cmp (f u) 0 ≤ 0 ∧ lg_cmp (f (zAcr I i (nI u)).toNatClampNeg + zRcost I i) (f u) = 0)
def zNx (I : zIt) (g : Nat → Int32) (f : Nat → Int64) (u nc : Nat) : Option Nat := zfst (zNxb I g f u) nc
theorem zRn_eq {I I' : zIt} (h : I' 128 11 = I 128 11) : zRn I' = zRn I := by unfold zRn; rw [h]
theorem zPl_c {I I' : zIt} (h : I' 128 11 = I 128 11) (h2 : I' 140 = I 140) (x : Int32) : zPl I' x = zPl I x := by unfold zPl; rw [zRn_eq h, h2]
theorem zDwb_c {I I' : zIt} (h : I' 128 11 = I 128 11) (h2 : I' 140 = I 140) (x : Int32) : zDwb I' x = zDwb I x := by unfold zDwb; rw [zRn_eq h, h2]
theorem zRcost_c {I I' : zIt} (h : I' 138 = I 138) (h2 : I' 137 = I 137) (k : Nat) : zRcost I' k = zRcost I k := by unfold zRcost; rw [h, h2]
theorem zDwb_t {I : zIt} {x : Int32} (h : ∀ j, j < zRn I → (fun j => decide (I 140 j / 8 = x)) j = false) : zDwb I x = true := by unfold zDwb; rw [zfst_none h]; rfl
theorem zDwb_f {I : zIt} {x : Int32} {j : Nat} (h : j < zRn I) (h2 : (fun j => decide (I 140 j / 8 = x)) j = true) : ¬ zDwb I x = true := by
  unfold zDwb
  cases hz : zfst (fun j => decide (I 140 j / 8 = x)) (zRn I) with
  | none =>
    have h3 : true = false := h2.symm.trans (zfst_no hz j h)
    cases h3
  | some k => exact fun h => by cases h
theorem nI_prd {n : Nat} (h : 0 < n) : nI n - 1 = nI (n - 1) := by
  obtain ⟨m, rfl⟩ : ∃ m, n = m + 1 := ⟨n - 1, by omega⟩
  rw [nI_pred, Nat.add_sub_cancel]
