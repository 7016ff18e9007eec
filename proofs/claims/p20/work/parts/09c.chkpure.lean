/-! THE CHECKS -/
abbrev zlt (i : Int32) (n : Nat) : Prop := 0 ≤ i.toInt ∧ i.toInt < (n : Int)
theorem zlt_nat {i : Int32} {n : Nat} (h : zlt i n) : i = nI i.toNatClampNeg ∧ i.toNatClampNeg < n := by
  have hb : i.toInt < 2 ^ 31 := Int32.toInt_lt i
  have hc : i.toNatClampNeg = i.toInt.toNat := rfl
  refine ⟨Int32.toInt_inj.mp ?_, by omega⟩
  rw [nI_toInt (by omega)]
  omega
theorem zlt_nI {k n : Nat} (hk : k < 2 ^ 31) : zlt (nI k) n ↔ k < n := by
  unfold zlt
  rw [nI_toInt hk]
  omega
theorem zlt_neg {i : Int32} {n : Nat} (h : i < 0) : ¬ zlt i n := by
  have h0 : (0 : Int32).toInt = 0 := by decide
  rw [Int32.lt_iff_toInt_lt, h0] at h
  unfold zlt
  omega
theorem zlt_big {i : Int32} {n : Nat} (hn : n < 2 ^ 31) (h : ¬ i < nI n) : ¬ zlt i n := by
  rw [Int32.lt_iff_toInt_lt, nI_toInt hn] at h
  unfold zlt
  omega
theorem zlt_ok {i : Int32} {n : Nat} (hn : n < 2 ^ 31) (h0 : ¬ i < 0) (h : i < nI n) : zlt i n := by
  have h00 : (0 : Int32).toInt = 0 := by decide
  rw [Int32.lt_iff_toInt_lt, h00] at h0
  rw [Int32.lt_iff_toInt_lt, nI_toInt hn] at h
  unfold zlt
  omega
abbrev zin (v a b : Int32) : Prop := a ≤ v ∧ v ≤ b
/-- the first exception of two checks -/
def zsq (a b : Nat) : Nat := if a = 0 then b else a
def zo1 (i : Int32) (n : Nat) : Nat := if zlt i n then 0 else 1
def zo2 (v a b : Int32) : Nat := if zin v a b then 0 else 2
def zoU (i j : Int32) : Nat := if i = j then 2 else 0
def zo3 (x y : Int32) : Nat := if x < y then 0 else 3
theorem zo1_z {i : Int32} {n : Nat} (h : zo1 i n = 0) : zlt i n := by
  unfold zo1 at h
  split at h
  · assumption
  · cases h
theorem zo2_z {v a b : Int32} (h : zo2 v a b = 0) : zin v a b := by
  unfold zo2 at h
  split at h
  · assumption
  · cases h
theorem zoU_z {i j : Int32} (h : zoU i j = 0) : ¬ i = j := by
  unfold zoU at h
  split at h
  · cases h
  · assumption
theorem zo3_z {x y : Int32} (h : zo3 x y = 0) : x < y := by
  unfold zo3 at h
  split at h
  · assumption
  · cases h
/-- a cable's spans as a number -/
def zSpn (I : zIt) (i : Int32) : Nat := (I (32 + i.toNatClampNeg) 2).toNatClampNeg
def zoS (I : zIt) (nc : Nat) (i k : Int32) : Nat := zsq (zo1 i nc) (zo1 k (zSpn I i))
def zoI (I : zIt) (κ : Nat) : Nat := if I κ 3 = 0 then 0 else 3
theorem zoI_z {I : zIt} {κ : Nat} (h : zoI I κ = 0) : I κ 3 = 0 := by
  unfold zoI at h
  split at h
  · assumption
  · cases h
