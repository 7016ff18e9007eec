/-! NUMBERS AND BITS, for the ways -/
theorem lNt {n : Nat} (h : n < 2 ^ 63) : (lN n).toInt = (n : Int) := lg_ofNat_toInt h
theorem lNi {a b : Nat} (ha : a < 2 ^ 63) (hb : b < 2 ^ 63) (h : lN a = lN b) : a = b := by
  have := congrArg Int64.toInt h
  rw [lNt ha, lNt hb] at this
  omega
theorem zcN_lt {a b : Nat} (ha : a < 2 ^ 63) (hb : b < 2 ^ 63) : lg_cmp (lN a) (lN b) < 0 ↔ a < b := by
  rw [lg_cmp_lt, Int64.lt_iff_toInt_lt, lNt ha, lNt hb]; omega
theorem zcN_ge {a b : Nat} (ha : a < 2 ^ 63) (hb : b < 2 ^ 63) : 0 ≤ lg_cmp (lN a) (lN b) ↔ b ≤ a := by
  rw [lg_cmp_ge, Int64.le_iff_toInt_le, lNt ha, lNt hb]; omega
theorem zcN_le {a b : Nat} (ha : a < 2 ^ 63) (hb : b < 2 ^ 63) : lg_cmp (lN a) (lN b) ≤ 0 ↔ a ≤ b := by
  rw [lg_cmp_le, Int64.le_iff_toInt_le, lNt ha, lNt hb]; omega
theorem zcN_eq {a b : Nat} (ha : a < 2 ^ 63) (hb : b < 2 ^ 63) : lg_cmp (lN a) (lN b) = 0 ↔ a = b := by
  rw [lg_cmp_eq]
  exact ⟨fun h => lNi ha hb h, fun h => by rw [h]⟩
theorem zminN {a b : Nat} (ha : a < 2 ^ 63) (hb : b < 2 ^ 63) : zminl (lN a) (lN b) = lN (if b < a then b else a) := by
  unfold zminl
  by_cases h : b < a
  · rw [if_pos h, if_pos (by rw [Int64.lt_iff_toInt_lt, lNt ha, lNt hb]; omega)]
  · rw [if_neg h, if_neg (by rw [Int64.lt_iff_toInt_lt, lNt ha, lNt hb]; omega)]
theorem zshl17 : ∀ i, i < 100 → ∀ j, j < 100 → (nI (100 * i + j)).toInt64 <<< ((17 : Int32).toInt64 &&& 63) = lN (131072 * (100 * i + j)) := by decide +kernel
theorem zshl4 : ∀ i, i < 501 → (nI i).toInt64 <<< ((4 : Int32).toInt64 &&& 63) = lN (16 * i) := by decide +kernel
theorem zCost_N {I : zIt} {κ p d : Nat} (hp : p ≤ 9999) (hd : d ≤ 500) (e4 : I κ 4 = nI p) (e3 : I κ 3 = nI d) : zCost I κ = lN (131072 * p + 16 * d + 1) := by
  unfold zCost
  have h1 := zshl17 (p / 100) (by omega) (p % 100) (by omega)
  rw [show 100 * (p / 100) + p % 100 = p by omega] at h1
  rw [e4, e3, h1, zshl4 d (by omega), lN_add]
  exact lN_1 _
theorem zRcost_N {I : zIt} {k p d : Nat} (hp : p ≤ 9999) (hd : d ≤ 500) (e4 : I 138 k = nI p) (e3 : I 137 k = nI d) : zRcost I k = lN (1000000 * p + 100 * d + 1) := by
  unfold zRcost
  rw [e4, e3, nI_l (by omega), nI_l (by omega), show (1000000 : Int64) = lN 1000000 from rfl, show (100 : Int64) = lN 100 from rfl, lN_mul, lN_mul, lN_add]
  exact lN_1 _
/-- bits -/
def zbt (x : Int32) (i : Nat) : Bool := x.toBitVec.getLsbD i
theorem zbt_or (x y : Int32) (i : Nat) : zbt (x ||| y) i = (zbt x i || zbt y i) := by unfold zbt; rw [Int32.toBitVec_or, BitVec.getLsbD_or]
theorem zbt_and (x y : Int32) (i : Nat) : zbt (x &&& y) i = (zbt x i && zbt y i) := by unfold zbt; rw [Int32.toBitVec_and, BitVec.getLsbD_and]
theorem zbt_xor (x y : Int32) (i : Nat) : zbt (x ^^^ y) i = (zbt x i ^^ zbt y i) := by unfold zbt; rw [Int32.toBitVec_xor, BitVec.getLsbD_xor]
theorem zbt_0 (i : Nat) : zbt 0 i = false := BitVec.getLsbD_zero
theorem zbt_ext {x y : Int32} (h : ∀ i, i < 32 → zbt x i = zbt y i) : x = y := Int32.toBitVec_inj.mp (BitVec.eq_of_getLsbD_eq (fun i hi => h i hi))
theorem zbt_1 : ∀ k, k < 32 → ∀ i, i < 32 → zbt ((1 : Int32) <<< (nI k &&& 31)) i = decide (i = k) := by decide +kernel
theorem zbt_m1 : ∀ i, i < 32 → zbt (-1) i = true := by decide +kernel
theorem zsmod : ∀ k, k < 32 → ((nI k &&& 31).toBitVec.smod 32).toNat = k := by decide +kernel
theorem zbt_t {x : Int32} {k : Nat} (hk : k < 32) : (x >>> (nI k &&& 31)) &&& 1 = 0 ↔ zbt x k = false := by
  have h0 : zbt (x >>> (nI k &&& 31)) 0 = zbt x k := by
    unfold zbt
    rw [Int32.toBitVec_shiftRight, BitVec.sshiftRight', zsmod k hk, BitVec.getLsbD_sshiftRight]
    simp [hk]
  have h1 : ∀ i, i < 32 → zbt 1 i = decide (i = 0) := by decide +kernel
  constructor
  · intro h
    have h2 : zbt ((x >>> (nI k &&& 31)) &&& 1) 0 = false := by rw [h]; exact zbt_0 0
    rw [zbt_and, h0, h1 0 (by omega)] at h2
    simpa using h2
  · intro h
    apply zbt_ext
    intro i hi
    rw [zbt_and, h1 i hi, zbt_0]
    by_cases h2 : i = 0
    · subst h2; rw [h0, h]; rfl
    · simp [h2]
