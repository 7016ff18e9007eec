theorem z_nelt {n m : Nat} (h : ¬ nI n = nI m) (hle : n ≤ m) : n < m := by
  rcases Nat.lt_or_ge n m with q | q
  · exact q
  · exact absurd (by rw [Nat.le_antisymm hle q]) h
theorem zRspan {ni nc ns nt : Nat} {I : zIt} (h : zRv ni nc ns nt I) : ∀ j, j < nc → I 136 j = nI (I 136 j).toNatClampNeg ∧ (I 136 j).toNatClampNeg ≤ 8 := by
  intro j hj
  obtain ⟨a, b, n, d, p, -, -, h1, h2, -, -, -, -, -, h3, -⟩ := h.2.2.1 j hj
  rw [h3, nI_clamp (by omega)]
  exact ⟨rfl, h2⟩
theorem zR2n {ni nc ns nt : Nat} {I : zIt} (h : zRv ni nc ns nt I) {i : Nat} (hi : i < nc) : ¬ 2 * I 136 i = 0 := by
  obtain ⟨a, b, n, d, p, -, -, h1, h2, -, -, -, -, -, h3, -⟩ := h.2.2.1 i hi
  rw [h3]
  have key : ∀ n, n < 9 → 1 ≤ n → ¬ 2 * nI n = 0 := by decide +kernel
  exact key n (by omega) h1
theorem zRsp0 {ni nc ns nt : Nat} {I : zIt} (h : zRv ni nc ns nt I) {i : Nat} (hi : i < ns) : ¬ I 142 i = 0 := by
  obtain ⟨v, h1, h2, h3⟩ := h.2.2.2.1 i hi
  rw [h3]
  exact nI_ne0 h1 (by omega)
/-- going a way in the reference: where, and the next cable -/
def zRw1 (I : zIt) (g : Nat → Int32) (f : Nat → Int64) (nc : Nat) (q : Nat × Option Nat) : Nat × Option Nat := match q.2 with
  | none => q
  | some k => ((zAcr I k (nI q.1)).toNatClampNeg, zNx I g f (zAcr I k (nI q.1)).toNatClampNeg nc)
def zRw (I : zIt) (g : Nat → Int32) (f : Nat → Int64) (nc u : Nat) : Nat → Nat × Option Nat
  | 0 => (u, if lg_cmp (f u) zFAR < 0 then zNx I g f u nc else none)
  | k + 1 => zRw1 I g f nc (zRw I g f nc u k)
theorem zRw_no {I : zIt} {g : Nat → Int32} {f : Nat → Int64} {nc u k : Nat} (h : (zRw I g f nc u k).2 = none) : ∀ j, (zRw I g f nc u (k + j)).2 = none := by
  intro j
  induction j with
  | zero => exact h
  | succ j ih =>
    show (zRw1 I g f nc (zRw I g f nc u (k + j))).2 = none
    unfold zRw1
    rw [ih]
    exact ih
def zRch (f : Nat → Int64) : Nat → Int32
  | 0 => 0
  | k + 1 => zRch f k ||| (if 0 ≤ lg_cmp (f k) zFAR then 0 else (1 : Int32) <<< (nI k &&& 31) : Int32)
theorem zNx_in {I : zIt} {g : Nat → Int32} {f : Nat → Int64} {u nc k : Nat} (h : zNx I g f u nc = some k) : k < nc := (zfst_spec h).1
theorem zx4 {x : Int32} (h : zin x 0 3) : x = nI x.toNatClampNeg ∧ x.toNatClampNeg < 4 := by
  have h0 : (0 : Int32).toInt = 0 := by decide
  have h3 : (3 : Int32).toInt = 3 := by decide
  have h1 := h.1; have h2 := h.2
  rw [Int32.le_iff_toInt_le] at h1 h2
  have hc : x.toNatClampNeg = x.toInt.toNat := rfl
  refine ⟨Int32.toInt_inj.mp ?_, by omega⟩
  rw [nI_toInt (by omega)]
  omega
