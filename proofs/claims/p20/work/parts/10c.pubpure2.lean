def zAim (I : zIt) (κ : Nat) (a b : Int32) : zIt := zu (zu I κ 5 a) κ 6 b
theorem zAim_ne {I : zIt} {κ κ' k : Nat} {a b : Int32} (h : ¬ (κ' = κ ∧ (k = 5 ∨ k = 6))) : zAim I κ a b κ' k = I κ' k := by
  unfold zAim
  rw [zu_ne _ _ (fun h2 => h ⟨h2.1, Or.inr h2.2⟩), zu_ne _ _ (fun h2 => h ⟨h2.1, Or.inl h2.2⟩)]
theorem zAim_5 {I : zIt} {κ : Nat} {a b : Int32} : zAim I κ a b κ 5 = a := by
  unfold zAim
  rw [zu_ne _ _ (by omega), zu_self]
theorem zsp0 {ni nc ns nt : Nat} {I : zIt} (h : zInv ni nc ns nt I) {i : Nat} (hi : i < ns) : ¬ I (48 + i) 0 = 0 := by
  obtain ⟨-, v, h1, h2, h3⟩ := h.2.2.2.1 i hi
  rw [h3]
  exact nI_ne0 h1 (by omega)
theorem z2n {ni nc ns nt : Nat} {I : zIt} (h : zInv ni nc ns nt I) {i : Nat} (hi : i < nc) : ¬ 2 * I (32 + i) 2 = 0 := by
  obtain ⟨a, b, n, d, p, -, -, h1, h2, -, -, -, -, -, h3, -⟩ := h.2.2.1 i hi
  rw [h3]
  have key : ∀ n, n < 9 → 1 ≤ n → ¬ 2 * nI n = 0 := by decide +kernel
  exact key n (by omega) h1
/-- the exceptions of a ship's two calls -/
def zoH (I : zIt) (ni ns : Nat) (i j : Int32) : Nat := zsq (zo1 i ns) (zsq (zo1 j ni) (zoI I (48 + i.toNatClampNeg)))
def zoD (I : zIt) (nc ns : Nat) (i j k : Int32) : Nat := zsq (zo1 i ns) (zsq (zoS I nc j k) (zsq (zoI I (48 + i.toNatClampNeg)) (if zHasF I (32 + j.toNatClampNeg) k then 0 else 3)))
