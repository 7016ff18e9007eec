theorem zoS_z {I : zIt} {nc : Nat} {i k : Int32} (h : zoS I nc i k = 0) : zlt i nc ∧ zlt k (zSpn I i) := by
  unfold zoS zsq at h
  split at h
  · rename_i h1
    exact ⟨zo1_z h1, zo1_z h⟩
  · rename_i h1
    exact absurd h h1
/-- spans, as the chart takes them -/
theorem zInv_span {ni nc ns nt : Nat} {I : zIt} (h : zInv ni nc ns nt I) : ∀ i, i < nc → I (32 + i) 2 = nI (I (32 + i) 2).toNatClampNeg ∧ (I (32 + i) 2).toNatClampNeg ≤ 8 := by
  intro i hi
  obtain ⟨a, b, n, d, p, -, -, h1, h2, -, -, -, -, -, h3, -⟩ := h.2.2.1 i hi
  rw [h3, nI_clamp (by omega)]
  exact ⟨rfl, h2⟩
/-- the lengths of the ways -/
def zWl (nt : Nat) (I : zIt) : Prop := ∀ t, t < nt → I (80 + t) 1 = -1 ∨ ∃ j, j ≤ 9 ∧ I (80 + t) 1 = nI j
theorem zFw_len (I : zIt) (nc : Nat) (f : Nat → Int64) (v u : Nat) (row : Nat → Int32) : ∀ k, (zFw I nc f v u row k).2.1 ≤ k := by
  intro k
  induction k with
  | zero => exact Nat.le_refl 0
  | succ k ih =>
    show (zFw1 I nc f v (zFw I nc f v u row k)).2.1 ≤ k + 1
    unfold zFw1
    split
    · omega
    · split
      · omega
      · simp only; omega
theorem zFound_ne {I : zIt} {nc : Nat} {f : Nat → Int64} {u v t κ : Nat} (h1 : κ ≠ 80 + t) (h2 : κ ≠ 96 + t) : zFound I nc f u v t κ = I κ := by
  unfold zFound
  split
  · rw [zWay_ne h1 h2]
  · rw [zWay_ne h1 h2]
theorem zWl_fs {nt nc : Nat} (hnt : nt ≤ 12) (q : zIt × zLt) : ∀ k, k ≤ nt → ∀ x, x < nt → (x < k ∨ (q.1 (80 + x) 1 = -1 ∨ ∃ j, j ≤ 9 ∧ q.1 (80 + x) 1 = nI j)) → ((zFs nc q k).1 (80 + x) 1 = -1 ∨ ∃ j, j ≤ 9 ∧ (zFs nc q k).1 (80 + x) 1 = nI j) := by
  intro k
  induction k with
  | zero =>
    intro _ x _ h
    rcases h with h | h
    · omega
    · exact h
  | succ k ih =>
    intro hk x hx h
    show (zFs1 nc (zFs nc q k) k).1 (80 + x) 1 = -1 ∨ ∃ j, j ≤ 9 ∧ (zFs1 nc (zFs nc q k) k).1 (80 + x) 1 = nI j
    unfold zFs1
    dsimp only
    by_cases hxk : x = k
    · subst hxk
      unfold zFound
      split
      · exact Or.inl zWay_1
      · exact Or.inr ⟨_, zFw_len _ _ _ _ _ _ 9, zWay_1⟩
    · rw [zFound_ne (by omega) (by omega)]
      refine ih (by omega) x hx ?_
      rcases h with h | h
      · exact Or.inl (by omega)
      · exact Or.inr h
theorem zWl_stale {nt nc : Nat} (hnt : nt ≤ 12) {q : zIt × zLt} (h : zWl nt q.1) : zWl nt (zStale nc nt q).1 := by
  unfold zStale
  split
  · exact h
  · intro x hx
    dsimp only
    rw [zu_ne _ _ (by omega)]
    exact zWl_fs hnt q nt (Nat.le_refl _) x hx (Or.inl hx)
theorem zge0 {q : Int32} (h : ¬ q < 0) : q = nI q.toNatClampNeg ∧ q.toNatClampNeg < 2 ^ 31 := by
  have h0 : (0 : Int32).toInt = 0 := by decide
  rw [Int32.lt_iff_toInt_lt, h0] at h
  have hb : q.toInt < 2 ^ 31 := Int32.toInt_lt q
  have hc : q.toNatClampNeg = q.toInt.toNat := rfl
  refine ⟨Int32.toInt_inj.mp ?_, by omega⟩
  rw [nI_toInt (by omega)]
  omega
theorem zway_ix {q x : Int32} (h : ¬ q < 0) (hx : x = -1 ∨ ∃ j, j ≤ 9 ∧ x = nI j) : q < x → q = nI q.toNatClampNeg ∧ q.toNatClampNeg < 9 := by
  intro h2
  obtain ⟨e1, e2⟩ := zge0 h
  refine ⟨e1, ?_⟩
  have h0 : (0 : Int32).toInt = 0 := by decide
  have hc : q.toNatClampNeg = q.toInt.toNat := rfl
  rw [Int32.lt_iff_toInt_lt, h0] at h
  rw [Int32.lt_iff_toInt_lt] at h2
  rcases hx with rfl | ⟨j, h3, rfl⟩
  · have : (-1 : Int32).toInt = -1 := by decide
    omega
  · rw [nI_toInt (by omega)] at h2
    omega
