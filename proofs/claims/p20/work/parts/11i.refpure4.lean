theorem zoi_som {o : Option Nat} (h : ¬ zoi o = -1) : ∃ j, o = some j := by
  cases o with
  | none => exact absurd rfl h
  | some j => exact ⟨j, rfl⟩
theorem zoi_non {o : Option Nat} {n : Nat} (hn : n ≤ 128) (ho : ∀ j, o = some j → j < n) (h : zoi o = -1) : o = none := by
  cases o with
  | none => rfl
  | some j =>
    have key : ∀ j, j < 128 → ¬ nI j = -1 := by decide +kernel
    exact absurd h (key j (by have := ho j rfl; omega))
theorem zRw_end {I : zIt} {g : Nat → Int32} {f : Nat → Int64} {nc u k N a : Nat} {o : Option Nat} (hnc : nc ≤ 16) (hq : zRw I g f nc u k = (a, o)) (hk : k ≤ N) (ho : ∀ j, o = some j → j < nc) (h : zoi o = -1) : zoi o = zoi (zRw I g f nc u N).2 := by
  have e := zoi_non (by omega) ho h
  obtain ⟨j, rfl⟩ : ∃ j, N = k + j := ⟨N - k, by omega⟩
  rw [zRw_no (k := k) (by rw [hq]; exact e) j, e]
theorem zR150 {ni nc ns nt : Nat} {I : zIt} (hbd : zRbd ni nc ns nt) (h : zRv ni nc ns nt I) {t : Nat} (ht : t < nt) : I 150 t = nI (I 150 t).toNatClampNeg ∧ (I 150 t).toNatClampNeg < ni := by
  obtain ⟨u, v, hu, hv, eu, ev⟩ := h.2.2.2.2 t ht
  have := hbd.1
  rw [eu, nI_clamp (by omega)]
  exact ⟨rfl, hu⟩
theorem zge_lt {x : Int32} {n : Nat} (hn : n ≤ 4000) (h0 : ¬ x < 0) (h1 : ¬ nI n ≤ x) : x = nI x.toNatClampNeg ∧ x.toNatClampNeg < n := by
  have e0 : (0 : Int32).toInt = 0 := by decide
  rw [Int32.lt_iff_toInt_lt, e0] at h0
  rw [Int32.le_iff_toInt_le, nI_toInt (by omega)] at h1
  have hc : x.toNatClampNeg = x.toInt.toNat := rfl
  refine ⟨Int32.toInt_inj.mp ?_, by omega⟩
  rw [nI_toInt (by omega)]
  omega
theorem zge_ge {x : Int32} {n : Nat} (hn : n ≤ 4000) (h1 : nI n ≤ x) : ¬ x.toNatClampNeg < n := by
  rw [Int32.le_iff_toInt_le, nI_toInt (by omega)] at h1
  have hc : x.toNatClampNeg = x.toInt.toNat := rfl
  omega
