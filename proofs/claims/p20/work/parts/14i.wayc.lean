/-! A TRADER'S WAY, as the class holds it; it stays as long as the cables do -/
theorem zFw1_c {I I' : zIt} {nc : Nat} (h : ∀ i, i < nc → I' (32 + i) = I (32 + i)) (f : Nat → Int64) (v : Nat) (q : zFq) : zFw1 I' nc f v q = zFw1 I nc f v q := by
  unfold zFw1
  rw [zLbc_c h]
  split
  · rfl
  · cases hz : zfst (zLbc I f q.1) nc with
    | none => rfl
    | some c =>
      have hc := (zfst_spec hz).1
      dsimp only
      rw [zCl_c (h c hc), h c hc]
theorem zFw_c {I I' : zIt} {nc : Nat} (h : ∀ i, i < nc → I' (32 + i) = I (32 + i)) (f : Nat → Int64) (v u : Nat) (row : Nat → Int32) : ∀ k, zFw I' nc f v u row k = zFw I nc f v u row k := by
  intro k
  induction k with
  | zero => rfl
  | succ k ih => rw [zFw_s, zFw_s, ih, zFw1_c h]
theorem zAd_c {I I' : zIt} {nc k x y : Nat} (h : ∀ i, i < nc → I' (32 + i) = I (32 + i)) (hk : k < nc) : zAd I' k x y ↔ zAd I k x y := by
  unfold zAd zea zeb
  rw [h k hk]
theorem zLs_c {I I' : zIt} {nc v : Nat} {g : Nat → Nat} (h : ∀ i, i < nc → I' (32 + i) = I (32 + i)) (hL : zLs I nc v g) : zLs I' nc v g := by
  have hw : ∀ k, k < nc → zw1 I' k = zw1 I k := fun k hk => by unfold zw1 zep zed; rw [h k hk]
  refine ⟨hL.1, fun k x y hk hA => ?_, fun x hx hxv hlt => ?_⟩
  · rw [hw k hk]
    exact hL.2.1 k x y hk ((zAd_c h hk).mp hA)
  · obtain ⟨k, a, hk, hA, e⟩ := hL.2.2 x hx hxv hlt
    exact ⟨k, a, hk, (zAd_c h hk).mpr hA, by rw [hw k hk]; exact e⟩
def zWf (nc : Nat) (I : zIt) (t : Nat) : Prop := ∃ (F : Nat → Int64) (g : Nat → Nat), zRw0 F g ∧ zLs I nc (I (64 + t) 1).toNatClampNeg g ∧
  (¬ g (I (64 + t) 0).toNatClampNeg < 1152921504606846976 → I (80 + t) 1 = -1 ∧ I (80 + t) 2 = -1 ∧ I (80 + t) 3 = -1) ∧
  (g (I (64 + t) 0).toNatClampNeg < 1152921504606846976 → ∃ row, I (80 + t) 1 = nI (zFw I nc F (I (64 + t) 1).toNatClampNeg (I (64 + t) 0).toNatClampNeg row 9).2.1 ∧ I (80 + t) 2 = (zFw I nc F (I (64 + t) 1).toNatClampNeg (I (64 + t) 0).toNatClampNeg row 9).2.2.1 ∧
    I (80 + t) 3 = (zFw I nc F (I (64 + t) 1).toNatClampNeg (I (64 + t) 0).toNatClampNeg row 9).2.2.2.1 ∧ I (96 + t) = (zFw I nc F (I (64 + t) 1).toNatClampNeg (I (64 + t) 0).toNatClampNeg row 9).2.2.2.2)
theorem zWf_c {I I' : zIt} {nc t : Nat} (h : ∀ i, i < nc → I' (32 + i) = I (32 + i)) (h0 : I' (64 + t) 0 = I (64 + t) 0) (h1 : I' (64 + t) 1 = I (64 + t) 1) (h8 : ∀ k, k = 1 ∨ k = 2 ∨ k = 3 → I' (80 + t) k = I (80 + t) k) (h9 : I' (96 + t) = I (96 + t)) (hW : zWf nc I t) : zWf nc I' t := by
  obtain ⟨F, g, a1, a2, a3, a4⟩ := hW
  refine ⟨F, g, a1, by rw [h1]; exact zLs_c h a2, ?_, ?_⟩
  · rw [h0, h8 1 (by omega), h8 2 (by omega), h8 3 (by omega)]
    exact a3
  · rw [h0, h1, h8 1 (by omega), h8 2 (by omega), h8 3 (by omega), h9]
    intro q
    obtain ⟨row, b⟩ := a4 q
    exact ⟨row, by rw [zFw_c h]; exact b⟩
