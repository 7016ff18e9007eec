theorem zRT_c {I J I' J' : zIt} {L K L' K' : zLt} {hrs hrs' t : Nat} (h : zRT I L J K hrs t) (e1 : I' (64 + t) = I (64 + t)) (e2 : L' (64 + t) 7 = L (64 + t) 7)
    (e3 : J' 150 t = J 150 t ∧ J' 151 t = J 151 t ∧ J' 152 t = J 152 t ∧ J' 153 t = J 153 t ∧ J' 154 t = J 154 t ∧ J' 155 t = J 155 t)
    (e4 : K' 156 (4 * t) = K 156 (4 * t) ∧ K' 156 (4 * t + 1) = K 156 (4 * t + 1) ∧ K' 156 (4 * t + 2) = K 156 (4 * t + 2) ∧ K' 156 (4 * t + 3) = K 156 (4 * t + 3)) (hle : hrs ≤ hrs') : zRT I' L' J' K' hrs' t := by
  obtain ⟨f0, f1, f2, f3, f4, f5⟩ := e3
  obtain ⟨g0, g1, g2, g3⟩ := e4
  unfold zRT
  rw [e1, e2, f0, f1, f2, f3, f4, f5, g0, g1, g2, g3]
  obtain ⟨h1, h2, d, x, l, m, a, b, c, h3, ⟨c1, c2, c3, c4⟩, h5⟩ := h
  exact ⟨h1, h2, d, x, l, m, a, b, c, h3, ⟨c1, by omega, by omega, c4⟩, h5⟩
theorem zSetI_fr {I : zIt} {t : Nat} : ∀ κ, κ ≠ 64 + t → zSetI I t κ = I κ := fun κ h => by
  unfold zSetI
  split
  · rw [zu_rne h, zu_rne h]
  · split
    · rw [zu_rne h, zu_rne h]
    · rfl
theorem zSetL_fr {I : zIt} {L : zLt} {t : Nat} : ∀ κ, κ ≠ 64 + t → zSetL I L t κ = L κ := fun κ h => by
  unfold zSetL
  split
  · rfl
  · funext k
    exact zu_ne _ _ (fun e => h e.1)
theorem zHoL_fr {J : zIt} {Ko K : zLt} {t j : Nat} {w : Int64} (h : j ≠ 4 * t ∧ j ≠ 4 * t + 1 ∧ j ≠ 4 * t + 2 ∧ j ≠ 4 * t + 3) : zHoL J Ko K t w 156 j = K 156 j := by
  unfold zHoL
  rw [zu_ne _ _ (by omega), zu_ne _ _ (by omega), zu_ne _ _ (by omega), zu_ne _ _ (by omega)]
