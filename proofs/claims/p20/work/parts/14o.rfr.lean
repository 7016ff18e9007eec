/-! WHAT THE REFERENCE'S HOURS LEAVE ALONE -/
theorem zRtr_fr {ni nc : Nat} (q : zIt × zLt) : ∀ k, (∀ κ, κ ≠ 158 → (zRtr ni nc q k).1 κ = q.1 κ) ∧ ∀ κ, κ ≠ 156 → κ ≠ 157 → (zRtr ni nc q k).2 κ = q.2 κ := by
  intro k
  induction k with
  | zero => exact ⟨fun _ _ => rfl, fun _ _ _ => rfl⟩
  | succ k ih =>
    obtain ⟨i1, i2⟩ := ih
    show (∀ κ, κ ≠ 158 → (zRtr1 ni nc (zRtr ni nc q k) k).1 κ = q.1 κ) ∧ ∀ κ, κ ≠ 156 → κ ≠ 157 → (zRtr1 ni nc (zRtr ni nc q k) k).2 κ = q.2 κ
    unfold zRtr1
    dsimp only
    refine ⟨fun κ h => by rw [zs_ne _ _ h, i1 κ h], fun κ h1 h2 => ?_⟩
    unfold zHoL
    funext j
    rw [zu_ne _ _ (by omega), zu_ne _ _ (by omega), zu_ne _ _ (by omega), zu_ne _ _ (by omega), zs_ne _ _ h2, i2 κ h1 h2]
theorem zCome_fr {J : zIt} {q : Nat} : ∀ κ, κ < 128 → zCome J q κ = J κ := fun κ h => by
  unfold zCome
  split
  · rw [zu_rne (by omega), zu_rne (by omega)]
  · rw [zu_rne (by omega), zu_rne (by omega)]
theorem zRgo_fr {J : zIt} {q : Nat} : ∀ κ, κ < 128 → zRgo J q κ = J κ := fun κ h => by
  unfold zRgo
  split
  · rw [zu_rne (by omega)]
  · split
    · rw [zCome_fr κ h, zu_rne (by omega)]
    · split
      · rw [zu_rne (by omega), zu_rne (by omega), zu_rne (by omega)]
      · unfold zRmend
        cases zPl (zu J 146 q (J 146 q - 1)) (zu J 146 q (J 146 q - 1) 147 q) with
        | none =>
          dsimp only
          rw [zu_rne (by omega), zu_rne (by omega)]
        | some k =>
          dsimp only
          rw [zu_rne (by omega), zu_rne (by omega), zs_ne _ _ (by omega), zu_rne (by omega), zu_rne (by omega)]
theorem zRsh_fr {J : zIt} : ∀ k κ, κ < 128 → zRsh J k κ = J κ := by
  intro k
  induction k with
  | zero => intro κ _; rfl
  | succ k ih =>
    intro κ h
    show zRsh1 (zRsh J k) k κ = J κ
    unfold zRsh1
    split
    · exact ih κ h
    · rw [zRgo_fr κ h, ih κ h]
theorem zRhrs_fr {ni nc ns nt : Nat} (q : zIt × zLt) : ∀ k, (∀ κ, κ < 128 → (zRhrs ni nc ns nt q k).1 κ = q.1 κ) ∧ ∀ κ, κ < 128 → (zRhrs ni nc ns nt q k).2 κ = q.2 κ := by
  intro k
  induction k with
  | zero => exact ⟨fun _ _ => rfl, fun _ _ => rfl⟩
  | succ k ih =>
    obtain ⟨i1, i2⟩ := ih
    show (∀ κ, κ < 128 → (zRhr ni nc ns nt (zRhrs ni nc ns nt q k)).1 κ = q.1 κ) ∧ ∀ κ, κ < 128 → (zRhr ni nc ns nt (zRhrs ni nc ns nt q k)).2 κ = q.2 κ
    unfold zRhr
    have f := zRtr_fr (ni := ni) (nc := nc) (zRsh (zu (zRhrs ni nc ns nt q k).1 128 1 ((zRhrs ni nc ns nt q k).1 128 1 + 1)) ns, (zRhrs ni nc ns nt q k).2) nt
    refine ⟨fun κ h => ?_, fun κ h => ?_⟩
    · rw [f.1 κ (by omega)]
      dsimp only
      rw [zRsh_fr ns κ h, zu_rne (by omega), i1 κ h]
    · rw [f.2 κ (by omega) (by omega)]
      exact i2 κ h
