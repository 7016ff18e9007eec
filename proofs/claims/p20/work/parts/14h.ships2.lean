/-- all ships' hour -/
theorem zRS_shs {nc ns : Nat} {I J : zIt} (hnc : nc ≤ 16) (hns : ns ≤ 4) (hF : zRF nc I J) (hS : ∀ q', q' < ns → zRS nc I J q') : ∀ k, k ≤ ns →
    (zRF nc (zShs I k) (zRsh J k) ∧ ∀ q', q' < ns → zRS nc (zShs I k) (zRsh J k) q') ∧ (zShs I k 0 7 = 1 ∨ ∀ κ, κ < 48 ∨ 52 ≤ κ → zShs I k κ = I κ) := by
  intro k
  induction k with
  | zero => intro _; exact ⟨⟨hF, hS⟩, Or.inr fun _ _ => rfl⟩
  | succ k ih =>
    intro hk
    obtain ⟨⟨i1, i2⟩, i3⟩ := ih (by omega)
    obtain ⟨w1, w2⟩ := zRS_work hnc hns (show k < ns by omega) i1 i2
    refine ⟨w1, ?_⟩
    show zWork (zShs I k) (48 + k) 0 7 = 1 ∨ ∀ κ, κ < 48 ∨ 52 ≤ κ → zWork (zShs I k) (48 + k) κ = I κ
    rcases w2 with w2 | w2
    · exact Or.inl w2
    · rcases i3 with i3 | i3
      · exact Or.inl (by rw [w2 0 (by omega)]; exact i3)
      · exact Or.inr fun κ hκ => by rw [w2 κ (by omega), i3 κ hκ]
/-- what a ship's hour leaves alone -/
theorem zWork_fr {nc ns q : Nat} {I J : zIt} (hnc : nc ≤ 16) (hq : q < ns) (hns : ns ≤ 4) (hS : ∀ q', q' < ns → zRS nc I J q') : ∀ κ, κ ≠ 0 → κ ≠ 1 → κ ≠ 6 → κ < 32 ∨ 52 ≤ κ → zWork I (48 + q) κ = I κ := by
  intro κ h0 h1 h6 h52
  have hne : κ ≠ 48 + q := by omega
  have h4 : ∀ x, zu I (48 + q) 4 x κ = I κ := fun x => zu_rne hne
  unfold zWork
  split
  · rfl
  · split
    · unfold zGo
      split
      · rw [zArr_fr κ hne, h4]
      · split
        · rw [zBeg_fr κ hne, h4]
        · unfold zMend
          split
          · rename_i hit
            have hc : (zu I (48 + q) 4 (I (48 + q) 4 - 1) (48 + q) 5).toNatClampNeg < 16 := by
              rw [zu_ne _ _ (by omega)]
              rcases (hS q hq).2.1.1 with e | ⟨-, e⟩
              · exact absurd e (zIts_4.mp hit).1
              · omega
            rw [zBeg_fr κ hne, zu_rne h0, zu_rne hne]
            funext k'
            rw [zRmv_ne h6 (by omega) (by omega), h4]
          · rw [zBeg_fr κ hne, h4]
    · exact h4 _
theorem zShs_fr {nc ns : Nat} {I J : zIt} (hnc : nc ≤ 16) (hns : ns ≤ 4) (hF : zRF nc I J) (hS : ∀ q', q' < ns → zRS nc I J q') : ∀ k, k ≤ ns → ∀ κ, κ ≠ 0 → κ ≠ 1 → κ ≠ 6 → κ < 32 ∨ 52 ≤ κ → zShs I k κ = I κ := by
  intro k
  induction k with
  | zero => intro _ κ _ _ _ _; rfl
  | succ k ih =>
    intro hk κ h0 h1 h6 h52
    have hi := (zRS_shs hnc hns hF hS k (by omega)).1.2
    show zWork (zShs I k) (48 + k) κ = I κ
    rw [zWork_fr hnc (show k < ns by omega) hns hi κ h0 h1 h6 h52]
    exact ih (by omega) κ h0 h1 h6 h52
