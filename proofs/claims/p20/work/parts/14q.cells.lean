/-! WHAT AN HOUR OF THE SHIPS LEAVES ALONE, cell by cell -/
def zShc (κ j : Nat) : Prop := ¬ (κ = 0 ∧ j = 7) ∧ ¬ (κ = 1 ∧ j = 3) ∧ κ ≠ 6 ∧ ¬ (32 ≤ κ ∧ κ < 48 ∧ j = 5) ∧ (κ < 48 ∨ 52 ≤ κ)
theorem zWork_cell {nc ns q : Nat} {I J : zIt} (hnc : nc ≤ 16) (hq : q < ns) (hns : ns ≤ 4) (hS : ∀ q', q' < ns → zRS nc I J q') {κ j : Nat} (hc : zShc κ j) : zWork I (48 + q) κ j = I κ j := by
  obtain ⟨g1, g2, g3, g4, g5⟩ := hc
  have hne : κ ≠ 48 + q := by omega
  have h4 : ∀ x, zu I (48 + q) 4 x κ = I κ := fun x => zu_rne hne
  unfold zWork
  split
  · rfl
  · split
    · unfold zGo
      split
      · rw [zArr_fr κ hne, h4]
      · split
        · rw [zBeg_fr κ hne, h4]
        · unfold zMend
          split
          · rename_i hit
            have hc : (zu I (48 + q) 4 (I (48 + q) 4 - 1) (48 + q) 5).toNatClampNeg < 16 := by
              rw [zu_ne _ _ (by omega)]
              rcases (hS q hq).2.1.1 with e | ⟨-, e⟩
              · exact absurd e (zIts_4.mp hit).1
              · omega
            rw [zBeg_fr κ hne, zu_ne _ _ g1, zu_rne hne, zRmv_ne g3 g2 (by omega), h4]
          · rw [zBeg_fr κ hne, h4]
    · rw [h4]
theorem zShs_cell {nc ns : Nat} {I J : zIt} (hnc : nc ≤ 16) (hns : ns ≤ 4) (hF : zRF nc I J) (hS : ∀ q', q' < ns → zRS nc I J q') : ∀ k, k ≤ ns → ∀ κ j, zShc κ j → zShs I k κ j = I κ j := by
  intro k
  induction k with
  | zero => intro _ κ j _; rfl
  | succ k ih =>
    intro hk κ j hc
    have hi := (zRS_shs hnc hns hF hS k (by omega)).1.2
    show zWork (zShs I k) (48 + k) κ j = I κ j
    rw [zWork_cell hnc (show k < ns by omega) hns hi hc]
    exact ih (by omega) κ j hc
def zRhc (κ j : Nat) : Prop := ¬ (κ = 128 ∧ j = 11) ∧ κ ≠ 140 ∧ κ ≠ 143 ∧ κ ≠ 146 ∧ κ ≠ 148
theorem zCome_cell {J : zIt} {q κ j : Nat} (h : zRhc κ j) : zCome J q κ j = J κ j := by
  obtain ⟨-, -, h3, h4, -⟩ := h
  unfold zCome
  split
  · rw [zu_rne h4, zu_rne h3]
  · rw [zu_rne h4, zu_rne h3]
theorem zRgo_cell {J : zIt} {q κ j : Nat} (h : zRhc κ j) : zRgo J q κ j = J κ j := by
  obtain ⟨h1, h2, h3, h4, h5⟩ := id h
  unfold zRgo
  split
  · rw [zu_rne h4]
  · split
    · rw [zCome_cell h, zu_rne h4]
    · split
      · rw [zu_rne h4, zu_rne h3, zu_rne h4]
      · unfold zRmend
        cases zPl (zu J 146 q (J 146 q - 1)) (zu J 146 q (J 146 q - 1) 147 q) with
        | none =>
          dsimp only
          rw [zu_rne h3, zu_rne h4]
        | some k =>
          dsimp only
          rw [zu_rne h3, zu_rne h5, zs_ne _ _ h2, zu_ne _ _ h1, zu_rne h4]
theorem zRsh_cell {J : zIt} {κ j : Nat} (h : zRhc κ j) : ∀ k, zRsh J k κ j = J κ j := by
  intro k
  induction k with
  | zero => rfl
  | succ k ih =>
    show zRsh1 (zRsh J k) k κ j = J κ j
    unfold zRsh1
    split
    · exact ih
    · rw [zRgo_cell h, ih]
theorem zRsh_row {J : zIt} {κ : Nat} (h : κ ≠ 128 ∧ κ ≠ 140 ∧ κ ≠ 143 ∧ κ ≠ 146 ∧ κ ≠ 148) (k : Nat) : zRsh J k κ = J κ := by
  funext j
  exact zRsh_cell (by unfold zRhc; omega) k
theorem zShs_row {nc ns : Nat} {I J : zIt} (hnc : nc ≤ 16) (hns : ns ≤ 4) (hF : zRF nc I J) (hS : ∀ q', q' < ns → zRS nc I J q') {k κ : Nat} (hk : k ≤ ns) (h : κ ≠ 0 ∧ κ ≠ 1 ∧ κ ≠ 6 ∧ (κ < 32 ∨ 52 ≤ κ)) : zShs I k κ = I κ := by
  funext j
  exact zShs_cell hnc hns hF hS k hk κ j (by unfold zShc; omega)
/-- finding the ways writes longs into the row of costs alone -/
theorem zFs_L {nc : Nat} {q : zIt × zLt} : ∀ k κ, κ ≠ 7 → (zFs nc q k).2 κ = q.2 κ := by
  intro k
  induction k with
  | zero => intro κ _; rfl
  | succ k ih =>
    intro κ h
    show (zFs1 nc (zFs nc q k) k).2 κ = q.2 κ
    unfold zFs1
    dsimp only
    rw [zs_ne _ _ h, ih κ h]
theorem zStale_L {nc nt : Nat} {q : zIt × zLt} {κ : Nat} (h : κ ≠ 7) : (zStale nc nt q).2 κ = q.2 κ := by
  unfold zStale
  split
  · rfl
  · exact zFs_L nt κ h
theorem zRgo_col {J : zIt} {q κ j : Nat} (h1 : κ ≠ 128) (h2 : κ ≠ 140) (hj : j ≠ q) : zRgo J q κ j = J κ j := by
  unfold zRgo
  split
  · rw [zu_ne _ _ (by omega)]
  · split
    · unfold zCome
      split
      · rw [zu_ne _ _ (by omega), zu_ne _ _ (by omega), zu_ne _ _ (by omega)]
      · rw [zu_ne _ _ (by omega), zu_ne _ _ (by omega), zu_ne _ _ (by omega)]
    · split
      · rw [zu_ne _ _ (by omega), zu_ne _ _ (by omega), zu_ne _ _ (by omega)]
      · unfold zRmend
        cases zPl (zu J 146 q (J 146 q - 1)) (zu J 146 q (J 146 q - 1) 147 q) with
        | none =>
          dsimp only
          rw [zu_ne _ _ (by omega), zu_ne _ _ (by omega)]
        | some k =>
          dsimp only
          rw [zu_ne _ _ (by omega), zu_ne _ _ (by omega), zs_ne _ _ h2, zu_ne _ _ (by omega), zu_ne _ _ (by omega)]
theorem zRsh_col {J : zIt} {κ j : Nat} (h1 : κ ≠ 128) (h2 : κ ≠ 140) : ∀ k, k ≤ j → zRsh J k κ j = J κ j := by
  intro k
  induction k with
  | zero => intro _; rfl
  | succ k ih =>
    intro hk
    show zRsh1 (zRsh J k) k κ j = J κ j
    unfold zRsh1
    split
    · exact ih (by omega)
    · rw [zRgo_col h1 h2 (by omega), ih (by omega)]
theorem zRtr_col {ni nc j : Nat} {q : zIt × zLt} : ∀ k, 4 * k ≤ j → (zRtr ni nc q k).2 156 j = q.2 156 j := by
  intro k
  induction k with
  | zero => intro _; rfl
  | succ k ih =>
    intro hk
    rw [zRtr_s]
    unfold zRtr1
    dsimp only
    rw [zHoL_fr (by omega), zs_ne _ _ (by omega), ih (by omega)]
/-- the reference's cells of ships and traders that are not told yet -/
def zFr (ns nt : Nat) (J : zIt) (K : zLt) : Prop := (∀ q, ns ≤ q → q < 4 → J 143 q = 0 ∧ J 146 q = 0 ∧ J 148 q = 0) ∧ ∀ t, nt ≤ t → t < 12 → ∀ j, j < 4 → K 156 (4 * t + j) = 0
theorem zFr_c {ns nt : Nat} {J J' : zIt} {K K' : zLt} (e1 : ∀ q, ns ≤ q → q < 4 → J' 143 q = J 143 q ∧ J' 146 q = J 146 q ∧ J' 148 q = J 148 q) (e2 : ∀ j, 4 * nt ≤ j → K' 156 j = K 156 j) (h : zFr ns nt J K) : zFr ns nt J' K' := by
  refine ⟨fun q h1 h2 => ?_, fun t h1 h2 j hj => ?_⟩
  · obtain ⟨f1, f2, f3⟩ := e1 q h1 h2
    rw [f1, f2, f3]
    exact h.1 q h1 h2
  · rw [e2 _ (by omega)]
    exact h.2 t h1 h2 j hj
