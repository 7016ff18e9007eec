/-! THE FIRST TABLES (laid by m_fin.py): behind the constructor -/
def zT0 : zTyp := zs (fun _ => none) 0 (some (6, 0))
def zI0 : zIt := zs (fun _ _ => 0) 0 (fun _ => 0)
def zL0 : zLt := zs (fun _ _ => 0) 0 (fun _ => 0)
def zP0 : zPt := zs (fun _ _ => none) 0 (fun _ => none)
def zT1 : zTyp := (zs (zs (zs (zs (zs (zs (zs (zs zT0 2 (some (12, 10))) 1 (some (2, 0))) 3 (some (11, 16))) 6 (some (8, 128))) 7 (some (9, 10))) 8 (some (8, 10))) 4 (some (13, 4))) 5 (some (14, 12)))
def zI1 : zIt := (zu (zu (zu (zs (zu (zs (zs (zs (zu (zs (zu (zs (zs (zu (zs zI0 2 (fun _ => 0)) 0 1 0) 1 (fun _ => 0)) 3 (fun _ => 0)) 1 1 0) 6 (fun _ => 0)) 1 3 0) 7 (fun _ => 0)) 8 (fun _ => 0)) 4 (fun _ => 0)) 0 4 0) 5 (fun _ => 0)) 0 6 0) 0 7 0) 0 8 0)
def zL1 : zLt := (zs (zs (zs (zs (zs (zs (zs (zs zL0 2 (fun _ => 0)) 1 (fun _ => 0)) 3 (fun _ => 0)) 6 (fun _ => 0)) 7 (fun _ => 0)) 8 (fun _ => 0)) 4 (fun _ => 0)) 5 (fun _ => 0))
def zP1 : zPt := (zu (zs (zu (zs (zu (zu (zs (zu (zs (zu (zs (zu (zs (zs (zu (zs zP0 2 (fun _ => none)) 0 0 (some 2)) 1 (fun _ => none)) 3 (fun _ => none)) 1 0 (some 3)) 6 (fun _ => none)) 1 2 (some 6)) 7 (fun _ => none)) 1 4 (some 7)) 8 (fun _ => none)) 1 5 (some 8)) 0 2 (some 1)) 4 (fun _ => none)) 0 3 (some 4)) 5 (fun _ => none)) 0 5 (some 5))
theorem zLI_0 : zLI 0 zT1 zI1 zL1 zP1 := by
  refine ⟨0, 0, 0, 0, 0, fun _ _ => 0, fun _ _ => 0, ⟨?_, ?_⟩, ?_, Nat.le_refl _⟩
  · exact ⟨⟨by decide +kernel, by decide +kernel⟩, ⟨Nat.zero_le _, Nat.zero_le _, Nat.zero_le _, Nat.zero_le _⟩, fun i h => absurd h (Nat.not_lt_zero _), fun i h => absurd h (Nat.not_lt_zero _), fun i h => absurd h (Nat.not_lt_zero _), fun i h => absurd h (Nat.not_lt_zero _)⟩
  · have h1 : ∀ i, i < 10 → zT1 (16 + i) = none := by decide +kernel
    have h2 : ∀ i, i < 16 → zT1 (32 + i) = none := by decide +kernel
    have h3 : ∀ i, i < 4 → zT1 (48 + i) = none := by decide +kernel
    have h4 : ∀ i, i < 12 → zT1 (64 + i) = none ∧ zT1 (80 + i) = none ∧ zT1 (96 + i) = none := by decide +kernel
    exact ⟨fun i _ h => h1 i h, fun i _ h => h2 i h, fun i _ h => h3 i h, fun i _ h => h4 i h⟩
  · have hn : zNf zI1 = 0 := by decide +kernel
    refine ⟨⟨⟨by decide +kernel, by decide +kernel, by decide +kernel, by decide +kernel⟩, rfl, rfl, rfl, rfl⟩, ⟨Nat.zero_le _, Nat.zero_le _, Nat.zero_le _, Nat.zero_le _⟩, ⟨by decide +kernel, rfl⟩, fun i h => absurd h (Nat.not_lt_zero _), ⟨fun i h => absurd h (Nat.not_lt_zero _), fun i h => absurd h (Nat.not_lt_zero _), fun i h => absurd h (Nat.not_lt_zero _)⟩, ⟨⟨by decide +kernel, by rw [hn]; exact Nat.zero_le _, by decide +kernel⟩, ?_, fun j h => absurd h (by rw [hn]; exact Nat.not_lt_zero _), fun i h => absurd h (Nat.not_lt_zero _)⟩, fun i h => absurd h (Nat.not_lt_zero _), ⟨fun i h => absurd h (Nat.not_lt_zero _), fun i h => absurd h (Nat.not_lt_zero _)⟩, fun i h => absurd h (Nat.not_lt_zero _), fun _ i h => absurd h (Nat.not_lt_zero _), fun q _ _ => ⟨rfl, rfl, rfl⟩, fun t _ _ j _ => rfl⟩
    rw [hn]
    exact ⟨fun j h => absurd h (Nat.not_lt_zero _), fun i j h => absurd h (Nat.not_lt_zero _), fun i j h => absurd h (Nat.not_lt_zero _)⟩
