/-! THE FIRST TABLES (laid by m_fin.py): behind the two constructors, and the row 'out' -/
def zT0 : zTyp := zs (fun _ => none) 0 (some (6, 0))
def zI0 : zIt := zs (fun _ _ => 0) 0 (fun _ => 0)
def zL0 : zLt := zs (fun _ _ => 0) 0 (fun _ => 0)
def zP0 : zPt := zs (fun _ _ => none) 0 (fun _ => none)
def zT1 : zTyp := (zs (zs (zs (zs (zs (zs (zs (zs zT0 2 (some (12, 10))) 1 (some (2, 0))) 3 (some (11, 16))) 6 (some (8, 128))) 7 (some (9, 10))) 8 (some (8, 10))) 4 (some (13, 4))) 5 (some (14, 12)))
def zI1 : zIt := (zu (zu (zu (zs (zu (zs (zs (zs (zu (zs (zu (zs (zs (zu (zs zI0 2 (fun _ => 0)) 0 1 0) 1 (fun _ => 0)) 3 (fun _ => 0)) 1 1 0) 6 (fun _ => 0)) 1 3 0) 7 (fun _ => 0)) 8 (fun _ => 0)) 4 (fun _ => 0)) 0 4 0) 5 (fun _ => 0)) 0 6 0) 0 7 0) 0 8 0)
def zL1 : zLt := (zs (zs (zs (zs (zs (zs (zs (zs zL0 2 (fun _ => 0)) 1 (fun _ => 0)) 3 (fun _ => 0)) 6 (fun _ => 0)) 7 (fun _ => 0)) 8 (fun _ => 0)) 4 (fun _ => 0)) 5 (fun _ => 0))
def zP1 : zPt := (zu (zs (zu (zs (zu (zu (zs (zu (zs (zu (zs (zu (zs (zs (zu (zs zP0 2 (fun _ => none)) 0 0 (some 2)) 1 (fun _ => none)) 3 (fun _ => none)) 1 0 (some 3)) 6 (fun _ => none)) 1 2 (some 6)) 7 (fun _ => none)) 1 4 (some 7)) 8 (fun _ => none)) 1 5 (some 8)) 0 2 (some 1)) 4 (fun _ => none)) 0 3 (some 4)) 5 (fun _ => none)) 0 5 (some 5))
def zT2 : zTyp := zs zT1 128 (some (7, 0))
def zI2 : zIt := zs zI1 128 (fun _ => 0)
def zL2 : zLt := zs zL1 128 (fun _ => 0)
def zP2 : zPt := zs zP1 128 (fun _ => none)
def zT3 : zTyp := (zs (zs (zs (zs (zs (zs (zs (zs (zs (zs (zs (zs (zs (zs (zs (zs (zs (zs (zs (zs (zs (zs (zs (zs zT2 131 (some (8, 10))) 132 (some (8, 10))) 134 (some (8, 16))) 135 (some (8, 16))) 136 (some (8, 16))) 137 (some (8, 16))) 138 (some (8, 16))) 140 (some (8, 128))) 142 (some (8, 4))) 143 (some (8, 4))) 144 (some (8, 4))) 145 (some (8, 4))) 146 (some (8, 4))) 147 (some (8, 4))) 148 (some (8, 4))) 150 (some (8, 12))) 151 (some (8, 12))) 152 (some (8, 12))) 153 (some (8, 12))) 154 (some (8, 12))) 155 (some (8, 12))) 156 (some (9, 48))) 157 (some (9, 10))) 158 (some (10, 16)))
def zI3 : zIt := (zs (zs (zs (zs (zs (zs (zs (zs (zs (zs (zs (zs (zs (zs (zs (zs (zs (zs (zs (zs (zs (zs (zs (zs zI2 131 (fun _ => 0)) 132 (fun _ => 0)) 134 (fun _ => 0)) 135 (fun _ => 0)) 136 (fun _ => 0)) 137 (fun _ => 0)) 138 (fun _ => 0)) 140 (fun _ => 0)) 142 (fun _ => 0)) 143 (fun _ => 0)) 144 (fun _ => 0)) 145 (fun _ => 0)) 146 (fun _ => 0)) 147 (fun _ => 0)) 148 (fun _ => 0)) 150 (fun _ => 0)) 151 (fun _ => 0)) 152 (fun _ => 0)) 153 (fun _ => 0)) 154 (fun _ => 0)) 155 (fun _ => 0)) 156 (fun _ => 0)) 157 (fun _ => 0)) 158 (fun _ => 0))
def zL3 : zLt := (zs (zs (zs (zs (zs (zs (zs (zs (zs (zs (zs (zs (zs (zs (zs (zs (zs (zs (zs (zs (zs (zs (zs (zs zL2 131 (fun _ => 0)) 132 (fun _ => 0)) 134 (fun _ => 0)) 135 (fun _ => 0)) 136 (fun _ => 0)) 137 (fun _ => 0)) 138 (fun _ => 0)) 140 (fun _ => 0)) 142 (fun _ => 0)) 143 (fun _ => 0)) 144 (fun _ => 0)) 145 (fun _ => 0)) 146 (fun _ => 0)) 147 (fun _ => 0)) 148 (fun _ => 0)) 150 (fun _ => 0)) 151 (fun _ => 0)) 152 (fun _ => 0)) 153 (fun _ => 0)) 154 (fun _ => 0)) 155 (fun _ => 0)) 156 (fun _ => 0)) 157 (fun _ => 0)) 158 (fun _ => 0))
def zP3 : zPt := (zu (zs (zu (zs (zu (zs (zu (zs (zu (zs (zu (zs (zu (zs (zu (zs (zu (zs (zu (zs (zu (zs (zu (zs (zu (zs (zu (zs (zu (zs (zu (zs (zu (zs (zu (zs (zu (zs (zu (zs (zu (zs (zu (zs (zu (zs (zu (zs zP2 131 (fun _ => none)) 128 3 (some 131)) 132 (fun _ => none)) 128 4 (some 132)) 134 (fun _ => none)) 128 6 (some 134)) 135 (fun _ => none)) 128 7 (some 135)) 136 (fun _ => none)) 128 8 (some 136)) 137 (fun _ => none)) 128 9 (some 137)) 138 (fun _ => none)) 128 10 (some 138)) 140 (fun _ => none)) 128 12 (some 140)) 142 (fun _ => none)) 128 14 (some 142)) 143 (fun _ => none)) 128 15 (some 143)) 144 (fun _ => none)) 128 16 (some 144)) 145 (fun _ => none)) 128 17 (some 145)) 146 (fun _ => none)) 128 18 (some 146)) 147 (fun _ => none)) 128 19 (some 147)) 148 (fun _ => none)) 128 20 (some 148)) 150 (fun _ => none)) 128 22 (some 150)) 151 (fun _ => none)) 128 23 (some 151)) 152 (fun _ => none)) 128 24 (some 152)) 153 (fun _ => none)) 128 25 (some 153)) 154 (fun _ => none)) 128 26 (some 154)) 155 (fun _ => none)) 128 27 (some 155)) 156 (fun _ => none)) 128 28 (some 156)) 157 (fun _ => none)) 128 29 (some 157)) 158 (fun _ => none)) 128 30 (some 158))
def zT4 : zTyp := zs zT3 160 (some (9, 1))
def zI4 : zIt := zs zI3 160 (fun _ => 0)
def zL4 : zLt := zs zL3 160 (fun _ => 0)
def zP4 : zPt := zs zP3 160 (fun _ => none)
theorem zLI_0 : zLI 0 zT4 zI4 zL4 zP4 := by
  refine ⟨0, 0, 0, 0, 0, ⟨?_, ?_, ?_, ?_⟩, ?_, Nat.le_refl _⟩
  · exact ⟨⟨by decide +kernel, by decide +kernel⟩, ⟨Nat.zero_le _, Nat.zero_le _, Nat.zero_le _, Nat.zero_le _⟩, fun i h => absurd h (Nat.not_lt_zero _), fun i h => absurd h (Nat.not_lt_zero _), fun i h => absurd h (Nat.not_lt_zero _), fun i h => absurd h (Nat.not_lt_zero _)⟩
  · exact ⟨by decide +kernel, by decide +kernel⟩
  · decide +kernel
  · have h1 : ∀ i, i < 10 → zT4 (16 + i) = none := by decide +kernel
    have h2 : ∀ i, i < 16 → zT4 (32 + i) = none := by decide +kernel
    have h3 : ∀ i, i < 4 → zT4 (48 + i) = none := by decide +kernel
    have h4 : ∀ i, i < 12 → zT4 (64 + i) = none ∧ zT4 (80 + i) = none ∧ zT4 (96 + i) = none := by decide +kernel
    exact ⟨fun i _ h => h1 i h, fun i _ h => h2 i h, fun i _ h => h3 i h, fun i _ h => h4 i h⟩
  · have hn : zNf zI4 = 0 := by decide +kernel
    have h5 : ∀ q, q < 4 → zI4 143 q = 0 ∧ zI4 146 q = 0 ∧ zI4 148 q = 0 := by decide +kernel
    have h6 : ∀ t, t < 12 → ∀ j, j < 4 → zL4 156 (4 * t + j) = 0 := by decide +kernel
    refine ⟨⟨⟨by decide +kernel, by decide +kernel, by decide +kernel, by decide +kernel⟩, by decide +kernel, by decide +kernel, by decide +kernel, by decide +kernel⟩, ⟨Nat.zero_le _, Nat.zero_le _, Nat.zero_le _, Nat.zero_le _⟩, ⟨by decide +kernel, by decide +kernel⟩, fun i h => absurd h (Nat.not_lt_zero _), ⟨fun i h => absurd h (Nat.not_lt_zero _), fun i h => absurd h (Nat.not_lt_zero _), fun i h => absurd h (Nat.not_lt_zero _)⟩, ⟨⟨by decide +kernel, by rw [hn]; exact Nat.zero_le _, by decide +kernel⟩, ?_, fun j h => absurd h (by rw [hn]; exact Nat.not_lt_zero _), fun i h => absurd h (Nat.not_lt_zero _)⟩, fun i h => absurd h (Nat.not_lt_zero _), ⟨fun i h => absurd h (Nat.not_lt_zero _), fun i h => absurd h (Nat.not_lt_zero _)⟩, fun i h => absurd h (Nat.not_lt_zero _), fun _ i h => absurd h (Nat.not_lt_zero _), fun q _ h => h5 q h, fun t _ h => h6 t h⟩
    rw [hn]
    exact ⟨fun j h => absurd h (Nat.not_lt_zero _), fun i j h => absurd h (Nat.not_lt_zero _), fun i j h => absurd h (Nat.not_lt_zero _)⟩
