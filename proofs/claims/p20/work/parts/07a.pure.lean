/-! WHAT THE SMALL METHODS ANSWER, over the tables -/
def zabs (x : Int32) : Int32 := if 0 ≤ x then x else 0 - x
def zmin (x y : Int32) : Int32 := if y < x then y else x
def zminl (x y : Int64) : Int64 := if y < x then y else x
def zCleads (I : zIt) (κ : Nat) (x : Int32) : Int32 := if I κ 5 = 0 then (if x = I κ 0 then I κ 1 else if x = I κ 1 then I κ 0 else -1) else -1
abbrev zHasF (I : zIt) (κ : Nat) (k : Int32) : Prop := ¬ (I κ 5 >>> (k &&& 31)) &&& 1 = 0
def zPlace (k a b n : Int32) : Int32 := a + (2 * k + 1) * (b - a) / (2 * n)
def zCost (I : zIt) (κ : Nat) : Int64 := (I κ 4).toInt64 <<< ((17 : Int32).toInt64 &&& 63) + (I κ 3).toInt64 <<< ((4 : Int32).toInt64 &&& 63) + 1
def zHours (x y v a b : Int32) : Int32 := (zabs (a - x) + zabs (b - y) + v - 1) / v
/-- a row of longs filled from its beginning -/
def zfl {α : Type} (L : Nat → Nat → α) (κ k : Nat) (v : α) : Nat → Nat → α := fun a b => if a = κ ∧ b < k then v else L a b
theorem zfl_0 {α : Type} (L : Nat → Nat → α) (κ : Nat) (v : α) : zfl L κ 0 v = L := by
  funext a b
  simp [zfl]
theorem zfl_succ {α : Type} (L : Nat → Nat → α) (κ k : Nat) (v : α) : zu (zfl L κ k v) κ k v = zfl L κ (k + 1) v := by
  funext a b
  unfold zu zfl
  by_cases h : a = κ ∧ b = k
  · rw [if_pos h, if_pos ⟨h.1, by omega⟩]
  · rw [if_neg h]
    by_cases h2 : a = κ ∧ b < k
    · rw [if_pos h2, if_pos ⟨h2.1, by omega⟩]
    · rw [if_neg h2, if_neg (fun h3 => h ⟨h3.1, by
        have := h3.2
        have h4 : ¬ b < k := fun h5 => h2 ⟨h3.1, h5⟩
        omega⟩)]
