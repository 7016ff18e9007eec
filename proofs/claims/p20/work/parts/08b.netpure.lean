/-! WHAT THE NET'S METHODS DO, over the tables -/
abbrev zUNR : Int64 := 1152921504606846976
def zNb1 (f : Nat → Int64) (st : Int32) (k : Nat) (q : Int32 × Int64) : Int32 × Int64 :=
  if (st >>> (nI k &&& 31)) &&& 1 = 0 then (if 0 ≤ lg_cmp (f k) q.2 then q else (nI k, f k)) else q
def zNb (f : Nat → Int64) (st : Int32) : Nat → Int32 × Int64
  | 0 => (-1, zUNR)
  | k + 1 => zNb1 f st k (zNb f st k)
def zSp1 (I : zIt) (u : Nat) (f : Nat → Int64) (i : Nat) : Nat → Int64 :=
  if zCleads I (32 + i) (nI u) = -1 then f else zs f (zCleads I (32 + i) (nI u)).toNatClampNeg (zminl (f (zCleads I (32 + i) (nI u)).toNatClampNeg) (f u + zCost I (32 + i)))
def zSp (I : zIt) (u : Nat) (f : Nat → Int64) : Nat → Nat → Int64
  | 0 => f
  | k + 1 => zSp1 I u (zSp I u f k) k
def zLbc (I : zIt) (f : Nat → Int64) (u i : Nat) : Bool := decide (¬ zCleads I (32 + i) (nI u) = -1 ∧ lg_cmp (f u) (f (zCleads I (32 + i) (nI u)).toNatClampNeg + zCost I (32 + i)) = 0)
def zMt1 (I : zIt) (nc : Nat) (q : Int32 × (Nat → Int64)) : Int32 × (Nat → Int64) :=
  if (zNb q.2 q.1 10).1 = -1 then q else (q.1 ||| (1 <<< ((zNb q.2 q.1 10).1 &&& 31)), zSp I (zNb q.2 q.1 10).1.toNatClampNeg q.2 nc)
def zMt (I : zIt) (nc : Nat) (f : Nat → Int64) : Nat → Int32 × (Nat → Int64)
  | 0 => (0, f)
  | k + 1 => zMt1 I nc (zMt I nc f k)
def zM0 (f : Nat → Int64) (v : Nat) : Nat → Int64 := zs (fun b => if b < 10 then zUNR else f b) v 0
theorem zNb_in (f : Nat → Int64) (st : Int32) : ∀ k, k ≤ 10 → (zNb f st k).1 = -1 ∨ ∃ j, j < k ∧ (zNb f st k).1 = nI j := by
  intro k
  induction k with
  | zero => intro _; exact Or.inl rfl
  | succ k ih =>
    intro hk
    show (zNb1 f st k (zNb f st k)).1 = -1 ∨ ∃ j, j < k + 1 ∧ (zNb1 f st k (zNb f st k)).1 = nI j
    have h := ih (by omega)
    unfold zNb1
    split
    · split
      · rcases h with h | ⟨j, h1, h2⟩
        · exact Or.inl h
        · exact Or.inr ⟨j, by omega, h2⟩
      · exact Or.inr ⟨k, by omega, rfl⟩
    · rcases h with h | ⟨j, h1, h2⟩
      · exact Or.inl h
      · exact Or.inr ⟨j, by omega, h2⟩
theorem zNb_ix {f : Nat → Int64} {st : Int32} (h : ¬ (zNb f st 10).1 = -1) : (zNb f st 10).1 = nI (zNb f st 10).1.toNatClampNeg ∧ (zNb f st 10).1.toNatClampNeg < 10 := by
  rcases zNb_in f st 10 (Nat.le_refl _) with h1 | ⟨j, h1, h2⟩
  · exact absurd h1 h
  · rw [h2, nI_clamp (by omega)]
    exact ⟨rfl, h1⟩
/-- the cables' ends are numbers of islands -/
def zEnds (I : zIt) (nc : Nat) : Prop := ∀ i, i < nc → (∃ a, a < 10 ∧ I (32 + i) 0 = nI a) ∧ ∃ b, b < 10 ∧ I (32 + i) 1 = nI b
theorem zCl_in {I : zIt} {nc i : Nat} {x : Int32} (hE : zEnds I nc) (hi : i < nc) (h : ¬ zCleads I (32 + i) x = -1) : zCleads I (32 + i) x = nI (zCleads I (32 + i) x).toNatClampNeg ∧ (zCleads I (32 + i) x).toNatClampNeg < 10 := by
  obtain ⟨⟨a, ha, ea⟩, b, hb, eb⟩ := hE i hi
  have : (∃ j, j < 10 ∧ zCleads I (32 + i) x = nI j) := by
    unfold zCleads at h ⊢
    split at h
    · rename_i h1
      rw [if_pos h1]
      split at h
      · rename_i h2; rw [if_pos h2]; exact ⟨b, hb, eb⟩
      · rename_i h2
        rw [if_neg h2]
        split at h
        · rename_i h3; rw [if_pos h3]; exact ⟨a, ha, ea⟩
        · exact absurd rfl h
    · exact absurd rfl h
  obtain ⟨j, h1, h2⟩ := this
  rw [h2, nI_clamp (by omega)]
  exact ⟨rfl, h1⟩
theorem zMt_stop {I : zIt} {nc : Nat} {f : Nat → Int64} {k : Nat} (h : (zNb (zMt I nc f k).2 (zMt I nc f k).1 10).1 = -1) : ∀ j, zMt I nc f (k + j) = zMt I nc f k := by
  intro j
  induction j with
  | zero => rfl
  | succ j ih =>
    show zMt1 I nc (zMt I nc f (k + j)) = _
    rw [ih]
    unfold zMt1
    rw [if_pos h]
theorem zfl_row (L : zLt) (κ : Nat) (v : Int64) (n : Nat) : zfl L κ n v = zs L κ (fun b => if b < n then v else L κ b) := by
  funext a b
  by_cases h : a = κ
  · subst h; simp [zfl, zs]
  · simp [zfl, zs, h]
theorem zfl_rowi (L : zIt) (κ : Nat) (v : Int32) (n : Nat) : zfl L κ n v = zs L κ (fun b => if b < n then v else L κ b) := by
  funext a b
  by_cases h : a = κ
  · subst h; simp [zfl, zs]
  · simp [zfl, zs, h]
theorem z_lt {k n : Nat} (h : ¬ nI n ≤ nI k) (hk : k < 2 ^ 31) : k < n := by
  rcases Nat.lt_or_ge k n with q | q
  · exact q
  · exact absurd (nI_le q hk) h
theorem z_ge {k n : Nat} (h : nI n ≤ nI k) (hn : n < 2 ^ 31) (_ : k < 2 ^ 31) : n ≤ k := by
  rcases Nat.lt_or_ge k n with q | q
  · exact absurd h (nI_ge q hn)
  · exact q
