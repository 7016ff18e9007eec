theorem zCl_c {I I' : zIt} {κ : Nat} (h : I' κ = I κ) (x : Int32) : zCleads I' κ x = zCleads I κ x := by unfold zCleads; rw [h]
theorem zCost_c {I I' : zIt} {κ : Nat} (h : I' κ = I κ) : zCost I' κ = zCost I κ := by unfold zCost; rw [h]
theorem zSp_c {I I' : zIt} {nc : Nat} (h : ∀ i, i < nc → I' (32 + i) = I (32 + i)) (u : Nat) (f : Nat → Int64) : ∀ k, k ≤ nc → zSp I' u f k = zSp I u f k := by
  intro k
  induction k with
  | zero => intro _; rfl
  | succ k ih =>
    intro hk
    show zSp1 I' u (zSp I' u f k) k = zSp1 I u (zSp I u f k) k
    rw [ih (by omega)]
    unfold zSp1
    rw [zCl_c (h k (by omega)), zCost_c (h k (by omega))]
theorem zMt_c {I I' : zIt} {nc : Nat} (h : ∀ i, i < nc → I' (32 + i) = I (32 + i)) (f : Nat → Int64) : ∀ k, zMt I' nc f k = zMt I nc f k := by
  intro k
  induction k with
  | zero => rfl
  | succ k ih =>
    show zMt1 I' nc (zMt I' nc f k) = zMt1 I nc (zMt I nc f k)
    rw [ih]
    unfold zMt1
    rw [zSp_c h _ _ nc (Nat.le_refl _)]
theorem zLbc_c {I I' : zIt} {nc : Nat} (h : ∀ i, i < nc → I' (32 + i) = I (32 + i)) (f : Nat → Int64) (u : Nat) : zfst (zLbc I' f u) nc = zfst (zLbc I f u) nc := by
  refine zfst_congr fun j hj => ?_
  unfold zLbc
  rw [zCl_c (h j hj), zCost_c (h j hj)]
theorem zEnds_c {I I' : zIt} {nc : Nat} (h : ∀ i, i < nc → I' (32 + i) = I (32 + i)) (hE : zEnds I nc) : zEnds I' nc := fun i hi => by rw [h i hi]; exact hE i hi
/-- going a way: here, how many cables, prices, delays, the row -/
abbrev zFq : Type := Nat × Nat × Int32 × Int32 × (Nat → Int32)
def zFw1 (I : zIt) (nc : Nat) (f : Nat → Int64) (v : Nat) (q : zFq) : zFq :=
  if q.1 = v then q else match zfst (zLbc I f q.1) nc with
    | none => q
    | some c => ((zCleads I (32 + c) (nI q.1)).toNatClampNeg, q.2.1 + 1, q.2.2.1 + I (32 + c) 4, q.2.2.2.1 + I (32 + c) 3, zs q.2.2.2.2 q.2.1 (nI c))
def zFw (I : zIt) (nc : Nat) (f : Nat → Int64) (v u : Nat) (row : Nat → Int32) : Nat → zFq
  | 0 => (u, 0, 0, 0, row)
  | k + 1 => zFw1 I nc f v (zFw I nc f v u row k)
theorem zFw_stop {I : zIt} {nc : Nat} {f : Nat → Int64} {v u : Nat} {row : Nat → Int32} {k : Nat} (h : zFw1 I nc f v (zFw I nc f v u row k) = zFw I nc f v u row k) : ∀ j, zFw I nc f v u row (k + j) = zFw I nc f v u row k := by
  intro j
  induction j with
  | zero => rfl
  | succ j ih =>
    show zFw1 I nc f v (zFw I nc f v u row (k + j)) = _
    rw [ih, h]
theorem zFw_at {I : zIt} {nc : Nat} {f : Nat → Int64} {v u : Nat} {row : Nat → Int32} {k : Nat} (h : (zFw I nc f v u row k).1 = v) (hk : k ≤ 9) : zFw I nc f v u row 9 = zFw I nc f v u row k := by
  have h1 := zFw_stop (I := I) (nc := nc) (f := f) (v := v) (u := u) (row := row) (k := k) (by unfold zFw1; rw [if_pos h]) (9 - k)
  rw [show k + (9 - k) = 9 by omega] at h1
  exact h1
theorem zFw_no {I : zIt} {nc : Nat} {f : Nat → Int64} {v u : Nat} {row : Nat → Int32} {k : Nat} (h : zfst (zLbc I f (zFw I nc f v u row k).1) nc = none) (hk : k ≤ 9) : zFw I nc f v u row 9 = zFw I nc f v u row k := by
  have h1 := zFw_stop (I := I) (nc := nc) (f := f) (v := v) (u := u) (row := row) (k := k) (by unfold zFw1; rw [h]; split <;> rfl) (9 - k)
  rw [show k + (9 - k) = 9 by omega] at h1
  exact h1
/-- the way's cells behind findWay -/
def zFound (I : zIt) (nc : Nat) (f : Nat → Int64) (u v t : Nat) : zIt :=
  if f u = zUNR then zWay I (80 + t) (96 + t) (-1) (-1) (-1) (I (96 + t))
  else zWay I (80 + t) (96 + t) (nI (zFw I nc f v u (I (96 + t)) 9).2.1) (zFw I nc f v u (I (96 + t)) 9).2.2.1 (zFw I nc f v u (I (96 + t)) 9).2.2.2.1 (zFw I nc f v u (I (96 + t)) 9).2.2.2.2
theorem nI_inj {a b : Nat} (h : nI a = nI b) (ha : a < 2 ^ 31) (hb : b < 2 ^ 31) : a = b := by
  rw [← nI_clamp ha, ← nI_clamp hb, h]
theorem nI_ne1 {k : Nat} (hk : k < 2 ^ 31) : ¬ nI k = -1 := by
  intro h
  have h1 := nI_toInt hk
  rw [h] at h1
  have h2 : (-1 : Int32).toInt = -1 := by decide
  omega
theorem zoi_some {o : Option Nat} (h : ¬ zoi o = -1) : ∃ c, o = some c ∧ zoi o = nI c := by
  cases o with
  | none => exact absurd rfl h
  | some c => exact ⟨c, rfl, rfl⟩
theorem zoi_none {o : Option Nat} {n : Nat} (h : zoi o = -1) (hn : ∀ c, o = some c → c < n) (hn2 : n < 2 ^ 31) : o = none := by
  cases o with
  | none => rfl
  | some c => exact absurd h (nI_ne1 (by have := hn c rfl; omega))
