def zLow (f : Nat → Int32) (a b : Nat) (x : Int32) : Nat → Int32 :=
  if f a = -1 then f else if f b = -1 then zs f b (f a + x) else if f b ≤ f a + x then f else zs f b (f a + x)
def zPr1 (I : zIt) (f : Nat → Int32) (i : Nat) : Nat → Int32 :=
  if I (32 + i) 5 = 0 then zLow (zLow f (I (32 + i) 0).toNatClampNeg (I (32 + i) 1).toNatClampNeg (I (32 + i) 4)) (I (32 + i) 1).toNatClampNeg (I (32 + i) 0).toNatClampNeg (I (32 + i) 4) else f
def zPr (I : zIt) (f : Nat → Int32) : Nat → Nat → Int32
  | 0 => f
  | k + 1 => zPr1 I (zPr I f k) k
/-- rounds: the first one is 1 -/
def zPrr (I : zIt) (nc : Nat) (f : Nat → Int32) : Nat → Nat → Int32
  | 0 => f
  | k + 1 => zPr I (zPrr I nc f k) nc
def zS0 (f : Nat → Int32) (u : Nat) : Nat → Int32 := zs (fun b => if b < 10 then -1 else f b) u 0
def zRe1 (I : zIt) (r : Int32) (i : Nat) : Int32 :=
  if I (32 + i) 5 = 0 then (if r &&& (1 <<< (I (32 + i) 0 &&& 31) ||| 1 <<< (I (32 + i) 1 &&& 31)) = 0 then r else r ||| (1 <<< (I (32 + i) 0 &&& 31) ||| 1 <<< (I (32 + i) 1 &&& 31))) else r
def zRe (I : zIt) (r : Int32) : Nat → Int32
  | 0 => r
  | k + 1 => zRe1 I (zRe I r k) k
def zRer (I : zIt) (nc : Nat) (r : Int32) : Nat → Int32
  | 0 => r
  | k + 1 => zRe I (zRer I nc r k) nc
def zRf1 (code : Int32) (q : Nat × (Nat → Int32)) (j : Nat) : Nat × (Nat → Int32) := if q.2 j = code then q else (q.1 + 1, zs q.2 q.1 (q.2 j))
def zRf (code : Int32) (f : Nat → Int32) : Nat → Nat × (Nat → Int32)
  | 0 => (0, f)
  | k + 1 => zRf1 code (zRf code f k) k
theorem zRf_le (code : Int32) (f : Nat → Int32) : ∀ k, (zRf code f k).1 ≤ k := by
  intro k
  induction k with
  | zero => exact Nat.le_refl 0
  | succ k ih =>
    show (zRf1 code (zRf code f k) k).1 ≤ k + 1
    unfold zRf1
    split
    · omega
    · simp only; omega
/-- a trader's way, as it lies in its cells κ (way) and ρ (row) -/
def zWay (I : zIt) (κ ρ : Nat) (len P D : Int32) (row : Nat → Int32) : zIt := fun a => if a = κ then (fun b => if b = 1 then len else if b = 2 then P else if b = 3 then D else I κ b) else if a = ρ then row else I a
theorem zWay_ne {I : zIt} {κ ρ a : Nat} {len P D : Int32} {row : Nat → Int32} (h1 : a ≠ κ) (h2 : a ≠ ρ) : zWay I κ ρ len P D row a = I a := by simp [zWay, h1, h2]
theorem zWay_row {I : zIt} {κ ρ : Nat} {len P D : Int32} {row : Nat → Int32} (h : ρ ≠ κ) : zWay I κ ρ len P D row ρ = row := by simp [zWay, h]
theorem zWay_1 {I : zIt} {κ ρ : Nat} {len P D : Int32} {row : Nat → Int32} : zWay I κ ρ len P D row κ 1 = len := by simp [zWay]
theorem zWay_2 {I : zIt} {κ ρ : Nat} {len P D : Int32} {row : Nat → Int32} : zWay I κ ρ len P D row κ 2 = P := by simp [zWay]
theorem zWay_3 {I : zIt} {κ ρ : Nat} {len P D : Int32} {row : Nat → Int32} : zWay I κ ρ len P D row κ 3 = D := by simp [zWay]
theorem zWay_set {I : zIt} {κ ρ : Nat} {a b c : Int32} (h : ρ ≠ κ) : zu (zu (zu I κ 1 a) κ 2 b) κ 3 c = zWay I κ ρ a b c (I ρ) := by
  funext x y
  by_cases h1 : x = κ
  · subst h1
    by_cases h2 : y = 3
    · subst h2; simp [zu, zWay]
    · by_cases h3 : y = 2
      · subst h3; simp [zu, zWay]
      · by_cases h4 : y = 1
        · subst h4; simp [zu, zWay]
        · simp [zu, zWay, h2, h3, h4]
  · by_cases h2 : x = ρ
    · subst h2; simp [zu, zWay, h1]
    · simp [zu, zWay, h1, h2]
theorem zWay_again {I : zIt} {κ ρ : Nat} {len P D a b c : Int32} {row : Nat → Int32} (h : ρ ≠ κ) : zu (zu (zu (zWay I κ ρ len P D row) κ 1 a) κ 2 b) κ 3 c = zWay I κ ρ a b c row := by
  rw [zWay_set h, zWay_row h]
  funext x y
  by_cases h1 : x = κ
  · subst h1
    by_cases y1 : y = 1
    · simp [zWay, y1]
    · by_cases y2 : y = 2
      · simp [zWay, y2]
      · by_cases y3 : y = 3
        · simp [zWay, y3]
        · simp [zWay, y1, y2, y3]
  · by_cases h2 : x = ρ
    · subst h2; simp [zWay, h1]
    · simp [zWay, h1, h2]
theorem zWay_add {I : zIt} {κ ρ j : Nat} {len P D q a b c : Int32} {row : Nat → Int32} (h : ρ ≠ κ) : zu (zu (zu (zu (zWay I κ ρ len P D row) ρ j q) κ 1 a) κ 2 b) κ 3 c = zWay I κ ρ a b c (zs row j q) := by
  have e : zu (zWay I κ ρ len P D row) ρ j q = zWay I κ ρ len P D (zs row j q) := by
    rw [zu_row, zWay_row h]
    funext x y
    by_cases h1 : x = ρ
    · subst h1; simp [zWay, zs, h]
    · by_cases h2 : x = κ
      · subst h2; simp [zWay, zs, h1]
      · simp [zWay, zs, h1, h2]
  rw [e, zWay_again h]
