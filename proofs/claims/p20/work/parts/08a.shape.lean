/-! THE SHAPES: which keys there are, and what refers to what. Class: 0 chart, 1 net, 2 islands, 3 cables, 4 ships, 5 traders, 6 faultsByAge, 7 costs, 8 sums;
16+i island, 32+i cable, 48+i ship, 64+i trader, 80+i its way, 96+i the way's row. Reference: 128, its array of field k: 128+k. 160: the law's 'out'. -/
def zcT : List (Nat × (Nat × Nat)) := [(0, (6, 0)), (1, (2, 0)), (2, (12, 10)), (3, (11, 16)), (4, (13, 4)), (5, (14, 12)), (6, (8, 128)), (7, (9, 10)), (8, (8, 10))]
def zcP : List (Nat × Nat × Nat) := [(0, 0, 2), (0, 2, 1), (0, 3, 4), (0, 5, 5), (1, 0, 3), (1, 2, 6), (1, 4, 7), (1, 5, 8)]
def zcls (ni nc ns nt : Nat) (ty : zTyp) (P : zPt) : Prop := ((∀ q ∈ zcT, ty q.1 = some q.2) ∧ ∀ q ∈ zcP, P q.1 q.2.1 = some q.2.2) ∧ (ni ≤ 10 ∧ nc ≤ 16 ∧ ns ≤ 4 ∧ nt ≤ 12) ∧
  (∀ i, i < ni → ty (16 + i) = some (1, 0) ∧ P 2 i = some (16 + i)) ∧ (∀ i, i < nc → ty (32 + i) = some (0, 0) ∧ P 3 i = some (32 + i)) ∧ (∀ i, i < ns → ty (48 + i) = some (3, 0) ∧ P 4 i = some (48 + i)) ∧
  ∀ i, i < nt → (ty (64 + i) = some (4, 0) ∧ P 5 i = some (64 + i)) ∧ (ty (80 + i) = some (5, 0) ∧ P (64 + i) 6 = some (80 + i)) ∧ ty (96 + i) = some (8, 9) ∧ P (80 + i) 0 = some (96 + i)
section ZCL
variable {ni nc ns nt : Nat} {ty : zTyp} {P : zPt}
theorem zc_t0 (h : zcls ni nc ns nt ty P) : ty 0 = some (6, 0) := h.1.1 (0, (6, 0)) (by decide)
theorem zc_t1 (h : zcls ni nc ns nt ty P) : ty 1 = some (2, 0) := h.1.1 (1, (2, 0)) (by decide)
theorem zc_t2 (h : zcls ni nc ns nt ty P) : ty 2 = some (12, 10) := h.1.1 (2, (12, 10)) (by decide)
theorem zc_t3 (h : zcls ni nc ns nt ty P) : ty 3 = some (11, 16) := h.1.1 (3, (11, 16)) (by decide)
theorem zc_t4 (h : zcls ni nc ns nt ty P) : ty 4 = some (13, 4) := h.1.1 (4, (13, 4)) (by decide)
theorem zc_t5 (h : zcls ni nc ns nt ty P) : ty 5 = some (14, 12) := h.1.1 (5, (14, 12)) (by decide)
theorem zc_t6 (h : zcls ni nc ns nt ty P) : ty 6 = some (8, 128) := h.1.1 (6, (8, 128)) (by decide)
theorem zc_t7 (h : zcls ni nc ns nt ty P) : ty 7 = some (9, 10) := h.1.1 (7, (9, 10)) (by decide)
theorem zc_t8 (h : zcls ni nc ns nt ty P) : ty 8 = some (8, 10) := h.1.1 (8, (8, 10)) (by decide)
theorem zc_p00 (h : zcls ni nc ns nt ty P) : P 0 0 = some 2 := h.1.2 (0, 0, 2) (by decide)
theorem zc_p02 (h : zcls ni nc ns nt ty P) : P 0 2 = some 1 := h.1.2 (0, 2, 1) (by decide)
theorem zc_p03 (h : zcls ni nc ns nt ty P) : P 0 3 = some 4 := h.1.2 (0, 3, 4) (by decide)
theorem zc_p05 (h : zcls ni nc ns nt ty P) : P 0 5 = some 5 := h.1.2 (0, 5, 5) (by decide)
theorem zc_p10 (h : zcls ni nc ns nt ty P) : P 1 0 = some 3 := h.1.2 (1, 0, 3) (by decide)
theorem zc_p12 (h : zcls ni nc ns nt ty P) : P 1 2 = some 6 := h.1.2 (1, 2, 6) (by decide)
theorem zc_p14 (h : zcls ni nc ns nt ty P) : P 1 4 = some 7 := h.1.2 (1, 4, 7) (by decide)
theorem zc_p15 (h : zcls ni nc ns nt ty P) : P 1 5 = some 8 := h.1.2 (1, 5, 8) (by decide)
theorem zc_b (h : zcls ni nc ns nt ty P) : ni ≤ 10 ∧ nc ≤ 16 ∧ ns ≤ 4 ∧ nt ≤ 12 := h.2.1
theorem zc_tI (h : zcls ni nc ns nt ty P) {i : Nat} (hi : i < ni) : ty (16 + i) = some (1, 0) := (h.2.2.1 i hi).1
theorem zc_pI (h : zcls ni nc ns nt ty P) {i : Nat} (hi : i < ni) : P 2 i = some (16 + i) := (h.2.2.1 i hi).2
theorem zc_tC (h : zcls ni nc ns nt ty P) {i : Nat} (hi : i < nc) : ty (32 + i) = some (0, 0) := (h.2.2.2.1 i hi).1
theorem zc_pC (h : zcls ni nc ns nt ty P) {i : Nat} (hi : i < nc) : P 3 i = some (32 + i) := (h.2.2.2.1 i hi).2
theorem zc_tS (h : zcls ni nc ns nt ty P) {i : Nat} (hi : i < ns) : ty (48 + i) = some (3, 0) := (h.2.2.2.2.1 i hi).1
theorem zc_pS (h : zcls ni nc ns nt ty P) {i : Nat} (hi : i < ns) : P 4 i = some (48 + i) := (h.2.2.2.2.1 i hi).2
theorem zc_tT (h : zcls ni nc ns nt ty P) {i : Nat} (hi : i < nt) : ty (64 + i) = some (4, 0) := (h.2.2.2.2.2 i hi).1.1
theorem zc_pT (h : zcls ni nc ns nt ty P) {i : Nat} (hi : i < nt) : P 5 i = some (64 + i) := (h.2.2.2.2.2 i hi).1.2
theorem zc_tW (h : zcls ni nc ns nt ty P) {i : Nat} (hi : i < nt) : ty (80 + i) = some (5, 0) := (h.2.2.2.2.2 i hi).2.1.1
theorem zc_pW (h : zcls ni nc ns nt ty P) {i : Nat} (hi : i < nt) : P (64 + i) 6 = some (80 + i) := (h.2.2.2.2.2 i hi).2.1.2
theorem zc_tR (h : zcls ni nc ns nt ty P) {i : Nat} (hi : i < nt) : ty (96 + i) = some (8, 9) := (h.2.2.2.2.2 i hi).2.2.1
theorem zc_pR (h : zcls ni nc ns nt ty P) {i : Nat} (hi : i < nt) : P (80 + i) 0 = some (96 + i) := (h.2.2.2.2.2 i hi).2.2.2
end ZCL
def zrT : List (Nat × (Nat × Nat)) := [(128, (7, 0)), (131, (8, 10)), (132, (8, 10)), (134, (8, 16)), (135, (8, 16)), (136, (8, 16)), (137, (8, 16)), (138, (8, 16)), (140, (8, 128)), (142, (8, 4)), (143, (8, 4)), (144, (8, 4)), (145, (8, 4)), (146, (8, 4)), (147, (8, 4)), (148, (8, 4)), (150, (8, 12)), (151, (8, 12)), (152, (8, 12)), (153, (8, 12)), (154, (8, 12)), (155, (8, 12)), (156, (9, 48)), (157, (9, 10)), (158, (10, 16))]
def zrP : List Nat := [3, 4, 6, 7, 8, 9, 10, 12, 14, 15, 16, 17, 18, 19, 20, 22, 23, 24, 25, 26, 27, 28, 29, 30]
def zref (ty : zTyp) (P : zPt) : Prop := (∀ q ∈ zrT, ty q.1 = some q.2) ∧ ∀ k ∈ zrP, P 128 k = some (128 + k)
theorem zr_t {ty : zTyp} {P : zPt} (h : zref ty P) (κ a b : Nat) (hm : (κ, (a, b)) ∈ zrT) : ty κ = some (a, b) := h.1 _ hm
theorem zr_p {ty : zTyp} {P : zPt} (h : zref ty P) (k : Nat) (hm : k ∈ zrP) : P 128 k = some (128 + k) := h.2 _ hm
theorem zu_zs {α : Type} (T : Nat → Nat → α) (κ : Nat) (f : Nat → α) (k : Nat) (x : α) : zu (zs T κ f) κ k x = zs T κ (zs f k x) := by
  funext a b
  by_cases h : a = κ
  · subst h
    by_cases h2 : b = k
    · subst h2; simp [zu, zs]
    · simp [zu, zs, h2]
  · simp [zu, zs, h]
theorem zs_zs {α : Type} (T : Nat → α) (κ : Nat) (f g : α) : zs (zs T κ f) κ g = zs T κ g := by
  funext a
  by_cases h : a = κ <;> simp [zs, h]
theorem zu_row {α : Type} (T : Nat → Nat → α) (κ k : Nat) (x : α) : zu T κ k x = zs T κ (zs (T κ) k x) := by
  funext a b
  by_cases h : a = κ
  · subst h
    by_cases h2 : b = k
    · subst h2; simp [zu, zs]
    · simp [zu, zs, h2]
  · simp [zu, zs, h]
theorem zs_id {α : Type} (T : Nat → α) (κ : Nat) : zs T κ (T κ) = T := by
  funext a
  by_cases h : a = κ
  · subst h; simp [zs]
  · simp [zs, h]
/-- the first number below n with p -/
def zfst (p : Nat → Bool) (n : Nat) : Option Nat := (List.range n).find? p
theorem zfst_none {p : Nat → Bool} {n : Nat} (h : ∀ j, j < n → p j = false) : zfst p n = none := by
  unfold zfst
  rw [List.find?_eq_none]
  intro j hj
  rw [h j (List.mem_range.mp hj)]
  decide
theorem zfst_some {p : Nat → Bool} {n k : Nat} (hk : k < n) (hp : p k = true) (h : ∀ j, j < k → p j = false) : zfst p n = some k := by
  unfold zfst
  rw [List.find?_range_eq_some]
  exact ⟨hp, List.mem_range.mpr hk, fun j hj => by rw [h j hj]; rfl⟩
theorem zfst_spec {p : Nat → Bool} {n k : Nat} (h : zfst p n = some k) : k < n ∧ p k = true ∧ ∀ j, j < k → p j = false := by
  unfold zfst at h
  rw [List.find?_range_eq_some] at h
  exact ⟨List.mem_range.mp h.2.1, h.1, fun j hj => by have := h.2.2 j hj; simpa using this⟩
theorem zfst_no {p : Nat → Bool} {n : Nat} (h : zfst p n = none) : ∀ j, j < n → p j = false := by
  unfold zfst at h
  rw [List.find?_eq_none] at h
  intro j hj
  have := h j (List.mem_range.mpr hj)
  simpa using this
theorem zfst_congr {p q : Nat → Bool} {n : Nat} (h : ∀ j, j < n → p j = q j) : zfst p n = zfst q n := by
  cases hq : zfst q n with
  | none => exact zfst_none fun j hj => (h j hj).trans (zfst_no hq j hj)
  | some k =>
    obtain ⟨h1, h2, h3⟩ := zfst_spec hq
    exact zfst_some h1 ((h k h1).trans h2) fun j hj => (h j (by omega)).trans (h3 j hj)
def zoi (o : Option Nat) : Int32 := match o with | none => -1 | some k => nI k
