theorem zNf_eq {I I' : zIt} (h : I' 1 3 = I 1 3) : zNf I' = zNf I := by unfold zNf; rw [h]
abbrev zSc (I : zIt) (nc κ : Nat) : Prop := I κ 5 = -1 ∨ (I κ 5 = nI (I κ 5).toNatClampNeg ∧ (I κ 5).toNatClampNeg < nc)
theorem zSc_c {I I' : zIt} {nc κ : Nat} (h : I' κ 5 = I κ 5) (hs : zSc I nc κ) : zSc I' nc κ := by unfold zSc; rw [h]; exact hs
theorem zBeg_ne {I : zIt} {κ κ' k : Nat} {a b : Int32} (h : ¬ (κ' = κ ∧ (k = 3 ∨ k = 4))) : zBeg I κ a b κ' k = I κ' k := by
  unfold zBeg
  rw [zu_ne _ _ (fun h2 => h ⟨h2.1, Or.inr h2.2⟩), zu_ne _ _ (fun h2 => h ⟨h2.1, Or.inl h2.2⟩)]
abbrev zNfo (I : zIt) : Prop := I 1 3 = nI (zNf I) ∧ zNf I ≤ 128
theorem zNfo_c {I I' : zIt} (h : I' 1 3 = I 1 3) (hf : zNfo I) : zNfo I' := by unfold zNfo; rw [zNf_eq h, h]; exact hf
/-- a cable's fields are as the chart takes them -/
def zCb (I : zIt) (κ : Nat) : Prop := ∃ a b n d p : Nat, a < 10 ∧ b < 10 ∧ 1 ≤ n ∧ n ≤ 8 ∧ 1 ≤ d ∧ d ≤ 500 ∧ p ≤ 9999 ∧ I κ 0 = nI a ∧ I κ 1 = nI b ∧ I κ 2 = nI n ∧ I κ 3 = nI d ∧ I κ 4 = nI p
/-- the class's numbers, at every moment of a call -/
def zInv (ni nc ns nt : Nat) (I : zIt) : Prop := (I 0 1 = nI ni ∧ I 1 1 = nI nc ∧ I 0 4 = nI ns ∧ I 0 6 = nI nt) ∧ zNfo I ∧ (∀ i, i < nc → zCb I (32 + i)) ∧
  (∀ i, i < ns → zSc I nc (48 + i) ∧ ∃ v, 1 ≤ v ∧ v ≤ 20 ∧ I (48 + i) 0 = nI v) ∧ ∀ t, t < nt → ∃ u v, u < 10 ∧ v < 10 ∧ I (64 + t) 0 = nI u ∧ I (64 + t) 1 = nI v
/-- where a change leaves those numbers as they are -/
def zHl (κ k : Nat) : Prop := ¬ (κ = 0 ∧ (k = 1 ∨ k = 4 ∨ k = 6)) ∧ ¬ (κ = 1 ∧ (k = 1 ∨ k = 3)) ∧ ¬ (32 ≤ κ ∧ κ < 48 ∧ k < 5) ∧ ¬ (48 ≤ κ ∧ κ < 64 ∧ (k = 0 ∨ k = 5)) ∧ ¬ (64 ≤ κ ∧ κ < 80 ∧ k < 2)
theorem zInv_same {ni nc ns nt : Nat} {I I' : zIt} (hb : nc ≤ 16 ∧ ns ≤ 4 ∧ nt ≤ 12) (h : zInv ni nc ns nt I) (e0 : I' 0 1 = I 0 1 ∧ I' 0 4 = I 0 4 ∧ I' 0 6 = I 0 6) (e1 : I' 1 1 = I 1 1) (e2 : zNfo I') (e3 : ∀ i, i < 16 → ∀ k, k < 5 → I' (32 + i) k = I (32 + i) k)
    (e4 : ∀ i, i < 16 → I' (48 + i) 0 = I (48 + i) 0 ∧ I' (48 + i) 5 = I (48 + i) 5) (e5 : ∀ i, i < 16 → I' (64 + i) 0 = I (64 + i) 0 ∧ I' (64 + i) 1 = I (64 + i) 1) : zInv ni nc ns nt I' := by
  obtain ⟨⟨h1, h2, h3, h4⟩, h5, h6, h7, h8⟩ := h
  refine ⟨⟨by rw [e0.1, h1], by rw [e1, h2], by rw [e0.2.1, h3], by rw [e0.2.2, h4]⟩, e2, fun i hi => ?_, fun i hi => ?_, fun t ht => ?_⟩
  · obtain ⟨a, b, n, d, p, g⟩ := h6 i hi
    refine ⟨a, b, n, d, p, ?_⟩
    rw [e3 i (by omega) 0 (by omega), e3 i (by omega) 1 (by omega), e3 i (by omega) 2 (by omega), e3 i (by omega) 3 (by omega), e3 i (by omega) 4 (by omega)]
    exact g
  · obtain ⟨g, v, g2⟩ := h7 i hi
    refine ⟨zSc_c (e4 i (by omega)).2 g, v, ?_⟩
    rw [(e4 i (by omega)).1]
    exact g2
  · obtain ⟨u, v, g⟩ := h8 t ht
    refine ⟨u, v, ?_⟩
    rw [(e5 t (by omega)).1, (e5 t (by omega)).2]
    exact g
theorem zInv_zu {ni nc ns nt : Nat} {I : zIt} (hb : nc ≤ 16 ∧ ns ≤ 4 ∧ nt ≤ 12) {κ k : Nat} {x : Int32} (hh : zHl κ k) (h : zInv ni nc ns nt I) : zInv ni nc ns nt (zu I κ k x) := by
  obtain ⟨g1, g2, g3, g4, g5⟩ := hh
  have z0 : ∀ a b, ¬ (a = κ ∧ b = k) → zu I κ k x a b = I a b := fun a b q => zu_ne _ _ q
  refine zInv_same hb h ⟨z0 _ _ (by omega), z0 _ _ (by omega), z0 _ _ (by omega)⟩ (z0 _ _ (by omega)) (zNfo_c (z0 _ _ (by omega)) h.2.1) (fun i hi j hj => z0 _ _ (by omega)) (fun i hi => ⟨z0 _ _ (by omega), z0 _ _ (by omega)⟩) (fun i hi => ⟨z0 _ _ (by omega), z0 _ _ (by omega)⟩)
theorem zInv_zBeg {ni nc ns nt : Nat} {I : zIt} (hb : nc ≤ 16 ∧ ns ≤ 4 ∧ nt ≤ 12) {i : Nat} {a b : Int32} (hi : i < ns) (h : zInv ni nc ns nt I) : zInv ni nc ns nt (zBeg I (48 + i) a b) :=
  zInv_zu hb (by unfold zHl; omega) (zInv_zu hb (by unfold zHl; omega) h)
theorem zInv_zArr {ni nc ns nt : Nat} {I : zIt} (hb : nc ≤ 16 ∧ ns ≤ 4 ∧ nt ≤ 12) {i : Nat} (hi : i < ns) (h : zInv ni nc ns nt I) : zInv ni nc ns nt (zArr I (48 + i)) := by
  unfold zArr
  split
  · exact zInv_zBeg hb hi h
  · exact zInv_zBeg hb hi h
theorem zRmv_nf (I : zIt) (c : Nat) (s : Int32) : zRmv I c s 1 3 = nI (zRf (8 * nI c + s) (I 6) (zNf I)).1 := by
  unfold zRmv
  rw [zu_ne _ _ (by omega), zu_self]
theorem zInv_zRmv {ni nc ns nt : Nat} {I : zIt} (hb : nc ≤ 16 ∧ ns ≤ 4 ∧ nt ≤ 12) {c : Nat} {s : Int32} (hc : c < nc) (h : zInv ni nc ns nt I) : zInv ni nc ns nt (zRmv I c s) := by
  have z0 : ∀ a b, a ≠ 6 → ¬ (a = 1 ∧ b = 3) → ¬ (a = 32 + c ∧ b = 5) → zRmv I c s a b = I a b := fun a b q1 q2 q3 => zRmv_ne q1 q2 q3
  have hle := zRf_le (8 * nI c + s) (I 6) (zNf I)
  have h128 := h.2.1.2
  refine zInv_same hb h ⟨z0 _ _ (by omega) (by omega) (by omega), z0 _ _ (by omega) (by omega) (by omega), z0 _ _ (by omega) (by omega) (by omega)⟩ (z0 _ _ (by omega) (by omega) (by omega)) ?_ (fun i hi j hj => z0 _ _ (by omega) (by omega) (by omega)) (fun i hi => ⟨z0 _ _ (by omega) (by omega) (by omega), z0 _ _ (by omega) (by omega) (by omega)⟩) (fun i hi => ⟨z0 _ _ (by omega) (by omega) (by omega), z0 _ _ (by omega) (by omega) (by omega)⟩)
  unfold zNfo zNf
  rw [zRmv_nf, nI_clamp (by omega)]
  exact ⟨rfl, by omega⟩
theorem zInv_zMend {ni nc ns nt : Nat} {I : zIt} (hb : nc ≤ 16 ∧ ns ≤ 4 ∧ nt ≤ 12) {i : Nat} (hi : i < ns) (h : zInv ni nc ns nt I) : zInv ni nc ns nt (zMend I (48 + i)) := by
  unfold zMend
  split
  · rename_i h1
    have hc := (h.2.2.2.1 i hi).1.resolve_left h1.1
    exact zInv_zBeg hb hi (zInv_zu hb (by unfold zHl; omega) (zInv_zu hb (by unfold zHl; omega) (zInv_zRmv hb hc.2 h)))
  · exact zInv_zBeg hb hi h
theorem zInv_zGo {ni nc ns nt : Nat} {I : zIt} (hb : nc ≤ 16 ∧ ns ≤ 4 ∧ nt ≤ 12) {i : Nat} (hi : i < ns) (h : zInv ni nc ns nt I) : zInv ni nc ns nt (zGo I (48 + i)) := by
  unfold zGo
  split
  · exact zInv_zArr hb hi h
  · split
    · exact zInv_zBeg hb hi h
    · exact zInv_zMend hb hi h
theorem zInv_zWork {ni nc ns nt : Nat} {I : zIt} (hb : nc ≤ 16 ∧ ns ≤ 4 ∧ nt ≤ 12) {i : Nat} (hi : i < ns) (h : zInv ni nc ns nt I) : zInv ni nc ns nt (zWork I (48 + i)) := by
  unfold zWork
  split
  · exact h
  · split
    · exact zInv_zGo hb hi (zInv_zu hb (by unfold zHl; omega) h)
    · exact zInv_zu hb (by unfold zHl; omega) h
theorem zInv_zWay {ni nc ns nt : Nat} {I : zIt} (hb : nc ≤ 16 ∧ ns ≤ 4 ∧ nt ≤ 12) {t : Nat} {a b c : Int32} {r : Nat → Int32} (h : zInv ni nc ns nt I) : zInv ni nc ns nt (zWay I (80 + t) (96 + t) a b c r) := by
  have z0 : ∀ x y, x < 80 → zWay I (80 + t) (96 + t) a b c r x y = I x y := fun x y q => by rw [zWay_ne (by omega) (by omega)]
  exact zInv_same hb h ⟨z0 _ _ (by omega), z0 _ _ (by omega), z0 _ _ (by omega)⟩ (z0 _ _ (by omega)) (zNfo_c (z0 _ _ (by omega)) h.2.1) (fun i hi j hj => z0 _ _ (by omega)) (fun i hi => ⟨z0 _ _ (by omega), z0 _ _ (by omega)⟩) (fun i hi => ⟨z0 _ _ (by omega), z0 _ _ (by omega)⟩)
theorem zInv_zFound {ni nc ns nt : Nat} {I : zIt} (hb : nc ≤ 16 ∧ ns ≤ 4 ∧ nt ≤ 12) {f : Nat → Int64} {u v t : Nat} (h : zInv ni nc ns nt I) : zInv ni nc ns nt (zFound I nc f u v t) := by
  unfold zFound
  split
  · exact zInv_zWay hb h
  · exact zInv_zWay hb h
theorem zInv_zSetI {ni nc ns nt : Nat} {I : zIt} (hb : nc ≤ 16 ∧ ns ≤ 4 ∧ nt ≤ 12) {t : Nat} (ht : t < nt) (h : zInv ni nc ns nt I) : zInv ni nc ns nt (zSetI I t) := by
  unfold zSetI
  split
  · exact zInv_zu hb (by unfold zHl; omega) (zInv_zu hb (by unfold zHl; omega) h)
  · split
    · exact zInv_zu hb (by unfold zHl; omega) (zInv_zu hb (by unfold zHl; omega) h)
    · exact h
theorem zInv_ends {ni nc ns nt : Nat} {I : zIt} (h : zInv ni nc ns nt I) : zEnds I nc := fun i hi => by
  obtain ⟨a, b, n, d, p, h1, h2, -, -, -, -, -, h3, h4, -⟩ := h.2.2.1 i hi
  exact ⟨⟨a, h1, h3⟩, b, h2, h4⟩
/-- the cables alone -/
def zCbs (I : zIt) (nc : Nat) : Prop := ∀ i, i < nc → zCb I (32 + i)
/-- on cables as the chart takes them a way that is there is gone to its end in nine cables (proved in the part on ways) -/
def zFin (nc : Nat) : Prop := ∀ (I : zIt), zCbs I nc → ∀ (u v : Nat) (f : Nat → Int64) (row : Nat → Int32), u < 10 → v < 10 → ¬ (zMt I nc (zM0 f v) 10).2 u = zUNR → (zFw I nc (zMt I nc (zM0 f v) 10).2 v u row 9).1 = v
