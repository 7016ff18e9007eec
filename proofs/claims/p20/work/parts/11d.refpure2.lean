theorem zAcr_in {I : zIt} {nc k : Nat} (hE : zRends I nc) (hk : k < nc) (i : Int32) : zAcr I k i = nI (zAcr I k i).toNatClampNeg ∧ (zAcr I k i).toNatClampNeg < 10 := by
  obtain ⟨⟨a, ha, ea⟩, b, hb, eb⟩ := hE k hk
  unfold zAcr
  split
  · rw [eb, nI_clamp (by omega)]; exact ⟨rfl, hb⟩
  · rw [ea, nI_clamp (by omega)]; exact ⟨rfl, ha⟩
theorem z4k : ∀ q, q < 12 → ∀ j, j < 4 → 4 * nI q + nI j = nI (4 * q + j) := by decide +kernel
theorem z4k0 : ∀ q, q < 12 → 4 * nI q = nI (4 * q) := by decide +kernel
/-- an hour of one trader: the four accounts' new numbers -/
abbrev zCut (w : Int64) : Prop := ¬ lg_cmp w zFAR < 0
abbrev zLate (I : zIt) (q : Nat) (w : Int64) : Prop := ¬ zCut w ∧ ¬ lg_cmp ((w - w / 1000000 * 1000000) / 100) (I 152 q).toInt64 ≤ 0
def zCrd (I : zIt) (q : Nat) (w : Int64) : Int32 := if zCut w then I 153 q else if zLate I q w then I 154 q else 0
def zHoL (I : zIt) (Lo L : zLt) (q : Nat) (w : Int64) : zLt :=
  zu (zu (zu (zu L 156 (4 * q) (Lo 156 (4 * q) + (if zCut w then 0 else w / 1000000))) 156 (4 * q + 1) (if lg_cmp (Lo 156 (4 * q + 1) + (zCrd I q w).toInt64) (I 155 q).toInt64 ≤ 0 then Lo 156 (4 * q + 1) + (zCrd I q w).toInt64 else (I 155 q).toInt64))
    156 (4 * q + 2) (Lo 156 (4 * q + 2) + (if zCut w then 1 else 0))) 156 (4 * q + 3) (Lo 156 (4 * q + 3) + (if zLate I q w then 1 else 0))
/-- a cable of the reference's rows -/
def zRcb (I : zIt) (k : Nat) : Prop := ∃ a b n d p : Nat, a < 10 ∧ b < 10 ∧ 1 ≤ n ∧ n ≤ 8 ∧ 1 ≤ d ∧ d ≤ 500 ∧ p ≤ 9999 ∧ I 134 k = nI a ∧ I 135 k = nI b ∧ I 136 k = nI n ∧ I 137 k = nI d ∧ I 138 k = nI p
def zRv (ni nc ns nt : Nat) (I : zIt) : Prop := (I 128 2 = nI ni ∧ I 128 5 = nI nc ∧ I 128 13 = nI ns ∧ I 128 21 = nI nt) ∧ (I 128 11 = nI (zRn I) ∧ zRn I ≤ 128) ∧ (∀ k, k < nc → zRcb I k) ∧
  (∀ q, q < ns → ∃ v, 1 ≤ v ∧ v ≤ 20 ∧ I 142 q = nI v) ∧ ∀ t, t < nt → ∃ u v, u < ni ∧ v < ni ∧ I 150 t = nI u ∧ I 151 t = nI v
def zRbd (ni nc ns nt : Nat) : Prop := ni ≤ 10 ∧ nc ≤ 16 ∧ ns ≤ 4 ∧ nt ≤ 12
theorem zRv_ends {ni nc ns nt : Nat} {I : zIt} (h : zRv ni nc ns nt I) : zRends I nc := fun i hi => by
  obtain ⟨a, b, n, d, p, h1, h2, -, -, -, -, -, h3, h4, -⟩ := h.2.2.1 i hi
  exact ⟨⟨a, h1, h3⟩, b, h2, h4⟩
theorem zRv_same {ni nc ns nt : Nat} {I I' : zIt} (h : zRv ni nc ns nt I) (e1 : I' 128 2 = I 128 2 ∧ I' 128 5 = I 128 5 ∧ I' 128 13 = I 128 13 ∧ I' 128 21 = I 128 21) (e2 : I' 128 11 = nI (zRn I') ∧ zRn I' ≤ 128)
    (e3 : I' 134 = I 134 ∧ I' 135 = I 135 ∧ I' 136 = I 136 ∧ I' 137 = I 137 ∧ I' 138 = I 138) (e4 : I' 142 = I 142) (e5 : I' 150 = I 150 ∧ I' 151 = I 151) : zRv ni nc ns nt I' := by
  obtain ⟨h1, h2, h3, h4, h5⟩ := h
  refine ⟨⟨by rw [e1.1, h1.1], by rw [e1.2.1, h1.2.1], by rw [e1.2.2.1, h1.2.2.1], by rw [e1.2.2.2, h1.2.2.2]⟩, e2, fun k hk => ?_, fun q hq => ?_, fun t ht => ?_⟩
  · unfold zRcb
    rw [e3.1, e3.2.1, e3.2.2.1, e3.2.2.2.1, e3.2.2.2.2]
    exact h3 k hk
  · rw [e4]; exact h4 q hq
  · rw [e5.1, e5.2]; exact h5 t ht
theorem zu_rne {α : Type} {I : Nat → Nat → α} {κ k κ' : Nat} {x : α} (h : κ' ≠ κ) : zu I κ k x κ' = I κ' := by
  funext b
  exact zu_ne _ _ (fun e => h e.1)
/-- a write outside of what zRv speaks of -/
def zRl (κ k : Nat) : Prop := ¬ (κ = 128 ∧ (k = 2 ∨ k = 5 ∨ k = 11 ∨ k = 13 ∨ k = 21)) ∧ κ ≠ 134 ∧ κ ≠ 135 ∧ κ ≠ 136 ∧ κ ≠ 137 ∧ κ ≠ 138 ∧ κ ≠ 142 ∧ κ ≠ 150 ∧ κ ≠ 151
theorem zRv_zu {ni nc ns nt : Nat} {I : zIt} {κ k : Nat} {x : Int32} (hl : zRl κ k) (h : zRv ni nc ns nt I) : zRv ni nc ns nt (zu I κ k x) := by
  obtain ⟨g1, g2, g3, g4, g5, g6, g7, g8, g9⟩ := hl
  have e : zu I κ k x 128 11 = I 128 11 := zu_ne _ _ (by omega)
  exact zRv_same h ⟨zu_ne _ _ (by omega), zu_ne _ _ (by omega), zu_ne _ _ (by omega), zu_ne _ _ (by omega)⟩ (by rw [zRn_eq e, e]; exact h.2.1) ⟨zu_rne (by omega), zu_rne (by omega), zu_rne (by omega), zu_rne (by omega), zu_rne (by omega)⟩ (zu_rne (by omega)) ⟨zu_rne (by omega), zu_rne (by omega)⟩
theorem zRv_zs {ni nc ns nt : Nat} {I : zIt} {κ : Nat} {f : Nat → Int32} (hl : κ ≠ 128 ∧ κ ≠ 134 ∧ κ ≠ 135 ∧ κ ≠ 136 ∧ κ ≠ 137 ∧ κ ≠ 138 ∧ κ ≠ 142 ∧ κ ≠ 150 ∧ κ ≠ 151) (h : zRv ni nc ns nt I) : zRv ni nc ns nt (zs I κ f) := by
  obtain ⟨g1, g2, g3, g4, g5, g6, g7, g8, g9⟩ := hl
  have z0 : ∀ a, a ≠ κ → zs I κ f a = I a := fun a h => zs_ne _ _ h
  have e := congrFun (z0 128 (by omega))
  exact zRv_same h ⟨e 2, e 5, e 13, e 21⟩ (by rw [zRn_eq (e 11), e 11]; exact h.2.1) ⟨z0 _ (by omega), z0 _ (by omega), z0 _ (by omega), z0 _ (by omega), z0 _ (by omega)⟩ (z0 _ (by omega)) ⟨z0 _ (by omega), z0 _ (by omega)⟩
theorem zRv_come {ni nc ns nt : Nat} {I : zIt} {s : Nat} (h : zRv ni nc ns nt I) : zRv ni nc ns nt (zCome I s) := by
  unfold zCome
  split
  · exact zRv_zu (by unfold zRl; omega) (zRv_zu (by unfold zRl; omega) h)
  · exact zRv_zu (by unfold zRl; omega) (zRv_zu (by unfold zRl; omega) h)
theorem zRv_nf {ni nc ns nt : Nat} {I : zIt} {n : Nat} (hn : n ≤ 128) (h : zRv ni nc ns nt I) : zRv ni nc ns nt (zu I 128 11 (nI n)) := by
  have e : zRn (zu I 128 11 (nI n)) = n := by unfold zRn; rw [zu_self, nI_clamp (by omega)]
  exact zRv_same h ⟨zu_ne _ _ (by omega), zu_ne _ _ (by omega), zu_ne _ _ (by omega), zu_ne _ _ (by omega)⟩ ⟨by rw [e, zu_self], by rw [e]; exact hn⟩ ⟨zu_rne (by omega), zu_rne (by omega), zu_rne (by omega), zu_rne (by omega), zu_rne (by omega)⟩ (zu_rne (by omega)) ⟨zu_rne (by omega), zu_rne (by omega)⟩
theorem zRv_mend {ni nc ns nt : Nat} {I : zIt} {s : Nat} (h : zRv ni nc ns nt I) : zRv ni nc ns nt (zRmend I s) := by
  unfold zRmend
  have h128 := h.2.1.2
  split
  · exact zRv_zu (by unfold zRl; omega) h
  · exact zRv_zu (by unfold zRl; omega) (zRv_zu (by unfold zRl; omega) (zRv_zs (by omega) (zRv_nf (by omega) h)))
theorem zRv_go {ni nc ns nt : Nat} {I : zIt} {s : Nat} (h : zRv ni nc ns nt I) : zRv ni nc ns nt (zRgo I s) := by
  unfold zRgo
  split
  · exact zRv_zu (by unfold zRl; omega) h
  · split
    · exact zRv_come (zRv_zu (by unfold zRl; omega) h)
    · split
      · exact zRv_zu (by unfold zRl; omega) (zRv_zu (by unfold zRl; omega) (zRv_zu (by unfold zRl; omega) h))
      · exact zRv_mend (zRv_zu (by unfold zRl; omega) h)
/-- one hour, and hours -/
def zRsh1 (I : zIt) (q : Nat) : zIt := if I 143 q = 0 then I else zRgo I q
def zRsh (I : zIt) : Nat → zIt
  | 0 => I
  | k + 1 => zRsh1 (zRsh I k) k
def zRtr1 (ni nc : Nat) (q : zIt × zLt) (t : Nat) : zIt × zLt :=
  (zs q.1 158 (zGoes q.1 nc), zHoL q.1 q.2 (zs q.2 157 (zFar q.1 (q.2 157) ni nc (q.1 151 t))) t (zFar q.1 (q.2 157) ni nc (q.1 151 t) (q.1 150 t).toNatClampNeg))
def zRtr (ni nc : Nat) (q : zIt × zLt) : Nat → zIt × zLt
  | 0 => q
  | k + 1 => zRtr1 ni nc (zRtr ni nc q k) k
def zRhr (ni nc ns nt : Nat) (q : zIt × zLt) : zIt × zLt := zRtr ni nc (zRsh (zu q.1 128 1 (q.1 128 1 + 1)) ns, q.2) nt
def zRhrs (ni nc ns nt : Nat) (q : zIt × zLt) : Nat → zIt × zLt
  | 0 => q
  | k + 1 => zRhr ni nc ns nt (zRhrs ni nc ns nt q k)
theorem zRv_sh {ni nc ns nt : Nat} {I : zIt} (h : zRv ni nc ns nt I) : ∀ k, zRv ni nc ns nt (zRsh I k) := by
  intro k
  induction k with
  | zero => exact h
  | succ k ih =>
    show zRv ni nc ns nt (zRsh1 (zRsh I k) k)
    unfold zRsh1
    split
    · exact ih
    · exact zRv_go ih
theorem zRv_tr {ni nc ns nt : Nat} {q : zIt × zLt} (h : zRv ni nc ns nt q.1) : ∀ k, zRv ni nc ns nt (zRtr ni nc q k).1 := by
  intro k
  induction k with
  | zero => exact h
  | succ k ih => exact zRv_zs (by omega) ih
theorem zRv_hr {ni nc ns nt : Nat} {q : zIt × zLt} (h : zRv ni nc ns nt q.1) : zRv ni nc ns nt (zRhr ni nc ns nt q).1 :=
  zRv_tr (zRv_sh (zRv_zu (by unfold zRl; omega) h) ns) nt
theorem zRv_hrs {ni nc ns nt : Nat} {q : zIt × zLt} (h : zRv ni nc ns nt q.1) : ∀ k, zRv ni nc ns nt (zRhrs ni nc ns nt q k).1 := by
  intro k
  induction k with
  | zero => exact h
  | succ k ih => exact zRv_hr ih
