/-! A SHIP'S HOUR: class and reference alike (the mending apart) -/
theorem zu_over {α : Type} (T : Nat → Nat → α) (κ k a b : Nat) (x y z : α) : zu (zu (zu T κ k x) a b y) κ k z = zu (zu T a b y) κ k z := by
  funext i j
  by_cases h : i = κ ∧ j = k
  · obtain ⟨rfl, rfl⟩ := h
    rw [zu_self, zu_self]
  · rw [zu_ne _ _ h, zu_ne _ _ h]
    by_cases h2 : i = a ∧ j = b
    · obtain ⟨rfl, rfl⟩ := h2
      rw [zu_self, zu_self]
    · rw [zu_ne _ _ h2, zu_ne _ _ h2, zu_ne _ _ h]
theorem zBeg_over {I : zIt} {κ : Nat} {x a b : Int32} : zBeg (zu I κ 4 x) κ a b = zBeg I κ a b := zu_over I κ 4 κ 3 x a b
theorem zBegR_over {J : zIt} {q : Nat} {x a b : Int32} : zBegR (zu J 146 q x) q a b = zBegR J q a b := zu_over J 146 q 143 q x a b
theorem zHas_c {I I' : zIt} {κ : Nat} (h : I' κ 5 = I κ 5) (k : Int32) : zHasF I' κ k ↔ zHasF I κ k := by
  unfold zHasF
  rw [h]
theorem zIts_4 {I : zIt} {q : Nat} {x : Int32} : zIts (zu I (48 + q) 4 x) (48 + q) ↔ zIts I (48 + q) := by
  have e5 : zu I (48 + q) 4 x (48 + q) 5 = I (48 + q) 5 := zu_ne _ _ (by omega)
  have e6 : zu I (48 + q) 4 x (48 + q) 6 = I (48 + q) 6 := zu_ne _ _ (by omega)
  unfold zIts
  rw [e5, e6, zHas_c (I := I) (zu_ne _ _ (by omega))]
theorem zArr_4 {I : zIt} {q : Nat} {x : Int32} : zArr (zu I (48 + q) 4 x) (48 + q) = zArr I (48 + q) := by
  unfold zArr
  rw [zBeg_over, zBeg_over]
  by_cases h : zIts I (48 + q)
  · rw [if_pos h, if_pos (zIts_4.mpr h)]
  · rw [if_neg h, if_neg (fun z => h (zIts_4.mp z))]
theorem zThere_c {J J' : zIt} {q : Nat} (h1 : J' 147 q = J 147 q) (h2 : J' 128 11 = J 128 11) (h3 : J' 140 = J 140) : zThere J' q ↔ zThere J q := by
  unfold zThere
  rw [h1, zPl_c h2 h3]
theorem zCome_B {J : zIt} {q : Nat} : zCome J q = if zThere J q then zBegR J q 2 6 else zBegR J q 0 0 := rfl
theorem zCome_146 {J : zIt} {q : Nat} {x : Int32} : zCome (zu J 146 q x) q = zCome J q := by
  have hc : zThere (zu J 146 q x) q ↔ zThere J q := zThere_c (zu_ne _ _ (by omega)) (zu_ne _ _ (by omega)) (zu_rne (by omega))
  rw [zCome_B, zCome_B, zBegR_over, zBegR_over]
  by_cases h : zThere J q
  · rw [if_pos h, if_pos (hc.mpr h)]
  · rw [if_neg h, if_neg (fun z => h (hc.mp z))]
/-- coming to the target -/
theorem zRS_come {nc ns q : Nat} {I J : zIt} (hnc : nc ≤ 16) (hns : ns ≤ 4) (hq : q < ns) (hF : zRF nc I J) (hS : ∀ q', q' < ns → zRS nc I J q') (hSt : zRSt nc I J q) : zRF nc (zArr I (48 + q)) (zCome J q) ∧ ∀ q', q' < ns → zRS nc (zArr I (48 + q)) (zCome J q) q' := by
  have hi := zIts_iff hnc hF hSt
  rw [zCome_B]
  unfold zArr
  by_cases h : zIts I (48 + q)
  · rw [if_pos h, if_pos (hi.mp h)]
    exact ⟨zRF_beg hnc hF, fun q' hq' => zRS_beg hnc (by omega) (Or.inr ⟨hSt, Or.inr (Or.inl rfl), 6, by omega, by omega, rfl⟩) (by omega) (hS q' hq')⟩
  · rw [if_neg h, if_neg (fun z => h (hi.mpr z))]
    exact ⟨zRF_beg hnc hF, fun q' hq' => zRS_beg hnc (by omega) (Or.inl rfl) (by omega) (hS q' hq')⟩
