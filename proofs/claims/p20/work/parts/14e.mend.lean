theorem zu_comm {α : Type} (T : Nat → Nat → α) {κ k a b : Nat} (x y : α) (h : ¬ (κ = a ∧ k = b)) : zu (zu T κ k x) a b y = zu (zu T a b y) κ k x := by
  funext i j
  by_cases h1 : i = a ∧ j = b
  · obtain ⟨rfl, rfl⟩ := h1
    rw [zu_self, zu_ne _ _ (fun e => h ⟨e.1.symm, e.2.symm⟩), zu_self]
  · by_cases h2 : i = κ ∧ j = k
    · obtain ⟨rfl, rfl⟩ := h2
      rw [zu_ne _ _ h1, zu_self, zu_self]
    · rw [zu_ne _ _ h1, zu_ne _ _ h2, zu_ne _ _ h2, zu_ne _ _ h1]
theorem zPl_no {nc : Nat} {I J : zIt} (h : zRF nc I J) {x : Int32} (hz : zoi (zPl J x) = -1) : zPl J x = none := by
  have h128 := h.1.2.1
  cases e : zPl J x with
  | none => rfl
  | some k =>
    rw [e] at hz
    exact absurd hz (nI_ne1 (by have := (zPl_at h e).1; omega))
theorem zThere_no {nc : Nat} {I J : zIt} {q : Nat} (hnc : nc ≤ 16) (h : zRF nc I J) (hz : ¬ zThere J q) : zPl J (J 147 q) = none := by
  refine zPl_no h (Decidable.not_not.mp fun z => ?_)
  refine hz ⟨fun e => ?_, z⟩
  rw [e] at z
  obtain ⟨j, hj, e2⟩ := (zPl_iff h _).mp z
  obtain ⟨c, s, hc, hs, e3⟩ := h.2.1.1 j hj
  have h8 := h.2.2.2 c hc
  rw [e2] at e3
  exact absurd e3.symm (nI_ne1 (by omega))
/-- the mending of a ship whose fault is gone -/
theorem zRS_mend0 {nc ns q : Nat} {I J : zIt} (hnc : nc ≤ 16) (hns : ns ≤ 4) (hq : q < ns) (hF : zRF nc I J) (hS : ∀ q', q' < ns → zRS nc I J q') (hSt : zRSt nc I J q) (hno : ¬ zIts I (48 + q)) :
    zRF nc (zMend (zu I (48 + q) 4 0) (48 + q)) (zRmend (zu J 146 q 0) q) ∧ ∀ q', q' < ns → zRS nc (zMend (zu I (48 + q) 4 0) (48 + q)) (zRmend (zu J 146 q 0) q) q' := by
  have hno2 : ¬ zThere J q := fun z => hno ((zIts_iff hnc hF hSt).mpr z)
  have e1 : zMend (zu I (48 + q) 4 0) (48 + q) = zBeg I (48 + q) 0 0 := by
    unfold zMend
    rw [if_neg (fun z => hno (zIts_4.mp z)), zBeg_over]
  have e2 : zRmend (zu J 146 q 0) q = zBegR J q 0 0 := by
    have e3 : zPl (zu J 146 q 0) (zu J 146 q 0 147 q) = none := by
      rw [zu_ne _ _ (by omega), zPl_c (I := J) (zu_ne _ _ (by omega)) (zu_rne (by omega))]
      exact zThere_no hnc hF hno2
    unfold zRmend
    rw [e3]
    exact zu_comm J 0 0 (by omega)
  rw [e1, e2]
  exact ⟨zRF_beg hnc hF, fun q' hq' => zRS_beg hnc (by omega) (Or.inl rfl) (by omega) (hS q' hq')⟩
