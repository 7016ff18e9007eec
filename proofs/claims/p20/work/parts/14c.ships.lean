/-! CLASS AND REFERENCE: faults and ships. I: the table with the class's keys, J: the one with the reference's -/
def zspn (I : zIt) (c : Nat) : Nat := (I (32 + c) 2).toNatClampNeg
def zRF (nc : Nat) (I J : zIt) : Prop := (I 1 3 = nI (zNf I) ∧ zNf I ≤ 128 ∧ J 128 11 = I 1 3) ∧ zFl nc (zspn I) (fun c => I (32 + c) 5) (zNf I) (I 6) ∧ (∀ j, j < zNf I → J 140 j = I 6 j) ∧ ∀ c, c < nc → zspn I c ≤ 8
/-- where a ship goes, alike -/
def zRSt (nc : Nat) (I J : zIt) (q : Nat) : Prop := (I (48 + q) 5 = -1 ∧ J 147 q = -1) ∨ ∃ c s, c < nc ∧ s < zspn I c ∧ I (48 + q) 5 = nI c ∧ I (48 + q) 6 = nI s ∧ J 147 q = nI (8 * c + s)
def zRS (nc : Nat) (I J : zIt) (q : Nat) : Prop := (I (48 + q) 0 = J 142 q ∧ I (48 + q) 1 = J 144 q ∧ I (48 + q) 2 = J 145 q ∧ I (48 + q) 3 = J 143 q ∧ I (48 + q) 4 = J 146 q ∧ I (48 + q) 7 = J 148 q) ∧
  (zSc I nc (48 + q) ∧ (I (48 + q) 3 = 0 ∨ zRSt nc I J q)) ∧
  (∃ x y, x < 100 ∧ y < 100 ∧ I (48 + q) 1 = nI x ∧ I (48 + q) 2 = nI y) ∧ (∃ v, 1 ≤ v ∧ v ≤ 20 ∧ I (48 + q) 0 = nI v) ∧
  (I (48 + q) 3 = 0 ∨ ((I (48 + q) 3 = 1 ∨ I (48 + q) 3 = 2 ∨ I (48 + q) 3 = 3) ∧ ∃ l, 1 ≤ l ∧ l ≤ 300 ∧ I (48 + q) 4 = nI l))
theorem zRF_n {nc : Nat} {I J : zIt} (h : zRF nc I J) : zRn J = zNf I := by
  unfold zRn
  rw [h.1.2.2, h.1.1, nI_clamp (by have := h.1.2.1; omega)]
theorem zPl_iff {nc : Nat} {I J : zIt} (h : zRF nc I J) (x : Int32) : ¬ zoi (zPl J x) = -1 ↔ ∃ j, j < zNf I ∧ I 6 j = x := by
  have h128 := h.1.2.1
  have e : zPl J x = zfst (fun j => decide (I 6 j = x)) (zNf I) := by
    unfold zPl
    rw [zRF_n h]
    exact zfst_congr fun j hj => by rw [h.2.2.1 j hj]
  rw [zfst_code, e]
  cases hz : zfst (fun j => decide (I 6 j = x)) (zNf I) with
  | none => exact ⟨fun q => absurd rfl q, fun ⟨k, q⟩ => by cases q⟩
  | some k => exact ⟨fun _ => ⟨k, rfl⟩, fun _ => nI_ne1 (by have := (zfst_spec hz).1; omega)⟩
theorem zPl_at {nc : Nat} {I J : zIt} (h : zRF nc I J) {x : Int32} {k : Nat} (hk : zPl J x = some k) : k < zNf I ∧ I 6 k = x ∧ J 140 k = x := by
  unfold zPl at hk
  rw [zRF_n h] at hk
  obtain ⟨h1, h2, -⟩ := zfst_spec hk
  have h3 := of_decide_eq_true h2
  exact ⟨h1, by rw [← h.2.2.1 k h1]; exact h3, h3⟩
theorem zHas_iff {nc : Nat} {I J : zIt} (h : zRF nc I J) {c s : Nat} (hc : c < nc) (hs : s < zspn I c) : zHasF I (32 + c) (nI s) ↔ ¬ zoi (zPl J (nI (8 * c + s))) = -1 := by
  rw [zPl_iff h]
  exact zFl_has (mk := fun c => I (32 + c) 5) h.2.2.2 h.2.1 hc hs
theorem zWork_iff {nc : Nat} {I J : zIt} (hnc : nc ≤ 16) (h : zRF nc I J) {c : Nat} (hc : c < nc) : I (32 + c) 5 = 0 ↔ zDwb J (nI c) = true := by
  have h1 := zFl_work (mk := fun c => I (32 + c) 5) hnc h.2.2.2 h.2.1 hc
  refine Iff.trans h1 ?_
  unfold zDwb
  rw [zRF_n h, Option.isNone_iff_eq_none]
  constructor
  · intro q
    refine zfst_none fun j hj => ?_
    rw [h.2.2.1 j hj]
    exact decide_eq_false (q j hj)
  · intro q j hj
    have h3 := zfst_no q j hj
    rw [h.2.2.1 j hj] at h3
    exact of_decide_eq_false h3
theorem zIts_iff {nc q : Nat} {I J : zIt} (hnc : nc ≤ 16) (h : zRF nc I J) (hS : zRSt nc I J q) : zIts I (48 + q) ↔ zThere J q := by
  unfold zIts zThere
  rcases hS with ⟨e1, e2⟩ | ⟨c, s, hc, hs, e1, e2, e3⟩
  · rw [e1, e2]
    exact ⟨fun z => absurd rfl z.1, fun z => absurd rfl z.1⟩
  · have h8 := h.2.2.2 c hc
    rw [e1, e2, e3, nI_clamp (by omega)]
    have := zHas_iff h hc hs
    exact ⟨fun z => ⟨nI_ne1 (by omega), this.mp z.2⟩, fun z => ⟨nI_ne1 (by omega), this.mpr z.2⟩⟩
theorem zRF_c {nc : Nat} {I J I' J' : zIt} (h : zRF nc I J) (e1 : I' 1 3 = I 1 3) (e2 : I' 6 = I 6) (e3 : ∀ c, c < nc → I' (32 + c) 2 = I (32 + c) 2 ∧ I' (32 + c) 5 = I (32 + c) 5) (e4 : J' 128 11 = J 128 11) (e5 : J' 140 = J 140) : zRF nc I' J' := by
  have en : zNf I' = zNf I := zNf_eq e1
  have es : ∀ c, c < nc → zspn I' c = zspn I c := fun c hc => by unfold zspn; rw [(e3 c hc).1]
  obtain ⟨⟨h1, h2, h3⟩, h4, h5, h6⟩ := h
  refine ⟨⟨by rw [e1, en]; exact h1, by rw [en]; exact h2, by rw [e4, e1]; exact h3⟩, ?_, fun j hj => by rw [e5, e2]; exact h5 j (by rw [← en]; exact hj), fun c hc => by rw [es c hc]; exact h6 c hc⟩
  rw [en]
  exact zFl_congr h4 es (fun c hc => (e3 c hc).2) (fun j _ => by rw [e2])
theorem zRS_c {nc q : Nat} {I J I' J' : zIt} (h : zRS nc I J q) (e1 : I' (48 + q) = I (48 + q)) (e2 : ∀ c, c < nc → zspn I' c = zspn I c) (e3 : J' 142 q = J 142 q ∧ J' 144 q = J 144 q ∧ J' 145 q = J 145 q ∧ J' 143 q = J 143 q ∧ J' 146 q = J 146 q ∧ J' 148 q = J 148 q ∧ J' 147 q = J 147 q) : zRS nc I' J' q := by
  obtain ⟨f1, f2, f3, f4, f5, f6, f7⟩ := e3
  unfold zRS zRSt
  rw [e1, f1, f2, f3, f4, f5, f6, f7]
  obtain ⟨h1, ⟨h2, h5⟩, h3⟩ := h
  refine ⟨h1, ⟨zSc_c (by rw [e1]) h2, ?_⟩, h3⟩
  rcases h5 with h5 | h5 | ⟨c, s, hc, hs, h4⟩
  · exact Or.inl h5
  · exact Or.inr (Or.inl h5)
  · exact Or.inr (Or.inr ⟨c, s, hc, by rw [e2 c hc]; exact hs, h4⟩)
/-- what a ship does next, and for how long: set on both sides -/
def zBegR (J : zIt) (q : Nat) (a b : Int32) : zIt := zu (zu J 143 q a) 146 q b
theorem zRF_beg {nc q : Nat} {I J : zIt} {a b : Int32} (hnc : nc ≤ 16) (h : zRF nc I J) : zRF nc (zBeg I (48 + q) a b) (zBegR J q a b) := by
  refine zRF_c h (zBeg_ne (by omega)) ?_ (fun c hc => ⟨zBeg_ne (by omega), zBeg_ne (by omega)⟩) ?_ ?_
  · funext k; exact zBeg_ne (by omega)
  · unfold zBegR; rw [zu_ne _ _ (by omega), zu_ne _ _ (by omega)]
  · unfold zBegR; rw [zu_rne (by omega), zu_rne (by omega)]
theorem zRS_beg {nc q : Nat} {I J : zIt} {a b : Int32} (hnc : nc ≤ 16) (hq : q < 4) (hab : a = 0 ∨ (zRSt nc I J q ∧ (a = 1 ∨ a = 2 ∨ a = 3) ∧ ∃ l, 1 ≤ l ∧ l ≤ 300 ∧ b = nI l)) {q' : Nat} (hq' : q' < 4) (h : zRS nc I J q') : zRS nc (zBeg I (48 + q) a b) (zBegR J q a b) q' := by
  have hsp : ∀ c, c < nc → zspn (zBeg I (48 + q) a b) c = zspn I c := fun c hc => by unfold zspn; rw [zBeg_ne (by omega)]
  by_cases hqq : q' = q
  · subst hqq
    have z3 : zBeg I (48 + q') a b (48 + q') 3 = a := by unfold zBeg; rw [zu_ne _ _ (by omega), zu_self]
    have z4 : zBeg I (48 + q') a b (48 + q') 4 = b := by unfold zBeg; rw [zu_self]
    have zz : ∀ k, k ≠ 3 → k ≠ 4 → zBeg I (48 + q') a b (48 + q') k = I (48 + q') k := fun k h1 h2 => zBeg_ne (by omega)
    have r3 : zBegR J q' a b 143 q' = a := by unfold zBegR; rw [zu_ne _ _ (by omega), zu_self]
    have r4 : zBegR J q' a b 146 q' = b := by unfold zBegR; rw [zu_self]
    have rr : ∀ κ, κ ≠ 143 → κ ≠ 146 → zBegR J q' a b κ = J κ := fun κ h1 h2 => by unfold zBegR; rw [zu_rne h2, zu_rne h1]
    obtain ⟨⟨h1, h2, h3, h4, h5, h6⟩, ⟨h7, -⟩, h8, h9, -⟩ := h
    unfold zRS zRSt
    rw [z3, z4, r3, r4, zz 0 (by omega) (by omega), zz 1 (by omega) (by omega), zz 2 (by omega) (by omega), zz 5 (by omega) (by omega), zz 6 (by omega) (by omega), zz 7 (by omega) (by omega), rr 142 (by omega) (by omega), rr 144 (by omega) (by omega), rr 145 (by omega) (by omega), rr 147 (by omega) (by omega), rr 148 (by omega) (by omega)]
    refine ⟨⟨h1, h2, h3, rfl, rfl, h6⟩, ⟨zSc_c (zz 5 (by omega) (by omega)) h7, ?_⟩, h8, h9, ?_⟩
    · rcases hab with e | ⟨h7 | ⟨c, s, hc, hs, h7⟩, -⟩
      · exact Or.inl e
      · exact Or.inr (Or.inl h7)
      · exact Or.inr (Or.inr ⟨c, s, hc, by rw [hsp c hc]; exact hs, h7⟩)
    · rcases hab with e | ⟨-, e⟩
      · exact Or.inl e
      · exact Or.inr e
  · refine zRS_c h ?_ hsp ?_
    · funext k; exact zBeg_ne (by omega)
    · have r : ∀ κ, zBegR J q a b κ q' = J κ q' := fun κ => by unfold zBegR; rw [zu_ne _ _ (by omega), zu_ne _ _ (by omega)]
      exact ⟨r _, r _, r _, r _, r _, r _, r _⟩
