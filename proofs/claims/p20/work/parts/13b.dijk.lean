/-! THE CLASS'S COSTS: they are the least ones -/
def zea (I : zIt) (k : Nat) : Nat := (I (32 + k) 0).toNatClampNeg
def zeb (I : zIt) (k : Nat) : Nat := (I (32 + k) 1).toNatClampNeg
def zed (I : zIt) (k : Nat) : Nat := (I (32 + k) 3).toNatClampNeg
def zep (I : zIt) (k : Nat) : Nat := (I (32 + k) 4).toNatClampNeg
def zw1 (I : zIt) (k : Nat) : Nat := 131072 * zep I k + 16 * zed I k + 1
/-- a working cable k joins x and y -/
def zAd (I : zIt) (k x y : Nat) : Prop := I (32 + k) 5 = 0 ∧ ((x = zea I k ∧ y = zeb I k) ∨ (x = zeb I k ∧ y = zea I k))
theorem zAd_sym {I : zIt} {k x y : Nat} (h : zAd I k x y) : zAd I k y x := by
  obtain ⟨h0, h | h⟩ := h
  · exact ⟨h0, Or.inr ⟨h.2, h.1⟩⟩
  · exact ⟨h0, Or.inl ⟨h.2, h.1⟩⟩
theorem zCbs_at {I : zIt} {nc k : Nat} (h : zCbs I nc) (hk : k < nc) : I (32 + k) 0 = nI (zea I k) ∧ I (32 + k) 1 = nI (zeb I k) ∧ zea I k < 10 ∧ zeb I k < 10 ∧ zed I k ≤ 500 ∧ zep I k ≤ 9999 ∧ zCost I (32 + k) = lN (zw1 I k) ∧ I (32 + k) 3 = nI (zed I k) ∧ I (32 + k) 4 = nI (zep I k) := by
  obtain ⟨a, b, n, d, p, h1, h2, h3, h4, h5, h6, h7, e0, e1, e2, e3, e4⟩ := h k hk
  have f0 : zea I k = a := by unfold zea; rw [e0, nI_clamp (by omega)]
  have f1 : zeb I k = b := by unfold zeb; rw [e1, nI_clamp (by omega)]
  have f3 : zed I k = d := by unfold zed; rw [e3, nI_clamp (by omega)]
  have f4 : zep I k = p := by unfold zep; rw [e4, nI_clamp (by omega)]
  unfold zw1
  rw [f0, f1, f3, f4]
  exact ⟨e0, e1, h1, h2, h6, h7, zCost_N h7 h6 e4 e3, e3, e4⟩
theorem zw1_b {I : zIt} {nc k : Nat} (h : zCbs I nc) (hk : k < nc) : 1 ≤ zw1 I k ∧ zw1 I k < 2 ^ 31 := by
  obtain ⟨-, -, -, -, h5, h6, -⟩ := zCbs_at h hk
  unfold zw1
  omega
theorem zAd_in {I : zIt} {nc k x y : Nat} (h : zCbs I nc) (hk : k < nc) (ha : zAd I k x y) : x < 10 ∧ y < 10 := by
  obtain ⟨-, -, h1, h2, -⟩ := zCbs_at h hk
  obtain ⟨-, ⟨e1, e2⟩ | ⟨e1, e2⟩⟩ := ha <;> omega
theorem zCl_spec {I : zIt} {nc k u : Nat} (h : zCbs I nc) (hk : k < nc) (hu : u < 10) :
    (zCleads I (32 + k) (nI u) = -1 ∧ ∀ y, ¬ zAd I k u y) ∨ ∃ y, y < 10 ∧ zCleads I (32 + k) (nI u) = nI y ∧ zAd I k u y ∧ ∀ y', zAd I k u y' → y' = y := by
  obtain ⟨e0, e1, ha, hb, -⟩ := zCbs_at h hk
  unfold zCleads zAd
  by_cases h5 : I (32 + k) 5 = 0
  · rw [if_pos h5, e0, e1]
    by_cases h1 : nI u = nI (zea I k)
    · have h1' := nI_inj h1 (by omega) (by omega)
      rw [if_pos h1]
      refine Or.inr ⟨zeb I k, hb, rfl, ⟨h5, Or.inl ⟨h1', rfl⟩⟩, fun y' hy => ?_⟩
      rcases hy.2 with ⟨-, q⟩ | ⟨q1, q2⟩
      · exact q
      · omega
    · have h1' : u ≠ zea I k := fun e => h1 (by rw [e])
      rw [if_neg h1]
      by_cases h2 : nI u = nI (zeb I k)
      · have h2' := nI_inj h2 (by omega) (by omega)
        rw [if_pos h2]
        refine Or.inr ⟨zea I k, ha, rfl, ⟨h5, Or.inr ⟨h2', rfl⟩⟩, fun y' hy => ?_⟩
        rcases hy.2 with ⟨q, -⟩ | ⟨-, q⟩
        · exact absurd q h1'
        · exact q
      · rw [if_neg h2]
        refine Or.inl ⟨rfl, fun y hy => ?_⟩
        rcases hy.2 with ⟨q, -⟩ | ⟨q, -⟩
        · exact h1' q
        · exact h2 (by rw [q])
  · rw [if_neg h5]
    exact Or.inl ⟨rfl, fun y hy => h5 hy.1⟩
/-- a row of costs as numbers -/
def zRw0 (f : Nat → Int64) (g : Nat → Nat) : Prop := ∀ x, x < 10 → f x = lN (g x) ∧ g x ≤ 1152921504606846976
theorem zSp_spec {I : zIt} {nc u : Nat} (h : zCbs I nc) (hu : u < 10) {f : Nat → Int64} {g : Nat → Nat} (hg : zRw0 f g) : ∀ k, k ≤ nc →
    ∃ g' : Nat → Nat, (∀ x, x < 10 → zSp I u f k x = lN (g' x) ∧ g' x ≤ g x) ∧ g' u = g u ∧ (∀ x, x < 10 → g' x = g x ∨ ∃ i, i < k ∧ zAd I i u x ∧ g' x = g u + zw1 I i) ∧ ∀ i y, i < k → zAd I i u y → g' y ≤ g u + zw1 I i := by
  intro k
  induction k with
  | zero => intro _; exact ⟨g, fun x hx => ⟨(hg x hx).1, Nat.le_refl _⟩, rfl, fun x _ => Or.inl rfl, fun i y hi => absurd hi (by omega)⟩
  | succ k ih =>
    intro hk
    obtain ⟨g1, a1, a2, a3, a4⟩ := ih (by omega)
    have hw := zw1_b h (show k < nc by omega)
    show ∃ g' : Nat → Nat, (∀ x, x < 10 → zSp1 I u (zSp I u f k) k x = lN (g' x) ∧ g' x ≤ g x) ∧ _
    rcases zCl_spec h (show k < nc by omega) hu with ⟨e, hno⟩ | ⟨y, hy, e, hAd, huq⟩
    · unfold zSp1
      rw [if_pos e]
      refine ⟨g1, a1, a2, fun x hx => ?_, fun i y hi hA => ?_⟩
      · rcases a3 x hx with q | ⟨i, q1, q2⟩
        · exact Or.inl q
        · exact Or.inr ⟨i, by omega, q2⟩
      · rcases Nat.lt_or_ge i k with q | q
        · exact a4 i y q hA
        · rw [show i = k by omega] at hA
          exact absurd hA (hno y)
    · unfold zSp1
      rw [if_neg (by rw [e]; exact nI_ne1 (by omega)), e, nI_clamp (by omega), (a1 y hy).1, (a1 u hu).1, (zCbs_at h (show k < nc by omega)).2.2.2.2.2.2.1, lN_add, a2]
      have b1 := (a1 y hy).2
      have b2 := (hg y hy).2
      have b3 := (hg u hu).2
      rw [zminN (by omega) (by omega)]
      refine ⟨fun x => if x = y then (if g u + zw1 I k < g1 y then g u + zw1 I k else g1 y) else g1 x, fun x hx => ?_, ?_, fun x hx => ?_, fun i z hi hA => ?_⟩
      · dsimp only
        by_cases hxy : x = y
        · subst hxy
          rw [zs_self, if_pos rfl]
          refine ⟨rfl, ?_⟩
          split <;> omega
        · rw [zs_ne _ _ hxy, if_neg hxy]
          exact a1 x hx
      · dsimp only
        by_cases hxy : u = y
        · subst hxy
          rw [if_pos rfl, if_neg (by omega), a2]
        · rw [if_neg hxy]; exact a2
      · dsimp only
        by_cases hxy : x = y
        · subst hxy
          rw [if_pos rfl]
          split
          · exact Or.inr ⟨k, by omega, hAd, rfl⟩
          · rcases a3 x hx with q | ⟨i, q1, q2⟩
            · exact Or.inl q
            · exact Or.inr ⟨i, by omega, q2⟩
        · rw [if_neg hxy]
          rcases a3 x hx with q | ⟨i, q1, q2⟩
          · exact Or.inl q
          · exact Or.inr ⟨i, by omega, q2⟩
      · rcases Nat.lt_or_ge i k with q | q
        · have := a4 i z q hA
          dsimp only
          split
          · rename_i hzy
            subst hzy
            split <;> omega
          · exact this
        · have hik : i = k := by omega
          subst hik
          have hzy := huq z hA
          subst hzy
          dsimp only
          rw [if_pos rfl]
          split <;> omega
/-- the nearest one beside the settled ones -/
theorem zNb_spec {f : Nat → Int64} {g : Nat → Nat} {st : Int32} (hg : zRw0 f g) : ∀ k, k ≤ 10 →
    ((zNb f st k).1 = -1 ∧ (zNb f st k).2 = lN 1152921504606846976 ∧ ∀ j, j < k → zbt st j = false → g j = 1152921504606846976) ∨
    ∃ j, j < k ∧ (zNb f st k).1 = nI j ∧ (zNb f st k).2 = lN (g j) ∧ zbt st j = false ∧ g j < 1152921504606846976 ∧ ∀ i, i < k → zbt st i = false → g j ≤ g i := by
  intro k
  induction k with
  | zero => intro _; exact Or.inl ⟨rfl, rfl, fun j hj => absurd hj (by omega)⟩
  | succ k ih =>
    intro hk
    have hgk := hg k (by omega)
    show ((zNb1 f st k (zNb f st k)).1 = -1 ∧ (zNb1 f st k (zNb f st k)).2 = lN 1152921504606846976 ∧ _) ∨ ∃ j, j < k + 1 ∧ (zNb1 f st k (zNb f st k)).1 = nI j ∧ (zNb1 f st k (zNb f st k)).2 = lN (g j) ∧ _
    unfold zNb1
    by_cases hb : zbt st k = false
    · rw [if_pos ((zbt_t (by omega)).mpr hb)]
      rcases ih (by omega) with ⟨e1, e2, e3⟩ | ⟨j, hj, e1, e2, e3, e4, e5⟩
      · rw [e2, hgk.1]
        by_cases hc : 1152921504606846976 ≤ g k
        · rw [if_pos ((zcN_ge (by omega) (by omega)).mpr hc)]
          refine Or.inl ⟨e1, e2, fun j hj hjb => ?_⟩
          rcases Nat.lt_or_ge j k with q | q
          · exact e3 j q hjb
          · rw [show j = k by omega]; omega
        · rw [if_neg (fun q => hc ((zcN_ge (by omega) (by omega)).mp q))]
          refine Or.inr ⟨k, by omega, rfl, rfl, hb, by omega, fun i hi hib => ?_⟩
          rcases Nat.lt_or_ge i k with q | q
          · rw [e3 i q hib]; omega
          · rw [show i = k by omega]; exact Nat.le_refl _
      · rw [e2, hgk.1]
        by_cases hc : g j ≤ g k
        · rw [if_pos ((zcN_ge (by omega) (by omega)).mpr hc)]
          refine Or.inr ⟨j, by omega, e1, e2, e3, e4, fun i hi hib => ?_⟩
          rcases Nat.lt_or_ge i k with q | q
          · exact e5 i q hib
          · rw [show i = k by omega]; exact hc
        · rw [if_neg (fun q => hc ((zcN_ge (by omega) (by omega)).mp q))]
          refine Or.inr ⟨k, by omega, rfl, rfl, hb, by omega, fun i hi hib => ?_⟩
          rcases Nat.lt_or_ge i k with q | q
          · have := e5 i q hib; omega
          · rw [show i = k by omega]; exact Nat.le_refl _
    · rw [if_neg (fun q => hb ((zbt_t (by omega)).mp q))]
      rcases ih (by omega) with ⟨e1, e2, e3⟩ | ⟨j, hj, e1, e2, e3, e4, e5⟩
      · refine Or.inl ⟨e1, e2, fun j hj hjb => ?_⟩
        rcases Nat.lt_or_ge j k with q | q
        · exact e3 j q hjb
        · exact absurd (show zbt st k = false by rw [← show j = k by omega]; exact hjb) hb
      · refine Or.inr ⟨j, by omega, e1, e2, e3, e4, fun i hi hib => ?_⟩
        rcases Nat.lt_or_ge i k with q | q
        · exact e5 i q hib
        · exact absurd (show zbt st k = false by rw [← show i = k by omega]; exact hib) hb
