/-! A TRADER'S HOUR: the accounts alike. hrs: the hours gone by -/
def zRT (I : zIt) (L : zLt) (J : zIt) (K : zLt) (hrs t : Nat) : Prop :=
  (I (64 + t) 0 = J 150 t ∧ I (64 + t) 1 = J 151 t ∧ I (64 + t) 2 = J 152 t ∧ I (64 + t) 3 = J 153 t ∧ I (64 + t) 4 = J 154 t ∧ I (64 + t) 5 = J 155 t) ∧ L (64 + t) 7 = K 156 (4 * t) ∧
  ∃ d x l m a b c : Nat, (d ≤ 5000 ∧ x ≤ 9999 ∧ l ≤ 9999 ∧ m ≤ 1000000 ∧ I (64 + t) 2 = nI d ∧ I (64 + t) 3 = nI x ∧ I (64 + t) 4 = nI l ∧ I (64 + t) 5 = nI m) ∧
    (a ≤ m ∧ b ≤ hrs ∧ c ≤ hrs ∧ I (64 + t) 8 = nI a ∧ I (64 + t) 9 = nI b ∧ I (64 + t) 10 = nI c) ∧ K 156 (4 * t + 1) = lN a ∧ K 156 (4 * t + 2) = lN b ∧ K 156 (4 * t + 3) = lN c
theorem zmin_N {a b : Nat} (ha : a < 2 ^ 31) (hb : b < 2 ^ 31) : zmin (nI a) (nI b) = nI (if b < a then b else a) := by
  unfold zmin
  by_cases h : b < a
  · rw [if_pos h, if_pos (by rw [Int32.lt_iff_toInt_lt, nI_toInt hb, nI_toInt ha]; omega)]
  · rw [if_neg h, if_neg (by rw [Int32.lt_iff_toInt_lt, nI_toInt hb, nI_toInt ha]; omega)]
theorem zcrd_N {a x m : Nat} (ha : a < 2 ^ 31) (hx : x < 2 ^ 31) (hm : m < 2 ^ 31) : (if lg_cmp (lN a + (nI x).toInt64) (nI m).toInt64 ≤ 0 then lN a + (nI x).toInt64 else (nI m).toInt64) = lN (if a + x < m then a + x else m) := by
  rw [nI_l hx, nI_l hm, lN_add]
  by_cases h : a + x ≤ m
  · rw [if_pos ((zcN_le (by omega) (by omega)).mpr h)]
    congr 1
    split <;> omega
  · rw [if_neg (fun q => h ((zcN_le (by omega) (by omega)).mp q))]
    congr 1
    split <;> omega
theorem zHoL_at {J : zIt} {Ko K : zLt} {t : Nat} {w : Int64} : zHoL J Ko K t w 156 (4 * t) = Ko 156 (4 * t) + (if zCut w then 0 else w / 1000000) ∧
    zHoL J Ko K t w 156 (4 * t + 1) = (if lg_cmp (Ko 156 (4 * t + 1) + (zCrd J t w).toInt64) (J 155 t).toInt64 ≤ 0 then Ko 156 (4 * t + 1) + (zCrd J t w).toInt64 else (J 155 t).toInt64) ∧
    zHoL J Ko K t w 156 (4 * t + 2) = Ko 156 (4 * t + 2) + (if zCut w then 1 else 0) ∧ zHoL J Ko K t w 156 (4 * t + 3) = Ko 156 (4 * t + 3) + (if zLate J t w then 1 else 0) := by
  unfold zHoL
  refine ⟨?_, ?_, ?_, ?_⟩
  · rw [zu_ne _ _ (by omega), zu_ne _ _ (by omega), zu_ne _ _ (by omega), zu_self]
  · rw [zu_ne _ _ (by omega), zu_ne _ _ (by omega), zu_self]
  · rw [zu_ne _ _ (by omega), zu_self]
  · rw [zu_self]
theorem zRT_set {I J : zIt} {L K Ko K' : zLt} {hrs t : Nat} {w : Int64} (hh : hrs < 1000000) (hT : zRT I L J K hrs t) (hKo : Ko 156 = K 156)
    (hw : (∃ P D N : Nat, P ≤ 89991 ∧ D ≤ 4500 ∧ N ≤ 9 ∧ I (80 + t) 1 = nI N ∧ I (80 + t) 2 = nI P ∧ I (80 + t) 3 = nI D ∧ lg_cmp w zFAR < 0 ∧ w / 1000000 = lN P ∧ (w - w / 1000000 * 1000000) / 100 = lN D) ∨ (I (80 + t) 1 = -1 ∧ ¬ lg_cmp w zFAR < 0)) :
    zRT (zSetI I t) (zSetL I L t) J (zHoL J Ko K' t w) (hrs + 1) t := by
  obtain ⟨⟨e0, e1, e2, e3, e4, e5⟩, e7, d, x, l, m, a, b, c, ⟨b1, b2, b3, b4, f2, f3, f4, f5⟩, ⟨c1, c2, c3, f8, f9, f10⟩, k1, k2, k3⟩ := hT
  obtain ⟨r0, r1, r2, r3⟩ := zHoL_at (J := J) (Ko := Ko) (K := K') (t := t) (w := w)
  rw [hKo] at r0 r1 r2 r3
  rw [k1, ← e5, f5] at r1
  rw [k2] at r2
  rw [k3] at r3
  have z1 : lN b + 1 = lN (b + 1) := lN_1 b
  have z2 : lN c + 1 = lN (c + 1) := lN_1 c
  have z0 : ∀ y, lN y + 0 = lN y := fun y => (lN_add y 0).trans rfl
  rcases hw with ⟨P, D, N, hP, hD, hN, w1, w2, w3, w4, w5, w6⟩ | ⟨w1, w4⟩
  · have hcut : ¬ zCut w := fun q => q w4
    have hn1 : ¬ I (80 + t) 1 = -1 := by rw [w1]; exact nI_ne1 (by omega)
    have hlate : zLate J t w ↔ I (64 + t) 2 < I (80 + t) 3 := by
      unfold zLate
      rw [w6, ← e2, f2, w3, nI_l (by omega), zcN_le (by omega) (by omega), Int32.lt_iff_toInt_lt, nI_toInt (by omega), nI_toInt (by omega)]
      constructor
      · intro q; have := q.2; omega
      · intro q; exact ⟨hcut, by omega⟩
    rw [if_neg hcut, w5] at r0
    rw [if_neg hcut, z0] at r2
    have l7 : zSetL I L t (64 + t) 7 = zHoL J Ko K' t w 156 (4 * t) := by
      unfold zSetL
      rw [if_neg hn1, zu_self, r0, e7, w2, nI_l (by omega)]
    by_cases hlt : I (64 + t) 2 < I (80 + t) 3
    · have hl' := hlate.mpr hlt
      have eS : zSetI I t = zu (zu I (64 + t) 10 (I (64 + t) 10 + 1)) (64 + t) 8 (zmin (I (64 + t) 5) (I (64 + t) 8 + I (64 + t) 4)) := by
        unfold zSetI
        rw [if_neg hn1, if_pos hlt]
      have ez : ∀ k, k ≠ 8 → k ≠ 10 → zSetI I t (64 + t) k = I (64 + t) k := fun k h1 h2 => by rw [eS, zu_ne _ _ (by omega), zu_ne _ _ (by omega)]
      have crd : zCrd J t w = nI l := by
        unfold zCrd
        rw [if_neg hcut, if_pos hl', ← e4, f4]
      rw [crd, zcrd_N (by omega) (by omega) (by omega)] at r1
      rw [if_pos hl', z2] at r3
      unfold zRT
      rw [ez 0 (by omega) (by omega), ez 1 (by omega) (by omega), ez 2 (by omega) (by omega), ez 3 (by omega) (by omega), ez 4 (by omega) (by omega), ez 5 (by omega) (by omega), ez 9 (by omega) (by omega)]
      refine ⟨⟨e0, e1, e2, e3, e4, e5⟩, l7, d, x, l, m, (if a + l < m then a + l else m), b, c + 1, ⟨b1, b2, b3, b4, f2, f3, f4, f5⟩, ⟨by split <;> omega, by omega, by omega, ?_, f9, ?_⟩, r1, r2, r3⟩
      · rw [eS, zu_self, f5, f8, f4, nI_add, zmin_N (by omega) (by omega)]
      · rw [eS, zu_ne _ _ (by omega), zu_self, f10]
        exact (nI_succ c).symm
    · have hl' : ¬ zLate J t w := fun q => hlt (hlate.mp q)
      have eS : zSetI I t = I := by
        unfold zSetI
        rw [if_neg hn1, if_neg hlt]
      have crd : zCrd J t w = nI 0 := by
        unfold zCrd
        rw [if_neg hcut, if_neg hl']
        rfl
      rw [crd, zcrd_N (by omega) (by omega) (by omega)] at r1
      rw [if_neg hl', z0] at r3
      rw [eS]
      refine ⟨⟨e0, e1, e2, e3, e4, e5⟩, l7, d, x, l, m, a, b, c, ⟨b1, b2, b3, b4, f2, f3, f4, f5⟩, ⟨c1, by omega, by omega, f8, f9, f10⟩, ?_, r2, r3⟩
      rw [r1]
      congr 1
      split <;> omega
  · have hcut : zCut w := w4
    have hl' : ¬ zLate J t w := fun q => q.1 hcut
    have eS : zSetI I t = zu (zu I (64 + t) 9 (I (64 + t) 9 + 1)) (64 + t) 8 (zmin (I (64 + t) 5) (I (64 + t) 8 + I (64 + t) 3)) := by
      unfold zSetI
      rw [if_pos w1]
    have ez : ∀ k, k ≠ 8 → k ≠ 9 → zSetI I t (64 + t) k = I (64 + t) k := fun k h1 h2 => by rw [eS, zu_ne _ _ (by omega), zu_ne _ _ (by omega)]
    have crd : zCrd J t w = nI x := by
      unfold zCrd
      rw [if_pos hcut, ← e3, f3]
    rw [crd, zcrd_N (by omega) (by omega) (by omega)] at r1
    rw [if_pos hcut] at r0
    rw [if_pos hcut, z1] at r2
    rw [if_neg hl', z0] at r3
    have l7 : zSetL I L t (64 + t) 7 = zHoL J Ko K' t w 156 (4 * t) := by
      unfold zSetL
      rw [if_pos w1, r0, e7, Int64.add_zero]
    unfold zRT
    rw [ez 0 (by omega) (by omega), ez 1 (by omega) (by omega), ez 2 (by omega) (by omega), ez 3 (by omega) (by omega), ez 4 (by omega) (by omega), ez 5 (by omega) (by omega), ez 10 (by omega) (by omega)]
    refine ⟨⟨e0, e1, e2, e3, e4, e5⟩, l7, d, x, l, m, (if a + x < m then a + x else m), b + 1, c, ⟨b1, b2, b3, b4, f2, f3, f4, f5⟩, ⟨by split <;> omega, by omega, by omega, ?_, ?_, f10⟩, r1, r2, r3⟩
    · rw [eS, zu_self, f5, f8, f3, nI_add, zmin_N (by omega) (by omega)]
    · rw [eS, zu_ne _ _ (by omega), zu_self, f9]
      exact (nI_succ b).symm
