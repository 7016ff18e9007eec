/-- the mending of a ship whose fault is there: it goes out of the row and the mask -/
theorem zRS_mend1 {nc ns q : Nat} {I J : zIt} (hnc : nc ≤ 16) (hns : ns ≤ 4) (hq : q < ns) (hF : zRF nc I J) (hS : ∀ q', q' < ns → zRS nc I J q') (hSt : zRSt nc I J q) (hit : zIts I (48 + q)) :
    zRF nc (zMend (zu I (48 + q) 4 0) (48 + q)) (zRmend (zu J 146 q 0) q) ∧ (∀ q', q' < ns → zRS nc (zMend (zu I (48 + q) 4 0) (48 + q)) (zRmend (zu J 146 q 0) q) q') ∧ zMend (zu I (48 + q) 4 0) (48 + q) 0 7 = 1 := by
  have ht := (zIts_iff hnc hF hSt).mp hit
  obtain ⟨⟨s1, s2, s3, s4, s5, s6⟩, ⟨s7, -⟩, s8, s9, -⟩ := hS q hq
  rcases hSt with ⟨g1, -⟩ | ⟨c, s, hc, hs, g1, g2, g3⟩
  · exact absurd g1 hit.1
  · have h8 := hF.2.2.2 c hc
    have h128 := hF.1.2.1
    obtain ⟨k, hk⟩ : ∃ k, zPl J (J 147 q) = some k := by
      cases e : zPl J (J 147 q) with
      | none => exact absurd (by rw [e]; rfl) ht.2
      | some k => exact ⟨k, rfl⟩
    obtain ⟨k1, k2, k3⟩ := zPl_at hF hk
    rw [g3] at k2
    have hout : zRf (8 * nI c + nI s) (I 6) (zNf I) = (zNf I - 1, zShf (I 6) k (zNf I - 1)) := by
      rw [zcode]
      exact zRf_out k1 k2 (fun j hj hjk e => hjk (hF.2.1.2.1 j k hj k1 (by rw [e, k2])))
    -- the class's table behind
    have I5 : zu I (48 + q) 4 0 (48 + q) 5 = nI c := (zu_ne _ _ (by omega)).trans g1
    have I6 : zu I (48 + q) 4 0 (48 + q) 6 = nI s := (zu_ne _ _ (by omega)).trans g2
    have R6 : zu I (48 + q) 4 0 6 = I 6 := zu_rne (by omega)
    have Rn : zNf (zu I (48 + q) 4 0) = zNf I := zNf_eq (zu_ne _ _ (by omega))
    have eI : zMend (zu I (48 + q) 4 0) (48 + q) = zBeg (zu (zu (zRmv (zu I (48 + q) 4 0) c (nI s)) (48 + q) 7 (zRmv (zu I (48 + q) 4 0) c (nI s) (48 + q) 7 + 1)) 0 7 1) (48 + q) 0 0 := by
      unfold zMend
      rw [if_pos (zIts_4.mpr hit), I5, I6, nI_clamp (by omega)]
    have eJ : zRmend (zu J 146 q 0) q = zu (zu (zs (zu (zu J 146 q 0) 128 11 (nI (zNf I - 1))) 140 (zShf (J 140) k (zNf I - 1))) 148 q (J 148 q + 1)) 143 q 0 := by
      have e3 : zPl (zu J 146 q 0) (zu J 146 q 0 147 q) = some k := by
        rw [zu_ne _ _ (by omega), zPl_c (I := J) (zu_ne _ _ (by omega)) (zu_rne (by omega))]
        exact hk
      unfold zRmend
      rw [e3]
      dsimp only
      rw [zRn_eq (I := J) (I' := zu J 146 q 0) (zu_ne _ _ (by omega)), zRF_n hF, show zu J 146 q 0 140 = J 140 from zu_rne (by omega), show zu J 146 q 0 148 q = J 148 q from zu_ne _ _ (by omega)]
    have hRm : ∀ κ k', κ ≠ 6 → ¬ (κ = 1 ∧ k' = 3) → ¬ (κ = 32 + c ∧ k' = 5) → ¬ (κ = 48 + q ∧ k' = 4) → zRmv (zu I (48 + q) 4 0) c (nI s) κ k' = I κ k' := fun κ k' h1 h2 h3 h4 => by
      rw [zRmv_ne h1 h2 h3, zu_ne _ _ h4]
    have hX : ∀ κ k', κ ≠ 6 → ¬ (κ = 1 ∧ k' = 3) → ¬ (κ = 32 + c ∧ k' = 5) → ¬ (κ = 48 + q ∧ (k' = 3 ∨ k' = 4 ∨ k' = 7)) → ¬ (κ = 0 ∧ k' = 7) → zMend (zu I (48 + q) 4 0) (48 + q) κ k' = I κ k' := fun κ k' h1 h2 h3 h4 h5 => by
      rw [eI, zBeg_ne (by omega), zu_ne _ _ (by omega), zu_ne _ _ (by omega), hRm κ k' h1 h2 h3 (by omega)]
    have x7 : zMend (zu I (48 + q) 4 0) (48 + q) (48 + q) 7 = I (48 + q) 7 + 1 := by
      rw [eI, zBeg_ne (by omega), zu_ne _ _ (by omega), zu_self, hRm _ _ (by omega) (by omega) (by omega) (by omega)]
    have x3 : zMend (zu I (48 + q) 4 0) (48 + q) (48 + q) 3 = 0 := by
      rw [eI]; unfold zBeg; rw [zu_ne _ _ (by omega), zu_self]
    have x4 : zMend (zu I (48 + q) 4 0) (48 + q) (48 + q) 4 = 0 := by
      rw [eI]; unfold zBeg; rw [zu_self]
    have x13 : zMend (zu I (48 + q) 4 0) (48 + q) 1 3 = nI (zNf I - 1) := by
      rw [eI, zBeg_ne (by omega), zu_ne _ _ (by omega), zu_ne _ _ (by omega), zRmv_nf, R6, Rn, hout]
    have x6 : zMend (zu I (48 + q) 4 0) (48 + q) 6 = zShf (I 6) k (zNf I - 1) := by
      funext j
      rw [eI, zBeg_ne (by omega), zu_ne _ _ (by omega), zu_ne _ _ (by omega)]
      unfold zRmv
      rw [zu_ne _ _ (by omega), zu_ne _ _ (by omega), zs_self, R6, Rn, hout]
    have x5 : zMend (zu I (48 + q) 4 0) (48 + q) (32 + c) 5 = I (32 + c) 5 &&& ((1 <<< (nI s &&& 31)) ^^^ (-1)) := by
      rw [eI, zBeg_ne (by omega), zu_ne _ _ (by omega), zu_ne _ _ (by omega)]
      unfold zRmv
      rw [zu_self, zu_ne _ _ (by omega)]
    have x07 : zMend (zu I (48 + q) 4 0) (48 + q) 0 7 = 1 := by
      rw [eI, zBeg_ne (by omega), zu_self]
    have xsp : ∀ c', c' < nc → zspn (zMend (zu I (48 + q) 4 0) (48 + q)) c' = zspn I c' := fun c' hc' => by
      unfold zspn
      rw [hX _ _ (by omega) (by omega) (by omega) (by omega) (by omega)]
    have xnf : zNf (zMend (zu I (48 + q) 4 0) (48 + q)) = zNf I - 1 := by
      unfold zNf at x13 ⊢
      rw [x13, nI_clamp (by unfold zNf at h128; omega)]
    -- the reference's table behind
    have y11 : zRmend (zu J 146 q 0) q 128 11 = nI (zNf I - 1) := by
      rw [eJ, zu_ne _ _ (by omega), zu_ne _ _ (by omega), zs_ne _ _ (by omega), zu_self]
    have y140 : zRmend (zu J 146 q 0) q 140 = zShf (J 140) k (zNf I - 1) := by
      rw [eJ, zu_rne (by omega), zu_rne (by omega), zs_self]
    have yX : ∀ κ k', κ ≠ 140 → ¬ (κ = 128 ∧ k' = 11) → ¬ (κ = 148 ∧ k' = q) → ¬ (κ = 143 ∧ k' = q) → ¬ (κ = 146 ∧ k' = q) → zRmend (zu J 146 q 0) q κ k' = J κ k' := fun κ k' h1 h2 h3 h4 h5 => by
      rw [eJ, zu_ne _ _ h4, zu_ne _ _ h3, zs_ne _ _ h1, zu_ne _ _ h2, zu_ne _ _ h5]
    have y148 : zRmend (zu J 146 q 0) q 148 q = J 148 q + 1 := by
      rw [eJ, zu_ne _ _ (by omega), zu_self]
    have y143 : zRmend (zu J 146 q 0) q 143 q = 0 := by
      rw [eJ, zu_self]
    have y146 : zRmend (zu J 146 q 0) q 146 q = 0 := by
      rw [eJ, zu_ne _ _ (by omega), zu_ne _ _ (by omega), zs_ne _ _ (by omega), zu_ne _ _ (by omega), zu_self]
    refine ⟨⟨⟨by rw [x13, xnf], by rw [xnf]; omega, by rw [y11, x13]⟩, ?_, fun j hj => ?_, fun c' hc' => by rw [xsp c' hc']; exact hF.2.2.2 c' hc'⟩, fun q' hq' => ?_, x07⟩
    · rw [xnf, x6]
      refine zFl_congr (zFl_rmv hnc hF.2.2.2 hF.2.1 hc hs k1 k2) xsp (fun c' hc' => ?_) (fun j _ => rfl)
      by_cases hcc : c' = c
      · subst hcc
        rw [zs_self]
        exact x5
      · rw [zs_ne _ _ hcc]
        exact hX _ _ (by omega) (by omega) (by omega) (by omega) (by omega)
    · rw [xnf] at hj
      rw [y140, x6]
      unfold zShf
      by_cases hjk : k ≤ j ∧ j < zNf I - 1
      · rw [if_pos hjk, if_pos hjk]
        exact hF.2.2.1 (j + 1) (by omega)
      · rw [if_neg hjk, if_neg hjk]
        exact hF.2.2.1 j (by omega)
    · by_cases hqq : q' = q
      · subst hqq
        unfold zRS
        have a := fun κ k' => hX κ k'
        rw [x3, x4, x7, y143, y146, y148, a _ 0 (by omega) (by omega) (by omega) (by omega) (by omega), a _ 1 (by omega) (by omega) (by omega) (by omega) (by omega), a _ 2 (by omega) (by omega) (by omega) (by omega) (by omega),
          yX 142 q' (by omega) (by omega) (by omega) (by omega) (by omega), yX 144 q' (by omega) (by omega) (by omega) (by omega) (by omega), yX 145 q' (by omega) (by omega) (by omega) (by omega) (by omega)]
        exact ⟨⟨s1, s2, s3, rfl, rfl, by rw [s6]⟩, ⟨zSc_c (a (48 + q') 5 (by omega) (by omega) (by omega) (by omega) (by omega)) s7, Or.inl rfl⟩, s8, s9, Or.inl rfl⟩
      · refine zRS_c (hS q' hq') ?_ xsp ⟨?_, ?_, ?_, ?_, ?_, ?_, ?_⟩
        · funext k'
          exact hX _ _ (by omega) (by omega) (by omega) (by omega) (by omega)
        all_goals exact yX _ _ (by omega) (by omega) (by omega) (by omega) (by omega)
