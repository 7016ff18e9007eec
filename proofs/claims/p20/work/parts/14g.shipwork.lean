theorem zu_id {α : Type} (T : Nat → Nat → α) (κ k : Nat) : zu T κ k (T κ k) = T := by
  funext i j
  by_cases h : i = κ ∧ j = k
  · obtain ⟨rfl, rfl⟩ := h
    rw [zu_self]
  · rw [zu_ne _ _ h]
theorem zBeg_tick {I : zIt} {κ : Nat} {b : Int32} : zu I κ 4 b = zBeg I κ (I κ 3) b := by
  unfold zBeg
  rw [zu_id]
theorem zBegR_tick {J : zIt} {q : Nat} {b : Int32} : zu J 146 q b = zBegR J q (J 143 q) b := by
  unfold zBegR
  rw [zu_id]
theorem zBeg_fr {I : zIt} {κ : Nat} {a b : Int32} : ∀ κ', κ' ≠ κ → zBeg I κ a b κ' = I κ' := fun κ' h => by
  funext k
  exact zBeg_ne (fun q => h q.1)
theorem zArr_fr {I : zIt} {κ : Nat} : ∀ κ', κ' ≠ κ → zArr I κ κ' = I κ' := fun κ' h => by
  unfold zArr
  split
  · exact zBeg_fr κ' h
  · exact zBeg_fr κ' h
/-- one ship's hour: class and reference alike; the ways go stale, or nothing else has changed -/
theorem zRS_work {nc ns q : Nat} {I J : zIt} (hnc : nc ≤ 16) (hns : ns ≤ 4) (hq : q < ns) (hF : zRF nc I J) (hS : ∀ q', q' < ns → zRS nc I J q') :
    (zRF nc (zWork I (48 + q)) (zRsh1 J q) ∧ ∀ q', q' < ns → zRS nc (zWork I (48 + q)) (zRsh1 J q) q') ∧ (zWork I (48 + q) 0 7 = 1 ∨ ∀ κ, κ ≠ 48 + q → zWork I (48 + q) κ = I κ) := by
  obtain ⟨⟨s1, s2, s3, s4, s5, s6⟩, s7, s8, s9, s10⟩ := hS q hq
  unfold zWork zRsh1
  rcases s10 with h0 | ⟨hact, l, hl1, hl2, hl⟩
  · rw [if_pos h0, if_pos (s4.symm.trans h0)]
    exact ⟨⟨hF, hS⟩, Or.inr fun _ _ => rfl⟩
  · have hn0 : ¬ I (48 + q) 3 = 0 := by
      rcases hact with e | e | e <;> rw [e] <;> decide
    have hl' : I (48 + q) 4 - 1 = nI (l - 1) := by rw [hl]; exact nI_prd (by omega)
    have hl3 : J 146 q - 1 = nI (l - 1) := by rw [← s5]; exact hl'
    have hSt := s7.2.resolve_left hn0
    rw [if_neg hn0, if_neg (show ¬ J 143 q = 0 by rw [← s4]; exact hn0), hl']
    unfold zRgo
    rw [hl3]
    by_cases h1 : l = 1
    · subst h1
      have z0 : nI (1 - 1) = 0 := rfl
      rw [z0, if_pos (show (0 : Int32) = 0 from rfl), if_neg (show ¬ (0 : Int32) < 0 by decide), ← s4]
      unfold zGo
      rw [show zu I (48 + q) 4 0 (48 + q) 3 = I (48 + q) 3 from zu_ne _ _ (by omega)]
      rcases hact with e | e | e
      · rw [if_pos e, if_pos e, zArr_4, zCome_146]
        exact ⟨zRS_come hnc hns hq hF hS hSt, Or.inr fun κ h => zArr_fr κ h⟩
      · have n1 : ¬ I (48 + q) 3 = 1 := by rw [e]; decide
        rw [if_neg n1, if_neg n1, if_pos e, if_pos e, zBeg_over, show zu (zu (zu J 146 q 0) 143 q 3) 146 q 2 = zBegR J q 3 2 from zBegR_over]
        exact ⟨⟨zRF_beg hnc hF, fun q' hq' => zRS_beg hnc (by omega) (Or.inr ⟨hSt, Or.inr (Or.inr rfl), 2, by omega, by omega, rfl⟩) (by omega) (hS q' hq')⟩, Or.inr fun κ h => zBeg_fr κ h⟩
      · have n1 : ¬ I (48 + q) 3 = 1 := by rw [e]; decide
        have n2 : ¬ I (48 + q) 3 = 2 := by rw [e]; decide
        rw [if_neg n1, if_neg n1, if_neg n2, if_neg n2]
        by_cases hit : zIts I (48 + q)
        · obtain ⟨m1, m2, m3⟩ := zRS_mend1 hnc hns hq hF hS hSt hit
          exact ⟨⟨m1, m2⟩, Or.inl m3⟩
        · refine ⟨zRS_mend0 hnc hns hq hF hS hSt hit, Or.inr fun κ h => ?_⟩
          unfold zMend
          rw [if_neg (fun z => hit (zIts_4.mp z)), zBeg_over]
          exact zBeg_fr κ h
    · rw [if_neg (show ¬ nI (l - 1) = 0 from nI_ne0 (by omega) (by omega)), if_pos (show (0 : Int32) < nI (l - 1) by
        rw [Int32.lt_iff_toInt_lt, nI_toInt (by omega)]
        have : (0 : Int32).toInt = 0 := by decide
        omega), zBeg_tick, zBegR_tick, ← s4]
      exact ⟨⟨zRF_beg hnc hF, fun q' hq' => zRS_beg hnc (by omega) (Or.inr ⟨hSt, hact, l - 1, by omega, by omega, rfl⟩) (by omega) (hS q' hq')⟩, Or.inr fun κ h => zBeg_fr κ h⟩
