theorem zCbs_c {I I' : zIt} {nc : Nat} (h : ∀ i, i < nc → I' (32 + i) = I (32 + i)) (hC : zCbs I nc) : zCbs I' nc := fun i hi => by
  unfold zCb
  rw [h i hi]
  exact hC i hi
/-- all ways found anew -/
theorem zWf_fs {nc nt : Nat} {q : zIt × zLt} (hnc : nc ≤ 16) (hnt : nt ≤ 12) (h : zCbs q.1 nc) (hu : ∀ t, t < nt → (q.1 (64 + t) 0).toNatClampNeg < 10 ∧ (q.1 (64 + t) 1).toNatClampNeg < 10) : ∀ k, k ≤ nt →
    (∀ κ, κ < 80 ∨ 112 ≤ κ → (zFs nc q k).1 κ = q.1 κ) ∧ ∀ t, t < k → zWf nc (zFs nc q k).1 t := by
  intro k
  induction k with
  | zero => intro _; exact ⟨fun κ _ => rfl, fun t ht => absurd ht (by omega)⟩
  | succ k ih =>
    intro hk
    obtain ⟨i1, i2⟩ := ih (by omega)
    have hC : zCbs (zFs nc q k).1 nc := zCbs_c (fun i hi => i1 _ (by omega)) h
    have hk0 := hu k (by omega)
    have e64 : (zFs nc q k).1 (64 + k) = q.1 (64 + k) := i1 _ (by omega)
    show (∀ κ, κ < 80 ∨ 112 ≤ κ → (zFs1 nc (zFs nc q k) k).1 κ = q.1 κ) ∧ ∀ t, t < k + 1 → zWf nc (zFs1 nc (zFs nc q k) k).1 t
    unfold zFs1
    dsimp only
    refine ⟨fun κ hκ => ?_, fun t ht => ?_⟩
    · rw [zFound_ne (by omega) (by omega)]
      exact i1 κ hκ
    · by_cases htk : t = k
      · subst htk
        exact zWf_found hC hnc (by omega) (by rw [e64]; exact hk0.1) (by rw [e64]; exact hk0.2) _
      · refine zWf_c (I := (zFs nc q k).1) (fun i hi => zFound_ne (by omega) (by omega)) ?_ ?_ (fun j _ => ?_) (zFound_ne (by omega) (by omega)) (i2 t (by omega))
        · rw [zFound_ne (by omega) (by omega)]
        · rw [zFound_ne (by omega) (by omega)]
        · rw [zFound_ne (by omega) (by omega)]
/-- fresh ways, or stale ones: behind findStaleWays they are fresh -/
theorem zWf_stale {nc nt : Nat} {q : zIt × zLt} (hnc : nc ≤ 16) (hnt : nt ≤ 12) (h : zCbs q.1 nc) (hu : ∀ t, t < nt → (q.1 (64 + t) 0).toNatClampNeg < 10 ∧ (q.1 (64 + t) 1).toNatClampNeg < 10) (hf : q.1 0 7 = 0 → ∀ t, t < nt → zWf nc q.1 t) :
    (∀ κ, κ ≠ 0 → κ < 80 ∨ 112 ≤ κ → (zStale nc nt q).1 κ = q.1 κ) ∧ (∀ k, k ≠ 7 → (zStale nc nt q).1 0 k = q.1 0 k) ∧ (zStale nc nt q).1 0 7 = 0 ∧ ∀ t, t < nt → zWf nc (zStale nc nt q).1 t := by
  unfold zStale
  by_cases h0 : q.1 0 7 = 0
  · rw [if_pos h0]
    exact ⟨fun κ _ _ => rfl, fun k _ => rfl, h0, hf h0⟩
  · rw [if_neg h0]
    dsimp only
    obtain ⟨i1, i2⟩ := zWf_fs hnc hnt h hu nt (Nat.le_refl _)
    refine ⟨fun κ h1 h2 => by rw [zu_rne h1, i1 κ h2], fun k hk => by rw [zu_ne _ _ (by omega), i1 0 (by omega)], zu_self _ _ _ _, fun t ht => ?_⟩
    refine zWf_c (I := (zFs nc q nt).1) (fun i hi => zu_rne (by omega)) (zu_ne _ _ (by omega)) (zu_ne _ _ (by omega)) (fun j _ => zu_ne _ _ (by omega)) (zu_rne (by omega)) (i2 t ht)
