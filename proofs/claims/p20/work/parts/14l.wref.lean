/-- the class's way cells against the reference's row of costs -/
theorem zWf_ref {I J : zIt} {nc n t u v : Nat} (h : zCbs I nc) (hr : zRel0 I J (zGoes J nc) nc) (hn10 : n ≤ 10) (hn : ∀ k, k < nc → zea I k < n ∧ zeb I k < n) (eu : I (64 + t) 0 = nI u) (ev : I (64 + t) 1 = nI v) (hu : u < n) (hv : v < n) (hW : zWf nc I t) (f : Nat → Int64) :
    (∃ P D N : Nat, P ≤ 89991 ∧ D ≤ 4500 ∧ N ≤ 9 ∧ I (80 + t) 1 = nI N ∧ I (80 + t) 2 = nI P ∧ I (80 + t) 3 = nI D ∧ lg_cmp (zFar J f n nc (nI v) u) zFAR < 0 ∧ zFar J f n nc (nI v) u / 1000000 = lN P ∧
      (zFar J f n nc (nI v) u - zFar J f n nc (nI v) u / 1000000 * 1000000) / 100 = lN D ∧ zFar J f n nc (nI v) u - zFar J f n nc (nI v) u / 100 * 100 = lN N ∧
      ∀ J', zRel0 I J' (zGoes J nc) nc → ∀ j, (if j < N then I (96 + t) j else -1) = zoi (zRw J' (zGoes J nc) (zFar J f n nc (nI v)) nc u j).2) ∨
    (I (80 + t) 1 = -1 ∧ I (80 + t) 2 = -1 ∧ I (80 + t) 3 = -1 ∧ ¬ lg_cmp (zFar J f n nc (nI v) u) zFAR < 0 ∧ ∀ J' : zIt, ∀ j, zoi (zRw J' (zGoes J nc) (zFar J f n nc (nI v)) nc u j).2 = -1) := by
  obtain ⟨F, g, a1, a2, a3, a4⟩ := hW
  have cu : (I (64 + t) 0).toNatClampNeg = u := by rw [eu, nI_clamp (by omega)]
  have cv : (I (64 + t) 1).toNatClampNeg = v := by rw [ev, nI_clamp (by omega)]
  rw [cu] at a3
  rw [cu, cv] at a4
  rw [cv] at a2
  have hd := zLs_dig h a2 hv hn10 (fun k x y hk hA => by
    obtain ⟨-, ⟨e, -⟩ | ⟨e, -⟩⟩ := hA
    · rw [e]; exact (hn k hk).1
    · rw [e]; exact (hn k hk).2)
  have hF := zFar_eq h hr hn10 hn hv a2 f
  have hfu := hF u hu
  have hfar := zg2_far (x := u) hn10 (hd u (by omega))
  by_cases hl : g u < 1152921504606846976
  · obtain ⟨row, b1, b2, b3, b4⟩ := a4 hl
    have hdu := hd u (by omega) hl
    have hb := zDg_b hn10 hdu
    obtain ⟨p1, p2, p3⟩ := zg2_parts hn10 hl hdu
    have hrow := fun (J' : zIt) (hJ' : zRel0 I J' (zGoes J nc) nc) (j : Nat) => zRw_row (J := J') (G := zGoes J nc) (f := zFar J f n nc (nI v)) h hJ' a1 a2 hn10 hd hF (show v < 10 by omega) (show u < 10 by omega) hl row j
    obtain ⟨-, r1, r2, r3⟩ := hrow J hr 0
    refine Or.inl ⟨zgP g u, zgD g u, zgN g u, hb.2.2.1, hb.2.1, hb.1, by rw [b1, r1], by rw [b2, r2], by rw [b3, r3], by rw [hfu]; exact hfar.mpr hl, by rw [hfu]; exact p1, by rw [hfu]; exact p2, by rw [hfu]; exact p3, fun J' hJ' j => ?_⟩
    rw [b4]
    exact (hrow J' hJ' j).1
  · obtain ⟨b1, b2, b3⟩ := a3 hl
    refine Or.inr ⟨b1, b2, b3, by rw [hfu]; exact fun q => hl (hfar.mp q), fun J' j => zRw_non hF hu hl j⟩
