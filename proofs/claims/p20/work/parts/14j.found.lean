/-- what findWay writes is the way -/
theorem zWf_found {I : zIt} {nc t : Nat} (h : zCbs I nc) (hnc : nc ≤ 16) (hnt : t < 12) (hu : (I (64 + t) 0).toNatClampNeg < 10) (hv : (I (64 + t) 1).toNatClampNeg < 10) (f : Nat → Int64) :
    zWf nc (zFound I nc (zMt I nc (zM0 f (I (64 + t) 1).toNatClampNeg) 10).2 (I (64 + t) 0).toNatClampNeg (I (64 + t) 1).toNatClampNeg t) t := by
  obtain ⟨g, hg, hL⟩ := zMt_ls h hv f
  generalize (zMt I nc (zM0 f (I (64 + t) 1).toNatClampNeg) 10).2 = F at *
  have hgu := hg _ hu
  have hc : ∀ i, i < nc → zFound I nc F (I (64 + t) 0).toNatClampNeg (I (64 + t) 1).toNatClampNeg t (32 + i) = I (32 + i) := fun i hi => zFound_ne (by omega) (by omega)
  have h64 : zFound I nc F (I (64 + t) 0).toNatClampNeg (I (64 + t) 1).toNatClampNeg t (64 + t) = I (64 + t) := zFound_ne (by omega) (by omega)
  unfold zWf
  rw [h64]
  refine ⟨F, g, hg, zLs_c hc hL, fun hn => ?_, fun hl => ⟨I (96 + t), ?_⟩⟩
  · have e : F (I (64 + t) 0).toNatClampNeg = zUNR := by
      rw [hgu.1, show g (I (64 + t) 0).toNatClampNeg = 1152921504606846976 by omega]
      rfl
    unfold zFound
    rw [if_pos e]
    exact ⟨zWay_1, zWay_2, zWay_3⟩
  · have e : ¬ F (I (64 + t) 0).toNatClampNeg = zUNR := by
      intro q
      rw [hgu.1] at q
      have := lNi (b := 1152921504606846976) (by omega) (by omega) q
      omega
    rw [zFw_c hc]
    unfold zFound
    rw [if_neg e]
    exact ⟨zWay_1, zWay_2, zWay_3, zWay_row (by omega)⟩
