/-! ASKING FOR WAYS: class and reference alike -/
theorem zRel0_J {I J J' : zIt} {G : Nat → Int32} {nc : Nat} (e : J' 134 = J 134 ∧ J' 135 = J 135 ∧ J' 137 = J 137 ∧ J' 138 = J 138) (h : zRel0 I J G nc) : zRel0 I J' G nc := by
  obtain ⟨e1, e2, e3, e4⟩ := e
  unfold zRel0
  rw [e1, e2, e3, e4]
  exact h
/-- a trader's cells behind findStaleWays, and what the reference finds -/
theorem s2_cells {ni nc ns nt hrs : Nat} {I J : zIt} {L K : zLt} (h : zREL ni nc ns nt hrs I L J K) {t : Nat} (ht : t < nt) : ∃ u v, u < ni ∧ v < ni ∧ J 150 t = nI u ∧ J 151 t = nI v ∧
    ((∃ P D N : Nat, P ≤ 89991 ∧ D ≤ 4500 ∧ N ≤ 9 ∧ (zStale nc nt (I, L)).1 (80 + t) 1 = nI N ∧ (zStale nc nt (I, L)).1 (80 + t) 2 = nI P ∧ (zStale nc nt (I, L)).1 (80 + t) 3 = nI D ∧ lg_cmp (zFar (zu J 128 0 0) (K 157) ni nc (nI v) u) zFAR < 0 ∧ zFar (zu J 128 0 0) (K 157) ni nc (nI v) u / 1000000 = lN P ∧
      (zFar (zu J 128 0 0) (K 157) ni nc (nI v) u - zFar (zu J 128 0 0) (K 157) ni nc (nI v) u / 1000000 * 1000000) / 100 = lN D ∧ zFar (zu J 128 0 0) (K 157) ni nc (nI v) u - zFar (zu J 128 0 0) (K 157) ni nc (nI v) u / 100 * 100 = lN N ∧
      ∀ j, (if j < N then (zStale nc nt (I, L)).1 (96 + t) j else -1) = zoi (zRw (zs (zu J 128 0 0) 158 (zGoes (zu J 128 0 0) nc)) (zGoes (zu J 128 0 0) nc) (zFar (zu J 128 0 0) (K 157) ni nc (nI v)) nc u j).2) ∨
    ((zStale nc nt (I, L)).1 (80 + t) 1 = -1 ∧ (zStale nc nt (I, L)).1 (80 + t) 2 = -1 ∧ (zStale nc nt (I, L)).1 (80 + t) 3 = -1 ∧ ¬ lg_cmp (zFar (zu J 128 0 0) (K 157) ni nc (nI v) u) zFAR < 0 ∧ ∀ j, zoi (zRw (zs (zu J 128 0 0) 158 (zGoes (zu J 128 0 0) nc)) (zGoes (zu J 128 0 0) nc) (zFar (zu J 128 0 0) (K 157) ni nc (nI v)) nc u j).2 = -1)) := by
  obtain ⟨hs, hW⟩ := zREL_stale h
  generalize (zStale nc nt (I, L)).1 = X at *
  generalize (zStale nc nt (I, L)).2 = Y at *
  have h0 := zREL_ask0 0 hs
  obtain ⟨u, v, hu, hv, eu, ev⟩ := hs.2.2.2.2.2.2.2.1.1 t ht
  have hT := hs.2.2.2.2.2.2.2.1.2 t ht
  refine ⟨u, v, hu, hv, hT.1.1.symm.trans eu, hT.1.2.1.symm.trans ev, ?_⟩
  have hr := zREL_rel0 h0
  rcases zWf_ref hs.2.2.2.2.1.1 hr hs.2.1.1 hs.2.2.2.2.1.2.2 eu ev hu hv (hW t ht) (K 157) with ⟨P, D, N, a1, a2, a3, a4, a5, a6, a7, a8, a9, a10, a11⟩ | ⟨a1, a2, a3, a4, a5⟩
  · exact Or.inl ⟨P, D, N, a1, a2, a3, a4, a5, a6, a7, a8, a9, a10, a11 _ (zRel0_J ⟨zs_ne _ _ (by omega), zs_ne _ _ (by omega), zs_ne _ _ (by omega), zs_ne _ _ (by omega)⟩ hr)⟩
  · exact Or.inr ⟨a1, a2, a3, a4, a5 _⟩
theorem s2_way {ni nc ns nt hrs : Nat} {I J : zIt} {L K : zLt} (h : zREL ni nc ns nt hrs I L J K) {i x : Int32} (hi : zlt i nt) (hx : ¬ x < 0) :
    (if x < (zStale nc nt (I, L)).1 (80 + i.toNatClampNeg) 1 then (zStale nc nt (I, L)).1 (96 + i.toNatClampNeg) x.toNatClampNeg else -1) =
    zoi (zRw (zs (zu J 128 0 0) 158 (zGoes (zu J 128 0 0) nc)) (zGoes (zu J 128 0 0) nc) (zFar (zu J 128 0 0) (K 157) ni nc (J 151 i.toNatClampNeg)) nc (J 150 i.toNatClampNeg).toNatClampNeg x.toNatClampNeg).2 := by
  have hni := h.2.1.1
  obtain ⟨u, v, hu, hv, eu, ev, key⟩ := s2_cells h (zlt_nat hi).2
  obtain ⟨e1, e2⟩ := zge0 hx
  rw [eu, ev, nI_clamp (show u < 2 ^ 31 by omega)]
  rcases key with ⟨P, D, N, -, -, a3, a4, -, -, -, -, -, -, a11⟩ | ⟨a1, -, -, -, a5⟩
  · rw [← a11, a4]
    by_cases hc : x.toNatClampNeg < N
    · rw [if_pos hc, if_pos (by rw [e1, Int32.lt_iff_toInt_lt, nI_toInt e2, nI_toInt (by omega)]; omega)]
    · rw [if_neg hc, if_neg (fun q => hc (by rw [e1, Int32.lt_iff_toInt_lt, nI_toInt e2, nI_toInt (by omega)] at q; omega))]
  · rw [a5, a1, if_neg (fun q => hx (by
      rw [Int32.lt_iff_toInt_lt] at q ⊢
      have q1 : (-1 : Int32).toInt = -1 := by decide
      have q2 : (0 : Int32).toInt = 0 := by decide
      omega))]
theorem s2_sum {ni nc ns nt hrs : Nat} {I J : zIt} {L K : zLt} (h : zREL ni nc ns nt hrs I L J K) {i x : Int32} (hi : zlt i nt) :
    (if x = 0 then (zStale nc nt (I, L)).1 (80 + i.toNatClampNeg) 2 else if x = 1 then (zStale nc nt (I, L)).1 (80 + i.toNatClampNeg) 3 else (zStale nc nt (I, L)).1 (80 + i.toNatClampNeg) 1) =
    (if lg_cmp ((zFar (zu J 128 0 0) (K 157) ni nc (J 151 i.toNatClampNeg)) (J 150 i.toNatClampNeg).toNatClampNeg) zFAR < 0 then (if x = 0 then (((zFar (zu J 128 0 0) (K 157) ni nc (J 151 i.toNatClampNeg)) (J 150 i.toNatClampNeg).toNatClampNeg) / 1000000).toInt32 else if x = 1 then ((((zFar (zu J 128 0 0) (K 157) ni nc (J 151 i.toNatClampNeg)) (J 150 i.toNatClampNeg).toNatClampNeg) - ((zFar (zu J 128 0 0) (K 157) ni nc (J 151 i.toNatClampNeg)) (J 150 i.toNatClampNeg).toNatClampNeg) / 1000000 * 1000000) / 100).toInt32 else (((zFar (zu J 128 0 0) (K 157) ni nc (J 151 i.toNatClampNeg)) (J 150 i.toNatClampNeg).toNatClampNeg) - ((zFar (zu J 128 0 0) (K 157) ni nc (J 151 i.toNatClampNeg)) (J 150 i.toNatClampNeg).toNatClampNeg) / 100 * 100).toInt32) else -1) := by
  have hni := h.2.1.1
  obtain ⟨u, v, hu, hv, eu, ev, key⟩ := s2_cells h (zlt_nat hi).2
  rw [eu, ev, nI_clamp (show u < 2 ^ 31 by omega)]
  rcases key with ⟨P, D, N, a1, a2, a3, a4, a5, a6, a7, a8, a9, a10, -⟩ | ⟨a1, a2, a3, a4, -⟩
  · rw [if_pos a7, a9, a10, a8, a4, a5, a6, lN_i, lN_i, lN_i]
  · rw [if_neg a4, a1, a2, a3]
    split
    · rfl
    · split <;> rfl
theorem s2_fars {ni nc ns nt hrs : Nat} {I J : zIt} {L K : zLt} (h : zREL ni nc ns nt hrs I L J K) {v : Nat} (hv : v < ni) (F0 : Nat → Int64) : ∃ g : Nat → Nat, zRw0 (zMt I nc (zM0 F0 v) 10).2 g ∧ zLs I nc v g ∧ (∀ x, x < 10 → g x < 1152921504606846976 → zDg ni g x) ∧ ∀ x, x < ni → zFar (zu J 128 0 0) (K 157) ni nc (nI v) x = lN (zg2 g x) := by
  have hni := h.2.1.1
  have hCb := h.2.2.2.2.1.1
  have hNd := h.2.2.2.2.1.2.2
  obtain ⟨g, hg, hL⟩ := zMt_ls hCb (show v < 10 by omega) F0
  have hd := zLs_dig hCb hL hv hni (fun k x y hk hA => by
    obtain ⟨-, ⟨e, -⟩ | ⟨e, -⟩⟩ := hA
    · rw [e]; exact (hNd k hk).1
    · rw [e]; exact (hNd k hk).2)
  exact ⟨g, hg, hL, hd, zFar_eq hCb (zREL_rel0 (zREL_ask0 0 h)) hni hNd hv hL _⟩
theorem s2_sumAnew {ni nc ns nt hrs : Nat} {I J : zIt} {L K : zLt} (h : zREL ni nc ns nt hrs I L J K) {t u v : Nat} (ht : t < nt) (eu : I (64 + t) 0 = nI u) (ev : I (64 + t) 1 = nI v) (hu : u < ni) (hv : v < ni) (f0 : Nat → Int32) :
    zPrr I nc (zS0 f0 u) 9 v = (if lg_cmp ((zFar (zu J 128 0 0) (K 157) ni nc (J 151 t)) (J 150 t).toNatClampNeg) zFAR < 0 then (((zFar (zu J 128 0 0) (K 157) ni nc (J 151 t)) (J 150 t).toNatClampNeg) / 1000000).toInt32 else -1) := by
  have hni := h.2.1.1
  have hT := h.2.2.2.2.2.2.2.1.2 t ht
  obtain ⟨g, hg, hL, hd, hF⟩ := s2_fars h hv (fun _ => 0)
  rw [← hT.1.1, ← hT.1.2.1, eu, ev, nI_clamp (show u < 2 ^ 31 by omega), hF u hu, zPrr_eq h.2.2.2.2.1.1 h.2.1.2.1 hg hL hni hd (by omega) (by omega)]
  have hfar := zg2_far (x := u) hni (hd u (by omega))
  by_cases hl : g u < 1152921504606846976
  · rw [if_pos hl, if_pos (hfar.mpr hl), (zg2_parts hni hl (hd u (by omega) hl)).1, lN_i]
  · rw [if_neg hl, if_neg (fun q => hl (hfar.mp q))]
theorem s2_reach {ni nc ns nt hrs : Nat} {I J : zIt} {L K : zLt} (h : zREL ni nc ns nt hrs I L J K) {i : Int32} (hi : zlt i ni) :
    zRer I nc (1 <<< (nI i.toNatClampNeg &&& 31)) 9 = zRch (zFar (zu J 128 0 0) (K 157) ni nc (nI i.toNatClampNeg)) ni := by
  have hni := h.2.1.1
  have hv := (zlt_nat hi).2
  obtain ⟨g, hg, hL, hd, hF⟩ := s2_fars h hv (fun _ => 0)
  exact zReach_eq h.2.2.2.2.1.1 hL hni hd (by omega) hF
