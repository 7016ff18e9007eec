/-- what the class's methods want, and the reference's -/
theorem zREL_inv {ni nc ns nt hrs : Nat} {I J : zIt} {L K : zLt} (h : zREL ni nc ns nt hrs I L J K) : zInv ni nc ns nt I := by
  obtain ⟨⟨hc, -⟩, bd, -, -, ⟨hCb, -, -⟩, hF, hS, ⟨hU, -⟩, -, -, -⟩ := h
  have hni := bd.1
  have hnc := bd.2.1
  refine ⟨hc, ⟨hF.1.1, hF.1.2.1⟩, hCb, fun q hq => ⟨(hS q hq).2.1.1, (hS q hq).2.2.2.1⟩, fun t ht => ?_⟩
  · obtain ⟨u, v, hu, hv, eu, ev⟩ := hU t ht
    exact ⟨u, v, by omega, by omega, eu, ev⟩
theorem zREL_rv {ni nc ns nt hrs : Nat} {I J : zIt} {L K : zLt} (h : zREL ni nc ns nt hrs I L J K) : zRv ni nc ns nt J := by
  obtain ⟨⟨-, hc⟩, bd, -, -, ⟨hCb, hRC, -⟩, hF, hS, ⟨hU, hT⟩, -, -, -⟩ := h
  refine ⟨hc, ⟨?_, ?_⟩, fun k hk => ?_, fun q hq => ?_, fun t ht => ?_⟩
  · rw [zRF_n hF, hF.1.2.2]; exact hF.1.1
  · rw [zRF_n hF]; exact hF.1.2.1
  · obtain ⟨c1, c2, c3, c4, c5⟩ := hRC k hk
    unfold zRcb
    rw [c1, c2, c3, c4, c5]
    exact hCb k hk
  · obtain ⟨v, h1, h2, h3⟩ := (hS q hq).2.2.2.1
    exact ⟨v, h1, h2, by rw [← (hS q hq).1.1]; exact h3⟩
  · obtain ⟨u, v, hu, hv, eu, ev⟩ := hU t ht
    exact ⟨u, v, hu, hv, by rw [← (hT t ht).1.1]; exact eu, by rw [← (hT t ht).1.2.1]; exact ev⟩
/-- the class's side speaks of keys below 128 alone, the reference's of those above, 'thrown', 'goes' and 'far' apart -/
theorem zREL_c {ni nc ns nt hrs : Nat} {I J I' J' : zIt} {L K L' K' : zLt} (e1 : ∀ κ, κ < 128 → κ ≠ 8 → I' κ = I κ) (e2 : ∀ κ, κ < 128 → L' κ = L κ) (e3 : ∀ κ, 128 < κ → κ ≠ 158 → J' κ = J κ) (e4 : ∀ j, j ≠ 0 → J' 128 j = J 128 j) (e5 : K' 156 = K 156)
    (h : zREL ni nc ns nt hrs I L J K) : zREL ni nc ns nt hrs I' L' J' K' := by
  obtain ⟨⟨⟨a1, a2, a3, a4⟩, b1, b2, b3, b4⟩, bd, ⟨h1, h2⟩, hIs, ⟨hCb, hRC, hNd⟩, hF, hS, ⟨hU, hT⟩, hWl, hWf, hFr⟩ := h
  obtain ⟨hni, hnc, hns, hnt⟩ := id bd
  refine ⟨⟨⟨?_, ?_, ?_, ?_⟩, ?_, ?_, ?_, ?_⟩, bd, ⟨?_, ?_⟩, ?_, ⟨?_, ?_, ?_⟩, ?_, ?_, ⟨?_, ?_⟩, ?_, ?_, ?_⟩
  · rw [e1 0 (by omega) (by omega)]; exact a1
  · rw [e1 1 (by omega) (by omega)]; exact a2
  · rw [e1 0 (by omega) (by omega)]; exact a3
  · rw [e1 0 (by omega) (by omega)]; exact a4
  · rw [e4 _ (by omega)]; exact b1
  · rw [e4 _ (by omega)]; exact b2
  · rw [e4 _ (by omega)]; exact b3
  · rw [e4 _ (by omega)]; exact b4
  · rw [e1 0 (by omega) (by omega)]; exact h1
  · rw [e4 _ (by omega)]; exact h2
  · exact zIs_c (fun i hi j _ => by rw [e1 _ (by omega) (by omega)]) (fun i hi => by rw [e3 _ (by omega) (by omega), e3 _ (by omega) (by omega)]; exact ⟨rfl, rfl⟩) hIs
  · exact zCbs_c (fun i hi => e1 _ (by omega) (by omega)) hCb
  · exact zRC_c hRC (fun k hk j _ => by rw [e1 _ (by omega) (by omega)]) ⟨e3 _ (by omega) (by omega), e3 _ (by omega) (by omega), e3 _ (by omega) (by omega), e3 _ (by omega) (by omega), e3 _ (by omega) (by omega)⟩
  · exact zNd_c (fun k hk => by rw [e1 _ (by omega) (by omega)]; exact ⟨rfl, rfl⟩) hNd
  · exact zRF_c hF (by rw [e1 1 (by omega) (by omega)]) (e1 6 (by omega) (by omega)) (fun c hc => by rw [e1 _ (by omega) (by omega)]; exact ⟨rfl, rfl⟩) (e4 _ (by omega)) (e3 _ (by omega) (by omega))
  · intro q hq
    exact zRS_c (hS q hq) (e1 _ (by omega) (by omega)) (fun c hc => by unfold zspn; rw [e1 _ (by omega) (by omega)]) ⟨by rw [e3 _ (by omega) (by omega)], by rw [e3 _ (by omega) (by omega)], by rw [e3 _ (by omega) (by omega)], by rw [e3 _ (by omega) (by omega)], by rw [e3 _ (by omega) (by omega)], by rw [e3 _ (by omega) (by omega)], by rw [e3 _ (by omega) (by omega)]⟩
  · exact zUV_c (fun t ht => by rw [e1 _ (by omega) (by omega)]; exact ⟨rfl, rfl⟩) hU
  · intro t ht
    exact zRT_c (hT t ht) (e1 _ (by omega) (by omega)) (by rw [e2 _ (by omega)]) ⟨by rw [e3 _ (by omega) (by omega)], by rw [e3 _ (by omega) (by omega)], by rw [e3 _ (by omega) (by omega)], by rw [e3 _ (by omega) (by omega)], by rw [e3 _ (by omega) (by omega)], by rw [e3 _ (by omega) (by omega)]⟩ ⟨by rw [e5], by rw [e5], by rw [e5], by rw [e5]⟩ (Nat.le_refl _)
  · intro t ht
    rw [e1 _ (by omega) (by omega)]
    exact hWl t ht
  · intro e t ht
    rw [e1 0 (by omega) (by omega)] at e
    exact zWf_c (fun i hi => e1 _ (by omega) (by omega)) (by rw [e1 _ (by omega) (by omega)]) (by rw [e1 _ (by omega) (by omega)]) (fun k _ => by rw [e1 _ (by omega) (by omega)]) (e1 _ (by omega) (by omega)) (hWf e t ht)
  · exact zFr_c (fun q _ _ => by rw [e3 143 (by omega) (by omega), e3 146 (by omega) (by omega), e3 148 (by omega) (by omega)]; exact ⟨rfl, rfl, rfl⟩) (fun j _ => by rw [e5]) hFr
theorem zREL_bd {ni nc ns nt hrs : Nat} {I J : zIt} {L K : zLt} (h : zREL ni nc ns nt hrs I L J K) : zRbd ni nc ns nt := h.2.1
theorem zREL_wl {ni nc ns nt hrs : Nat} {I J : zIt} {L K : zLt} (h : zREL ni nc ns nt hrs I L J K) : zWl nt I := h.2.2.2.2.2.2.2.2.1
theorem zREL_rel0 {ni nc ns nt hrs : Nat} {I J : zIt} {L K : zLt} (h : zREL ni nc ns nt hrs I L J K) : zRel0 I J (zGoes J nc) nc :=
  zRel0_of h.2.1.2.1 h.2.2.2.2.1.2.1 h.2.2.2.2.2.1
/-- the ways found, if they were stale -/
theorem zREL_stale {ni nc ns nt hrs : Nat} {I J : zIt} {L K : zLt} (h : zREL ni nc ns nt hrs I L J K) : zREL ni nc ns nt hrs (zStale nc nt (I, L)).1 (zStale nc nt (I, L)).2 J K ∧ ∀ t, t < nt → zWf nc (zStale nc nt (I, L)).1 t := by
  obtain ⟨⟨⟨a1, a2, a3, a4⟩, hb⟩, bd, ⟨h1, h2⟩, hIs, ⟨hCb, hRC, hNd⟩, hF, hS, ⟨hU, hT⟩, hWl, hWf, hFr⟩ := h
  obtain ⟨hni, hnc, hns, hnt⟩ := id bd
  obtain ⟨s1, s2, s3, s4⟩ := zWf_stale (q := (I, L)) hnc hnt hCb (zUV_10 hni hU) hWf
  have hWl3 : zWl nt (zStale nc nt (I, L)).1 := zWl_stale (q := (I, L)) hnt hWl
  have sL : ∀ κ, κ ≠ 7 → (zStale nc nt (I, L)).2 κ = L κ := fun κ hκ => zStale_L (q := (I, L)) hκ
  generalize hI3 : zStale nc nt (I, L) = Q3 at *
  obtain ⟨I3, L3⟩ := Q3
  dsimp only at s1 s2 s3 s4 hWl3 sL ⊢
  have e32 : ∀ i, i < nc → I3 (32 + i) = I (32 + i) := fun i hi => s1 _ (by omega) (by omega)
  refine ⟨⟨⟨⟨?_, ?_, ?_, ?_⟩, hb⟩, bd, ⟨?_, h2⟩, ?_, ⟨?_, ?_, ?_⟩, ?_, ?_, ⟨?_, ?_⟩, hWl3, fun _ => s4, hFr⟩, s4⟩
  · rw [s2 _ (by omega)]; exact a1
  · rw [s1 1 (by omega) (by omega)]; exact a2
  · rw [s2 _ (by omega)]; exact a3
  · rw [s2 _ (by omega)]; exact a4
  · rw [s2 _ (by omega)]; exact h1
  · exact zIs_c (fun i hi j _ => by rw [s1 _ (by omega) (by omega)]) (fun i hi => ⟨rfl, rfl⟩) hIs
  · exact zCbs_c e32 hCb
  · exact zRC_c hRC (fun k hk j _ => by rw [e32 k hk]) ⟨rfl, rfl, rfl, rfl, rfl⟩
  · exact zNd_c (fun k hk => by rw [e32 k hk]; exact ⟨rfl, rfl⟩) hNd
  · exact zRF_c hF (by rw [s1 1 (by omega) (by omega)]) (s1 6 (by omega) (by omega)) (fun c hc => by rw [e32 c hc]; exact ⟨rfl, rfl⟩) rfl rfl
  · intro q hq
    exact zRS_c (hS q hq) (s1 _ (by omega) (by omega)) (fun c hc => by unfold zspn; rw [e32 c hc]) ⟨rfl, rfl, rfl, rfl, rfl, rfl, rfl⟩
  · exact zUV_c (fun t ht => by rw [s1 _ (by omega) (by omega)]; exact ⟨rfl, rfl⟩) hU
  · intro t ht
    exact zRT_c (hT t ht) (s1 _ (by omega) (by omega)) (by rw [sL _ (by omega)]) ⟨rfl, rfl, rfl, rfl, rfl, rfl⟩ ⟨rfl, rfl, rfl, rfl⟩ (Nat.le_refl _)
