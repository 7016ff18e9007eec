theorem s2_fault {ni nc ns nt hrs : Nat} {I J : zIt} {L K : zLt} (h : zREL ni nc ns nt hrs I L J K) {j k : Int32} (hj : zlt j nc) (hk : zlt k (zSpn I j)) (hno : ¬ zHasF I (32 + j.toNatClampNeg) k) :
    zREL ni nc ns nt hrs (zAddF (zu I 0 7 1) j.toNatClampNeg k) L (zu (zu (zu J 128 0 0) 140 (zRn J) (8 * j + k)) 128 11 (nI (zRn J + 1))) K ∧ zNf I = zRn J ∧ zNf I < 128 := by
  obtain ⟨c, hc, rfl⟩ := zlt_ex hj
  obtain ⟨s, hs, rfl⟩ := zlt_ex hk
  obtain ⟨⟨⟨a1, a2, a3, a4⟩, b1, b2, b3, b4⟩, bd, ⟨h1, h2⟩, hIs, ⟨hCb, hRC, hNd⟩, hF, hS, ⟨hU, hT⟩, hWl, hWf, hFr⟩ := h
  obtain ⟨hni, hnc, hns, hnt⟩ := id bd
  have hs' : s < zspn I c := by
    unfold zSpn at hs
    rw [nI_clamp (by omega)] at hs
    exact hs
  rw [nI_clamp (by omega)] at hno ⊢
  rw [zRF_n hF, zcode]
  obtain ⟨⟨f1, f2, f3⟩, hFl, f4, f5⟩ := id hF
  have hno' : ¬ ∃ j, j < zNf I ∧ I 6 j = nI (8 * c + s) := fun q => hno ((zFl_has (mk := fun c => I (32 + c) 5) f5 hFl hc hs').mpr q)
  have hn := zFl_room hnc f5 hFl hc hs' hno'
  have hadd := zFl_add hnc f5 hFl hc hs' hno'
  have en : zNf (zu I 0 7 1) = zNf I := zNf_eq (zu_ne _ _ (by omega))
  have eI : zAddF (zu I 0 7 1) c (nI s) = zu (zu (zu (zu I 0 7 1) (32 + c) 5 (I (32 + c) 5 ||| (1 <<< (nI s &&& 31)))) 6 (zNf I) (nI (8 * c + s))) 1 3 (nI (zNf I + 1)) := by
    unfold zAddF
    rw [en, zcode, zu_ne (κ' := 32 + c) _ _ (by omega)]
  rw [eI]
  generalize hX : zu (zu (zu (zu I 0 7 1) (32 + c) 5 (I (32 + c) 5 ||| (1 <<< (nI s &&& 31)))) 6 (zNf I) (nI (8 * c + s))) 1 3 (nI (zNf I + 1)) = X
  generalize hY : zu (zu (zu J 128 0 0) 140 (zNf I) (nI (8 * c + s))) 128 11 (nI (zNf I + 1)) = Y
  have z0 : ∀ κ j, ¬ (κ = 0 ∧ j = 7) → ¬ (κ = 32 + c ∧ j = 5) → κ ≠ 6 → ¬ (κ = 1 ∧ j = 3) → X κ j = I κ j := fun κ j q1 q2 q3 q4 => by rw [← hX, zu_ne _ _ q4, zu_rne q3, zu_ne _ _ q2, zu_ne _ _ q1]
  have zr : ∀ κ, κ ≠ 0 → κ ≠ 32 + c → κ ≠ 6 → κ ≠ 1 → X κ = I κ := fun κ q1 q2 q3 q4 => by funext j; exact z0 κ j (by omega) (by omega) q3 (by omega)
  have y0 : ∀ κ j, ¬ (κ = 128 ∧ (j = 0 ∨ j = 11)) → κ ≠ 140 → Y κ j = J κ j := fun κ j q1 q2 => by rw [← hY, zu_ne _ _ (by omega), zu_rne q2, zu_ne _ _ (by omega)]
  have yr : ∀ κ, κ ≠ 128 → κ ≠ 140 → Y κ = J κ := fun κ q1 q2 => by funext j; exact y0 κ j (by omega) q2
  have x13 : X 1 3 = nI (zNf I + 1) := by rw [← hX, zu_self]
  have x6 : X 6 = zs (I 6) (zNf I) (nI (8 * c + s)) := by
    rw [← hX, zu_rne (by omega), zu_row, zs_self, zu_rne (by omega), zu_rne (by omega)]
  have x5 : X (32 + c) 5 = I (32 + c) 5 ||| (1 <<< (nI s &&& 31)) := by rw [← hX, zu_ne _ _ (by omega), zu_rne (by omega), zu_self]
  have x07 : X 0 7 = 1 := by rw [← hX, zu_ne _ _ (by omega), zu_rne (by omega), zu_ne _ _ (by omega), zu_self]
  have xn : zNf X = zNf I + 1 := by
    unfold zNf at x13 hn ⊢
    rw [x13, nI_clamp (by omega)]
  have xsp : ∀ c', c' < nc → zspn X c' = zspn I c' := fun c' hc' => by unfold zspn; rw [z0 _ _ (by omega) (by omega) (by omega) (by omega)]
  have y11 : Y 128 11 = nI (zNf I + 1) := by rw [← hY, zu_self]
  have y140 : Y 140 = zs (J 140) (zNf I) (nI (8 * c + s)) := by
    rw [← hY, zu_rne (by omega), zu_row, zs_self, zu_rne (by omega)]
  have e5 : ∀ k, k < nc → ∀ j, j < 5 → X (32 + k) j = I (32 + k) j := fun k hk j hj => z0 _ _ (by omega) (by omega) (by omega) (by omega)
  refine ⟨⟨⟨⟨?_, ?_, ?_, ?_⟩, ?_, ?_, ?_, ?_⟩, bd, ⟨?_, ?_⟩, ?_, ⟨?_, ?_, ?_⟩, ?_, ?_, ⟨?_, ?_⟩, ?_, ?_, ?_⟩, rfl, hn⟩
  · rw [z0 _ _ (by omega) (by omega) (by omega) (by omega)]; exact a1
  · rw [z0 _ _ (by omega) (by omega) (by omega) (by omega)]; exact a2
  · rw [z0 _ _ (by omega) (by omega) (by omega) (by omega)]; exact a3
  · rw [z0 _ _ (by omega) (by omega) (by omega) (by omega)]; exact a4
  · rw [y0 _ _ (by omega) (by omega)]; exact b1
  · rw [y0 _ _ (by omega) (by omega)]; exact b2
  · rw [y0 _ _ (by omega) (by omega)]; exact b3
  · rw [y0 _ _ (by omega) (by omega)]; exact b4
  · rw [z0 _ _ (by omega) (by omega) (by omega) (by omega)]; exact h1
  · rw [y0 _ _ (by omega) (by omega)]; exact h2
  · exact zIs_c (fun i hi j _ => z0 _ _ (by omega) (by omega) (by omega) (by omega)) (fun i hi => by rw [yr _ (by omega) (by omega), yr _ (by omega) (by omega)]; exact ⟨rfl, rfl⟩) hIs
  · exact fun k hk => zCb_c (e5 k hk) (hCb k hk)
  · exact zRC_c hRC e5 ⟨yr _ (by omega) (by omega), yr _ (by omega) (by omega), yr _ (by omega) (by omega), yr _ (by omega) (by omega), yr _ (by omega) (by omega)⟩
  · exact zNd_c (fun k hk => ⟨e5 k hk 0 (by omega), e5 k hk 1 (by omega)⟩) hNd
  · refine ⟨⟨by rw [x13, xn], by rw [xn]; omega, by rw [y11, x13]⟩, ?_, fun j hj => ?_, fun c' hc' => by rw [xsp c' hc']; exact f5 c' hc'⟩
    · rw [xn, x6]
      refine zFl_congr hadd xsp (fun c' hc' => ?_) (fun j _ => rfl)
      by_cases hcc : c' = c
      · subst hcc
        rw [zs_self]
        exact x5
      · rw [zs_ne _ _ hcc]
        exact z0 _ _ (by omega) (by omega) (by omega) (by omega)
    · rw [xn] at hj
      rw [y140, x6]
      by_cases hjn : j = zNf I
      · rw [hjn, zs_self, zs_self]
      · rw [zs_ne _ _ hjn, zs_ne _ _ hjn]
        exact f4 j (by omega)
  · intro q hq
    exact zRS_c (hS q hq) (zr _ (by omega) (by omega) (by omega) (by omega)) xsp ⟨by rw [yr _ (by omega) (by omega)], by rw [yr _ (by omega) (by omega)], by rw [yr _ (by omega) (by omega)], by rw [yr _ (by omega) (by omega)], by rw [yr _ (by omega) (by omega)], by rw [yr _ (by omega) (by omega)], by rw [yr _ (by omega) (by omega)]⟩
  · exact zUV_c (fun t ht => by rw [zr _ (by omega) (by omega) (by omega) (by omega)]; exact ⟨rfl, rfl⟩) hU
  · intro t ht
    exact zRT_c (hT t ht) (zr _ (by omega) (by omega) (by omega) (by omega)) rfl ⟨by rw [yr _ (by omega) (by omega)], by rw [yr _ (by omega) (by omega)], by rw [yr _ (by omega) (by omega)], by rw [yr _ (by omega) (by omega)], by rw [yr _ (by omega) (by omega)], by rw [yr _ (by omega) (by omega)]⟩ ⟨rfl, rfl, rfl, rfl⟩ (Nat.le_refl _)
  · intro t ht
    rw [zr _ (by omega) (by omega) (by omega) (by omega)]
    exact hWl t ht
  · intro e
    rw [x07] at e
    exact absurd e (by decide)
  · exact zFr_c (fun q _ _ => by rw [yr 143 (by omega) (by omega), yr 146 (by omega) (by omega), yr 148 (by omega) (by omega)]; exact ⟨rfl, rfl, rfl⟩) (fun j _ => rfl) hFr
/-- ships alone have changed -/
theorem zREL_ships {ni nc ns nt hrs : Nat} {I J I' J' : zIt} {L K : zLt} (h : zREL ni nc ns nt hrs I L J K) (e1 : ∀ κ, κ < 48 ∨ 52 ≤ κ → I' κ = I κ) (e3 : ∀ κ, 128 < κ → κ < 142 ∨ 149 ≤ κ → J' κ = J κ) (e4 : ∀ j, j ≠ 0 → J' 128 j = J 128 j) (e5 : ∀ q, ns ≤ q → q < 4 → J' 143 q = J 143 q ∧ J' 146 q = J 146 q ∧ J' 148 q = J 148 q) (hS : ∀ q, q < ns → zRS nc I' J' q) : zREL ni nc ns nt hrs I' L J' K := by
  obtain ⟨⟨⟨a1, a2, a3, a4⟩, b1, b2, b3, b4⟩, bd, ⟨h1, h2⟩, hIs, ⟨hCb, hRC, hNd⟩, hF, -, ⟨hU, hT⟩, hWl, hWf, hFr⟩ := h
  obtain ⟨hni, hnc, hns, hnt⟩ := id bd
  refine ⟨⟨⟨?_, ?_, ?_, ?_⟩, ?_, ?_, ?_, ?_⟩, bd, ⟨?_, ?_⟩, ?_, ⟨?_, ?_, ?_⟩, ?_, hS, ⟨?_, ?_⟩, ?_, ?_, ?_⟩
  · rw [e1 0 (by omega)]; exact a1
  · rw [e1 1 (by omega)]; exact a2
  · rw [e1 0 (by omega)]; exact a3
  · rw [e1 0 (by omega)]; exact a4
  · rw [e4 _ (by omega)]; exact b1
  · rw [e4 _ (by omega)]; exact b2
  · rw [e4 _ (by omega)]; exact b3
  · rw [e4 _ (by omega)]; exact b4
  · rw [e1 0 (by omega)]; exact h1
  · rw [e4 _ (by omega)]; exact h2
  · exact zIs_c (fun i hi j _ => by rw [e1 _ (by omega)]) (fun i hi => by rw [e3 _ (by omega) (by omega), e3 _ (by omega) (by omega)]; exact ⟨rfl, rfl⟩) hIs
  · exact zCbs_c (fun i hi => e1 _ (by omega)) hCb
  · exact zRC_c hRC (fun k hk j _ => by rw [e1 _ (by omega)]) ⟨e3 _ (by omega) (by omega), e3 _ (by omega) (by omega), e3 _ (by omega) (by omega), e3 _ (by omega) (by omega), e3 _ (by omega) (by omega)⟩
  · exact zNd_c (fun k hk => by rw [e1 _ (by omega)]; exact ⟨rfl, rfl⟩) hNd
  · exact zRF_c hF (by rw [e1 1 (by omega)]) (e1 6 (by omega)) (fun c hc => by rw [e1 _ (by omega)]; exact ⟨rfl, rfl⟩) (e4 _ (by omega)) (e3 _ (by omega) (by omega))
  · exact zUV_c (fun t ht => by rw [e1 _ (by omega)]; exact ⟨rfl, rfl⟩) hU
  · intro t ht
    exact zRT_c (hT t ht) (e1 _ (by omega)) rfl ⟨by rw [e3 _ (by omega) (by omega)], by rw [e3 _ (by omega) (by omega)], by rw [e3 _ (by omega) (by omega)], by rw [e3 _ (by omega) (by omega)], by rw [e3 _ (by omega) (by omega)], by rw [e3 _ (by omega) (by omega)]⟩ ⟨rfl, rfl, rfl, rfl⟩ (Nat.le_refl _)
  · intro t ht
    rw [e1 _ (by omega)]
    exact hWl t ht
  · intro e t ht
    rw [e1 0 (by omega)] at e
    exact zWf_c (fun i hi => e1 _ (by omega)) (by rw [e1 _ (by omega)]) (by rw [e1 _ (by omega)]) (fun k _ => by rw [e1 _ (by omega)]) (e1 _ (by omega)) (hWf e t ht)
  · exact zFr_c e5 (fun _ _ => rfl) hFr
