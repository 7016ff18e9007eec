/-! ISLANDS AND SHIPS MADE (laid by m_step3.py) -/
theorem s2_island {ni nc ns nt hrs : Nat} {I J : zIt} {L K : zLt} (h : zREL ni nc ns nt hrs I L J K) {i j : Int32} (hi : zin i 0 99) (hj : zin j 0 99) (hlt : ni < 10) :
    zREL (ni + 1) nc ns nt hrs (zu (zu (zu (zs I (16 + ni) (fun _ => 0)) (16 + ni) 0 i) (16 + ni) 1 j) 0 1 (nI (ni + 1))) (zs L (16 + ni) (fun _ => 0)) (zu (zu (zu (zu J 128 0 0) 131 ni i) 132 ni j) 128 2 (nI (ni + 1))) K := by
  obtain ⟨⟨⟨a1, a2, a3, a4⟩, b1, b2, b3, b4⟩, bd, ⟨h1, h2⟩, hIs, ⟨hCb, hRC, hNd⟩, hF, hS, ⟨hU, hT⟩, hWl, hWf, hFr⟩ := h
  obtain ⟨hni, hnc, hns, hnt⟩ := id bd
  obtain ⟨a, -, ha, rfl⟩ := zin_ex (a := 0) (b := 99) (by omega) hi (by omega)
  obtain ⟨b, -, hb, rfl⟩ := zin_ex (a := 0) (b := 99) (by omega) hj (by omega)
  generalize hX : zu (zu (zu (zs I (16 + ni) (fun _ => 0)) (16 + ni) 0 (nI a)) (16 + ni) 1 (nI b)) 0 1 (nI (ni + 1)) = X
  generalize hY : zu (zu (zu (zu J 128 0 0) 131 ni (nI a)) 132 ni (nI b)) 128 2 (nI (ni + 1)) = Y
  generalize hZ : zs L (16 + ni) (fun _ => 0) = Z
  have zN : ∀ κ k, (κ ≠ 16 + ni ∧ ¬ (κ = 0 ∧ k = 1)) → X κ k = I κ k := fun κ k q => by
    rw [← hX]
    unfold zu zs
    repeat (first | rw [if_neg (by omega)] | dsimp only | rfl)
  have yN : ∀ κ k, (¬ (κ = 128 ∧ (k = 0 ∨ k = 2)) ∧ ¬ ((κ = 131 ∨ κ = 132) ∧ k = ni)) → Y κ k = J κ k := fun κ k q => by
    rw [← hY]
    unfold zu
    repeat (first | rw [if_neg (by omega)] | dsimp only | rfl)
  have lN0 : ∀ κ, (κ ≠ 16 + ni) → Z κ = L κ := fun κ q => by
    funext k
    rw [← hZ]
    unfold zs
    (try unfold zu)
    repeat (first | rw [if_neg (by omega)] | dsimp only | rfl)
  have xC : X 0 1 = nI (ni + 1) := by rw [← hX]; unfold zu; (try unfold zs); repeat (first | rw [if_pos (by omega)] | rw [if_neg (by omega)] | dsimp only | rfl)
  have yC : Y 128 2 = nI (ni + 1) := by rw [← hY]; unfold zu; (try unfold zs); repeat (first | rw [if_pos (by omega)] | rw [if_neg (by omega)] | dsimp only | rfl)
  have bdN : zRbd (ni + 1) nc ns nt := by unfold zRbd; omega
  have x0 : X (16 + ni) 0 = nI a := by rw [← hX]; unfold zu; (try unfold zs); repeat (first | rw [if_pos (by omega)] | rw [if_neg (by omega)] | dsimp only | rfl)
  have x1 : X (16 + ni) 1 = nI b := by rw [← hX]; unfold zu; (try unfold zs); repeat (first | rw [if_pos (by omega)] | rw [if_neg (by omega)] | dsimp only | rfl)
  have y0 : Y 131 ni = nI a := by rw [← hY]; unfold zu; (try unfold zs); repeat (first | rw [if_pos (by omega)] | rw [if_neg (by omega)] | dsimp only | rfl)
  have y1 : Y 132 ni = nI b := by rw [← hY]; unfold zu; (try unfold zs); repeat (first | rw [if_pos (by omega)] | rw [if_neg (by omega)] | dsimp only | rfl)
  refine ⟨⟨⟨?_, ?_, ?_, ?_⟩, ?_, ?_, ?_, ?_⟩, ?_, ⟨?_, ?_⟩, ?_, ⟨?_, ?_, ?_⟩, ?_, ?_, ⟨?_, ?_⟩, ?_, ?_, ?_⟩
  · exact xC
  · exact (zN _ _ (by omega)).trans a2
  · exact (zN _ _ (by omega)).trans a3
  · exact (zN _ _ (by omega)).trans a4
  · exact yC
  · exact (yN _ _ (by omega)).trans b2
  · exact (yN _ _ (by omega)).trans b3
  · exact (yN _ _ (by omega)).trans b4
  · exact bdN
  · exact (zN _ _ (by omega)).trans h1
  · exact (yN _ _ (by omega)).trans h2
  · intro i hi
    by_cases hin : i = ni
    · subst hin
      exact ⟨a, b, by omega, by omega, x0, x1, y0, y1⟩
    · obtain ⟨x, y, g1, g2, g3, g4, g5, g6⟩ := hIs i (by omega)
      exact ⟨x, y, g1, g2, (zN _ _ (by omega)).trans g3, (zN _ _ (by omega)).trans g4, (yN _ _ (by omega)).trans g5, (yN _ _ (by omega)).trans g6⟩
  · exact fun k hk => zCb_c (fun j _ => zN _ _ (by omega)) (hCb k hk)
  · intro k hk
    obtain ⟨g1, g2, g3, g4, g5⟩ := hRC k hk
    rw [yN 134 _ (by omega), yN 135 _ (by omega), yN 136 _ (by omega), yN 137 _ (by omega), yN 138 _ (by omega), zN _ 0 (by omega), zN _ 1 (by omega), zN _ 2 (by omega), zN _ 3 (by omega), zN _ 4 (by omega)]
    exact ⟨g1, g2, g3, g4, g5⟩
  · intro k hk
    rw [zea_c (I := I) (zN _ _ (by omega)), zeb_c (I := I) (zN _ _ (by omega))]
    have := hNd k hk
    omega
  · exact zRF_c hF (zN _ _ (by omega)) (by funext j; exact zN _ _ (by omega)) (fun c hc => ⟨zN _ _ (by omega), zN _ _ (by omega)⟩) (yN _ _ (by omega)) (by funext j; exact yN _ _ (by omega))
  · intro q hq
    exact zRS_c (hS q hq) (by funext j; exact zN _ _ (by omega)) (fun c hc => by unfold zspn; rw [zN _ _ (by omega)]) ⟨yN _ _ (by omega), yN _ _ (by omega), yN _ _ (by omega), yN _ _ (by omega), yN _ _ (by omega), yN _ _ (by omega), yN _ _ (by omega)⟩
  · intro t ht
    obtain ⟨u, v, hu, hv, eu, ev⟩ := hU t ht
    exact ⟨u, v, by omega, by omega, (zN _ _ (by omega)).trans eu, (zN _ _ (by omega)).trans ev⟩
  · intro t ht
    exact zRT_c (hT t ht) (by funext j; exact zN _ _ (by omega)) (congrFun (lN0 _ (by omega)) _) ⟨yN _ _ (by omega), yN _ _ (by omega), yN _ _ (by omega), yN _ _ (by omega), yN _ _ (by omega), yN _ _ (by omega)⟩ ⟨rfl, rfl, rfl, rfl⟩ (Nat.le_refl _)
  · intro t ht
    rw [zN _ _ (by omega)]
    exact hWl t ht
  · intro e t ht
    rw [zN 0 7 (by omega)] at e
    exact zWf_c (fun i hi => by funext j; exact zN _ _ (by omega)) (zN _ _ (by omega)) (zN _ _ (by omega)) (fun k _ => zN _ _ (by omega)) (by funext j; exact zN _ _ (by omega)) (hWf e t ht)
  · exact zFr_c (fun q _ _ => ⟨yN _ _ (by omega), yN _ _ (by omega), yN _ _ (by omega)⟩) (fun j _ => rfl) hFr

theorem s2_ship {ni nc ns nt hrs : Nat} {I J : zIt} {L K : zLt} (h : zREL ni nc ns nt hrs I L J K) {i x : Int32} (hi : zlt i ni) (hx : zin x 1 20) (hlt : ns < 4) :
    zREL ni nc (ns + 1) nt hrs (zu (zu (zu (zu (zu (zu (zu (zu (zu (zs I (48 + ns) (fun _ => 0)) (48 + ns) 3 0) (48 + ns) 4 0) (48 + ns) 5 (-1)) (48 + ns) 6 (-1)) (48 + ns) 7 0) (48 + ns) 1 (I (16 + i.toNatClampNeg) 0)) (48 + ns) 2 (I (16 + i.toNatClampNeg) 1)) (48 + ns) 0 x) 0 4 (nI (ns + 1))) (zs L (48 + ns) (fun _ => 0)) (zu (zu (zu (zu (zu J 128 0 0) 142 ns x) 144 ns (J 131 i.toNatClampNeg)) 145 ns (J 132 i.toNatClampNeg)) 128 13 (nI (ns + 1))) K := by
  obtain ⟨⟨⟨a1, a2, a3, a4⟩, b1, b2, b3, b4⟩, bd, ⟨h1, h2⟩, hIs, ⟨hCb, hRC, hNd⟩, hF, hS, ⟨hU, hT⟩, hWl, hWf, hFr⟩ := h
  obtain ⟨hni, hnc, hns, hnt⟩ := id bd
  obtain ⟨v, hv1, hv2, rfl⟩ := zin_ex (a := 1) (b := 20) (by omega) hx (by omega)
  obtain ⟨a, b, ha, hb, e1, e2, e3, e4⟩ := hIs _ (zlt_nat hi).2
  rw [e1, e2, e3, e4]
  generalize hX : zu (zu (zu (zu (zu (zu (zu (zu (zu (zs I (48 + ns) (fun _ => 0)) (48 + ns) 3 0) (48 + ns) 4 0) (48 + ns) 5 (-1)) (48 + ns) 6 (-1)) (48 + ns) 7 0) (48 + ns) 1 (nI a)) (48 + ns) 2 (nI b)) (48 + ns) 0 (nI v)) 0 4 (nI (ns + 1)) = X
  generalize hY : zu (zu (zu (zu (zu J 128 0 0) 142 ns (nI v)) 144 ns (nI a)) 145 ns (nI b)) 128 13 (nI (ns + 1)) = Y
  generalize hZ : zs L (48 + ns) (fun _ => 0) = Z
  have zN : ∀ κ k, (κ ≠ 48 + ns ∧ ¬ (κ = 0 ∧ k = 4)) → X κ k = I κ k := fun κ k q => by
    rw [← hX]
    unfold zu zs
    repeat (first | rw [if_neg (by omega)] | dsimp only | rfl)
  have yN : ∀ κ k, (¬ (κ = 128 ∧ (k = 0 ∨ k = 13)) ∧ ¬ ((κ = 142 ∨ κ = 144 ∨ κ = 145) ∧ k = ns)) → Y κ k = J κ k := fun κ k q => by
    rw [← hY]
    unfold zu
    repeat (first | rw [if_neg (by omega)] | dsimp only | rfl)
  have lN0 : ∀ κ, (κ ≠ 48 + ns) → Z κ = L κ := fun κ q => by
    funext k
    rw [← hZ]
    unfold zs
    (try unfold zu)
    repeat (first | rw [if_neg (by omega)] | dsimp only | rfl)
  have xC : X 0 4 = nI (ns + 1) := by rw [← hX]; unfold zu; (try unfold zs); repeat (first | rw [if_pos (by omega)] | rw [if_neg (by omega)] | dsimp only | rfl)
  have yC : Y 128 13 = nI (ns + 1) := by rw [← hY]; unfold zu; (try unfold zs); repeat (first | rw [if_pos (by omega)] | rw [if_neg (by omega)] | dsimp only | rfl)
  have bdN : zRbd ni nc (ns + 1) nt := by unfold zRbd; omega
  have x0 : X (48 + ns) 0 = nI v := by rw [← hX]; unfold zu; (try unfold zs); repeat (first | rw [if_pos (by omega)] | rw [if_neg (by omega)] | dsimp only | rfl)
  have x1 : X (48 + ns) 1 = nI a := by rw [← hX]; unfold zu; (try unfold zs); repeat (first | rw [if_pos (by omega)] | rw [if_neg (by omega)] | dsimp only | rfl)
  have x2 : X (48 + ns) 2 = nI b := by rw [← hX]; unfold zu; (try unfold zs); repeat (first | rw [if_pos (by omega)] | rw [if_neg (by omega)] | dsimp only | rfl)
  have x3 : X (48 + ns) 3 = 0 := by rw [← hX]; unfold zu; (try unfold zs); repeat (first | rw [if_pos (by omega)] | rw [if_neg (by omega)] | dsimp only | rfl)
  have x4 : X (48 + ns) 4 = 0 := by rw [← hX]; unfold zu; (try unfold zs); repeat (first | rw [if_pos (by omega)] | rw [if_neg (by omega)] | dsimp only | rfl)
  have x5 : X (48 + ns) 5 = -1 := by rw [← hX]; unfold zu; (try unfold zs); repeat (first | rw [if_pos (by omega)] | rw [if_neg (by omega)] | dsimp only | rfl)
  have x7 : X (48 + ns) 7 = 0 := by rw [← hX]; unfold zu; (try unfold zs); repeat (first | rw [if_pos (by omega)] | rw [if_neg (by omega)] | dsimp only | rfl)
  have y0 : Y 142 ns = nI v := by rw [← hY]; unfold zu; (try unfold zs); repeat (first | rw [if_pos (by omega)] | rw [if_neg (by omega)] | dsimp only | rfl)
  have y1 : Y 144 ns = nI a := by rw [← hY]; unfold zu; (try unfold zs); repeat (first | rw [if_pos (by omega)] | rw [if_neg (by omega)] | dsimp only | rfl)
  have y2 : Y 145 ns = nI b := by rw [← hY]; unfold zu; (try unfold zs); repeat (first | rw [if_pos (by omega)] | rw [if_neg (by omega)] | dsimp only | rfl)
  obtain ⟨j3, j6, j8⟩ := hFr.1 ns (by omega) hlt
  have y3 : Y 143 ns = 0 := (yN _ _ (by omega)).trans j3
  have y6 : Y 146 ns = 0 := (yN _ _ (by omega)).trans j6
  have y8 : Y 148 ns = 0 := (yN _ _ (by omega)).trans j8
  refine ⟨⟨⟨?_, ?_, ?_, ?_⟩, ?_, ?_, ?_, ?_⟩, ?_, ⟨?_, ?_⟩, ?_, ⟨?_, ?_, ?_⟩, ?_, ?_, ⟨?_, ?_⟩, ?_, ?_, ?_⟩
  · exact (zN _ _ (by omega)).trans a1
  · exact (zN _ _ (by omega)).trans a2
  · exact xC
  · exact (zN _ _ (by omega)).trans a4
  · exact (yN _ _ (by omega)).trans b1
  · exact (yN _ _ (by omega)).trans b2
  · exact yC
  · exact (yN _ _ (by omega)).trans b4
  · exact bdN
  · exact (zN _ _ (by omega)).trans h1
  · exact (yN _ _ (by omega)).trans h2
  · exact zIs_c (fun i hi j _ => zN _ _ (by omega)) (fun i hi => ⟨yN _ _ (by omega), yN _ _ (by omega)⟩) hIs
  · exact fun k hk => zCb_c (fun j _ => zN _ _ (by omega)) (hCb k hk)
  · intro k hk
    obtain ⟨g1, g2, g3, g4, g5⟩ := hRC k hk
    rw [yN 134 _ (by omega), yN 135 _ (by omega), yN 136 _ (by omega), yN 137 _ (by omega), yN 138 _ (by omega), zN _ 0 (by omega), zN _ 1 (by omega), zN _ 2 (by omega), zN _ 3 (by omega), zN _ 4 (by omega)]
    exact ⟨g1, g2, g3, g4, g5⟩
  · exact zNd_c (fun k hk => ⟨zN _ _ (by omega), zN _ _ (by omega)⟩) hNd
  · exact zRF_c hF (zN _ _ (by omega)) (by funext j; exact zN _ _ (by omega)) (fun c hc => ⟨zN _ _ (by omega), zN _ _ (by omega)⟩) (yN _ _ (by omega)) (by funext j; exact yN _ _ (by omega))
  · intro q hq
    by_cases hqn : q = ns
    · subst hqn
      exact ⟨⟨x0.trans y0.symm, x1.trans y1.symm, x2.trans y2.symm, x3.trans y3.symm, x4.trans y6.symm, x7.trans y8.symm⟩, ⟨Or.inl x5, Or.inl x3⟩, ⟨a, b, ha, hb, x1, x2⟩, ⟨v, hv1, hv2, x0⟩, Or.inl x3⟩
    · exact zRS_c (hS q (by omega)) (by funext j; exact zN _ _ (by omega)) (fun c hc => by unfold zspn; rw [zN _ _ (by omega)]) ⟨yN _ _ (by omega), yN _ _ (by omega), yN _ _ (by omega), yN _ _ (by omega), yN _ _ (by omega), yN _ _ (by omega), yN _ _ (by omega)⟩
  · exact zUV_c (fun t ht => ⟨zN _ _ (by omega), zN _ _ (by omega)⟩) hU
  · intro t ht
    exact zRT_c (hT t ht) (by funext j; exact zN _ _ (by omega)) (congrFun (lN0 _ (by omega)) _) ⟨yN _ _ (by omega), yN _ _ (by omega), yN _ _ (by omega), yN _ _ (by omega), yN _ _ (by omega), yN _ _ (by omega)⟩ ⟨rfl, rfl, rfl, rfl⟩ (Nat.le_refl _)
  · intro t ht
    rw [zN _ _ (by omega)]
    exact hWl t ht
  · intro e t ht
    rw [zN 0 7 (by omega)] at e
    exact zWf_c (fun i hi => by funext j; exact zN _ _ (by omega)) (zN _ _ (by omega)) (zN _ _ (by omega)) (fun k _ => zN _ _ (by omega)) (by funext j; exact zN _ _ (by omega)) (hWf e t ht)
  · refine ⟨fun q hq1 hq2 => ?_, hFr.2⟩
    rw [yN _ _ (by omega), yN _ _ (by omega), yN _ _ (by omega)]
    exact hFr.1 q (by omega) hq2
