/-! CABLES AND TRADERS MADE (laid by m_step3.py) -/
/-- one cable more: the faults are as they were -/
theorem zFl_grow {nc : Nat} {sp sp' : Nat → Nat} {mk mk' : Nat → Int32} {n : Nat} {f : Nat → Int32} (hsp : ∀ c, c < nc → sp c ≤ 8) (hsp' : sp' nc ≤ 8) (e1 : ∀ c, c < nc → sp' c = sp c) (e2 : ∀ c, c < nc → mk' c = mk c) (e3 : mk' nc = 0) (hnc : nc < 16) (h : zFl nc sp mk n f) : zFl (nc + 1) sp' mk' n f := by
  obtain ⟨h1, h2, h3⟩ := h
  refine ⟨fun j hj => ?_, h2, fun c s hc hs => ?_⟩
  · obtain ⟨c, s, hc, hs, e⟩ := h1 j hj
    exact ⟨c, s, by omega, by rw [e1 c hc]; exact hs, e⟩
  · by_cases hcn : c = nc
    · subst hcn
      rw [e3, zbt_0]
      refine ⟨fun q => absurd q (by decide), ?_⟩
      rintro ⟨hs', j, hj, e⟩
      obtain ⟨c', s', hc', hs'', e'⟩ := h1 j hj
      have := hsp c' hc'
      rw [e] at e'
      have := nI_inj e' (by omega) (by omega)
      omega
    · rw [e1 c (by omega), e2 c (by omega)]
      exact h3 c s (by omega) hs
theorem zRS_grow {nc q : Nat} {I J I' J' : zIt} (h : zRS nc I J q) (e1 : I' (48 + q) = I (48 + q)) (e2 : ∀ c, c < nc → zspn I' c = zspn I c) (e3 : J' 142 q = J 142 q ∧ J' 144 q = J 144 q ∧ J' 145 q = J 145 q ∧ J' 143 q = J 143 q ∧ J' 146 q = J 146 q ∧ J' 148 q = J 148 q ∧ J' 147 q = J 147 q) : zRS (nc + 1) I' J' q := by
  obtain ⟨h1, ⟨h2, h5⟩, h3⟩ := zRS_c h e1 e2 e3
  refine ⟨h1, ⟨?_, ?_⟩, h3⟩
  · rcases h2 with h2 | ⟨h2, h4⟩
    · exact Or.inl h2
    · exact Or.inr ⟨h2, by omega⟩
  · rcases h5 with h5 | h5 | ⟨c, s, hc, h4⟩
    · exact Or.inl h5
    · exact Or.inr (Or.inl h5)
    · exact Or.inr (Or.inr ⟨c, s, by omega, h4⟩)

theorem s2_cable {ni nc ns nt hrs : Nat} {I J : zIt} {L K : zLt} (h : zREL ni nc ns nt hrs I L J K) {i j k x y : Int32} (hi : zlt i ni) (hj : zlt j ni) (hk : zin k 1 8) (hx : zin x 1 500) (hy : zin y 0 9999) (hlt : nc < 16) :
    zREL ni (nc + 1) ns nt hrs (zu (zu (zu (zu (zu (zu (zu (zs (zu I 0 7 1) (32 + nc) (fun _ => 0)) (32 + nc) 5 0) (32 + nc) 0 (nI i.toNatClampNeg)) (32 + nc) 1 (nI j.toNatClampNeg)) (32 + nc) 2 k) (32 + nc) 3 x) (32 + nc) 4 y) 1 1 (nI (nc + 1))) (zs L (32 + nc) (fun _ => 0)) (zu (zu (zu (zu (zu (zu (zu J 128 0 0) 134 nc i) 135 nc j) 136 nc k) 137 nc x) 138 nc y) 128 5 (nI (nc + 1))) K := by
  obtain ⟨⟨⟨a1, a2, a3, a4⟩, b1, b2, b3, b4⟩, bd, ⟨h1, h2⟩, hIs, ⟨hCb, hRC, hNd⟩, hF, hS, ⟨hU, hT⟩, hWl, hWf, hFr⟩ := h
  obtain ⟨hni, hnc, hns, hnt⟩ := id bd
  obtain ⟨a, ha, rfl⟩ := zlt_ex hi
  obtain ⟨b, hb, rfl⟩ := zlt_ex hj
  obtain ⟨n, hn1, hn2, rfl⟩ := zin_ex (a := 1) (b := 8) (by omega) hk (by omega)
  obtain ⟨d, hd1, hd2, rfl⟩ := zin_ex (a := 1) (b := 500) (by omega) hx (by omega)
  obtain ⟨p, -, hp, rfl⟩ := zin_ex (a := 0) (b := 9999) (by omega) hy (by omega)
  rw [nI_clamp (show a < 2 ^ 31 by omega), nI_clamp (show b < 2 ^ 31 by omega)]
  generalize hX : zu (zu (zu (zu (zu (zu (zu (zs (zu I 0 7 1) (32 + nc) (fun _ => 0)) (32 + nc) 5 0) (32 + nc) 0 (nI a)) (32 + nc) 1 (nI b)) (32 + nc) 2 (nI n)) (32 + nc) 3 (nI d)) (32 + nc) 4 (nI p)) 1 1 (nI (nc + 1)) = X
  generalize hY : zu (zu (zu (zu (zu (zu (zu J 128 0 0) 134 nc (nI a)) 135 nc (nI b)) 136 nc (nI n)) 137 nc (nI d)) 138 nc (nI p)) 128 5 (nI (nc + 1)) = Y
  generalize hZ : zs L (32 + nc) (fun _ => 0) = Z
  have zN : ∀ κ k, (κ ≠ 32 + nc ∧ ¬ (κ = 0 ∧ k = 7) ∧ ¬ (κ = 1 ∧ k = 1)) → X κ k = I κ k := fun κ k q => by
    rw [← hX]
    unfold zu zs
    repeat (first | rw [if_neg (by omega)] | dsimp only | rfl)
  have yN : ∀ κ k, (¬ (κ = 128 ∧ (k = 0 ∨ k = 5)) ∧ ¬ ((κ = 134 ∨ κ = 135 ∨ κ = 136 ∨ κ = 137 ∨ κ = 138) ∧ k = nc)) → Y κ k = J κ k := fun κ k q => by
    rw [← hY]
    unfold zu
    repeat (first | rw [if_neg (by omega)] | dsimp only | rfl)
  have lN0 : ∀ κ, (κ ≠ 32 + nc) → Z κ = L κ := fun κ q => by
    funext k
    rw [← hZ]
    unfold zs
    (try unfold zu)
    repeat (first | rw [if_neg (by omega)] | dsimp only | rfl)
  have xC : X 1 1 = nI (nc + 1) := by rw [← hX]; unfold zu; (try unfold zs); repeat (first | rw [if_pos (by omega)] | rw [if_neg (by omega)] | dsimp only | rfl)
  have yC : Y 128 5 = nI (nc + 1) := by rw [← hY]; unfold zu; (try unfold zs); repeat (first | rw [if_pos (by omega)] | rw [if_neg (by omega)] | dsimp only | rfl)
  have bdN : zRbd ni (nc + 1) ns nt := by unfold zRbd; omega
  have x0 : X (32 + nc) 0 = nI a := by rw [← hX]; unfold zu; (try unfold zs); repeat (first | rw [if_pos (by omega)] | rw [if_neg (by omega)] | dsimp only | rfl)
  have x1 : X (32 + nc) 1 = nI b := by rw [← hX]; unfold zu; (try unfold zs); repeat (first | rw [if_pos (by omega)] | rw [if_neg (by omega)] | dsimp only | rfl)
  have x2 : X (32 + nc) 2 = nI n := by rw [← hX]; unfold zu; (try unfold zs); repeat (first | rw [if_pos (by omega)] | rw [if_neg (by omega)] | dsimp only | rfl)
  have x3 : X (32 + nc) 3 = nI d := by rw [← hX]; unfold zu; (try unfold zs); repeat (first | rw [if_pos (by omega)] | rw [if_neg (by omega)] | dsimp only | rfl)
  have x4 : X (32 + nc) 4 = nI p := by rw [← hX]; unfold zu; (try unfold zs); repeat (first | rw [if_pos (by omega)] | rw [if_neg (by omega)] | dsimp only | rfl)
  have x5 : X (32 + nc) 5 = 0 := by rw [← hX]; unfold zu; (try unfold zs); repeat (first | rw [if_pos (by omega)] | rw [if_neg (by omega)] | dsimp only | rfl)
  have y0 : Y 134 nc = nI a := by rw [← hY]; unfold zu; (try unfold zs); repeat (first | rw [if_pos (by omega)] | rw [if_neg (by omega)] | dsimp only | rfl)
  have y1 : Y 135 nc = nI b := by rw [← hY]; unfold zu; (try unfold zs); repeat (first | rw [if_pos (by omega)] | rw [if_neg (by omega)] | dsimp only | rfl)
  have y2 : Y 136 nc = nI n := by rw [← hY]; unfold zu; (try unfold zs); repeat (first | rw [if_pos (by omega)] | rw [if_neg (by omega)] | dsimp only | rfl)
  have y3 : Y 137 nc = nI d := by rw [← hY]; unfold zu; (try unfold zs); repeat (first | rw [if_pos (by omega)] | rw [if_neg (by omega)] | dsimp only | rfl)
  have y4 : Y 138 nc = nI p := by rw [← hY]; unfold zu; (try unfold zs); repeat (first | rw [if_pos (by omega)] | rw [if_neg (by omega)] | dsimp only | rfl)
  have x07 : X 0 7 = 1 := by rw [← hX]; unfold zu; (try unfold zs); repeat (first | rw [if_pos (by omega)] | rw [if_neg (by omega)] | dsimp only | rfl)
  have xsp : ∀ c, c < nc → zspn X c = zspn I c := fun c hc => by unfold zspn; rw [zN _ _ (by omega)]
  have xsn : zspn X nc = n := by unfold zspn; rw [x2, nI_clamp (by omega)]
  have xn : zNf X = zNf I := zNf_eq (zN _ _ (by omega))
  refine ⟨⟨⟨?_, ?_, ?_, ?_⟩, ?_, ?_, ?_, ?_⟩, ?_, ⟨?_, ?_⟩, ?_, ⟨?_, ?_, ?_⟩, ?_, ?_, ⟨?_, ?_⟩, ?_, ?_, ?_⟩
  · exact (zN _ _ (by omega)).trans a1
  · exact xC
  · exact (zN _ _ (by omega)).trans a3
  · exact (zN _ _ (by omega)).trans a4
  · exact (yN _ _ (by omega)).trans b1
  · exact yC
  · exact (yN _ _ (by omega)).trans b3
  · exact (yN _ _ (by omega)).trans b4
  · exact bdN
  · exact (zN _ _ (by omega)).trans h1
  · exact (yN _ _ (by omega)).trans h2
  · exact zIs_c (fun i hi j _ => zN _ _ (by omega)) (fun i hi => ⟨yN _ _ (by omega), yN _ _ (by omega)⟩) hIs
  · intro k hk
    by_cases hkn : k = nc
    · subst hkn
      exact ⟨a, b, n, d, p, by omega, by omega, hn1, hn2, hd1, hd2, hp, x0, x1, x2, x3, x4⟩
    · exact zCb_c (fun j _ => zN _ _ (by omega)) (hCb k (by omega))
  · intro k hk
    by_cases hkn : k = nc
    · subst hkn
      exact ⟨y0.trans x0.symm, y1.trans x1.symm, y2.trans x2.symm, y3.trans x3.symm, y4.trans x4.symm⟩
    · obtain ⟨g1, g2, g3, g4, g5⟩ := hRC k (by omega)
      rw [yN 134 _ (by omega), yN 135 _ (by omega), yN 136 _ (by omega), yN 137 _ (by omega), yN 138 _ (by omega), zN _ 0 (by omega), zN _ 1 (by omega), zN _ 2 (by omega), zN _ 3 (by omega), zN _ 4 (by omega)]
      exact ⟨g1, g2, g3, g4, g5⟩
  · intro k hk
    by_cases hkn : k = nc
    · subst hkn
      unfold zea zeb
      rw [x0, x1, nI_clamp (by omega), nI_clamp (by omega)]
      exact ⟨ha, hb⟩
    · rw [zea_c (I := I) (zN _ _ (by omega)), zeb_c (I := I) (zN _ _ (by omega))]
      exact hNd k (by omega)
  · obtain ⟨⟨f1, f2, f3⟩, hFl, f4, f5⟩ := hF
    have z6 : X 6 = I 6 := by funext j; exact zN _ _ (by omega)
    have y6 : Y 140 = J 140 := by funext j; exact yN _ _ (by omega)
    refine ⟨⟨by rw [xn, zN _ _ (by omega)]; exact f1, by rw [xn]; exact f2, by rw [yN _ _ (by omega), zN _ _ (by omega)]; exact f3⟩, ?_, fun j hj => ?_, fun c hc => ?_⟩
    · rw [xn, z6]
      exact zFl_grow f5 (by rw [xsn]; exact hn2) xsp (fun c hc => zN _ _ (by omega)) x5 hlt hFl
    · rw [y6, z6]
      exact f4 j (by rw [← xn]; exact hj)
    · by_cases hcn : c = nc
      · rw [hcn, xsn]; exact hn2
      · rw [xsp c (by omega)]; exact f5 c (by omega)
  · intro q hq
    exact zRS_grow (hS q hq) (by funext j; exact zN _ _ (by omega)) xsp ⟨yN _ _ (by omega), yN _ _ (by omega), yN _ _ (by omega), yN _ _ (by omega), yN _ _ (by omega), yN _ _ (by omega), yN _ _ (by omega)⟩
  · exact zUV_c (fun t ht => ⟨zN _ _ (by omega), zN _ _ (by omega)⟩) hU
  · intro t ht
    exact zRT_c (hT t ht) (by funext j; exact zN _ _ (by omega)) (congrFun (lN0 _ (by omega)) _) ⟨yN _ _ (by omega), yN _ _ (by omega), yN _ _ (by omega), yN _ _ (by omega), yN _ _ (by omega), yN _ _ (by omega)⟩ ⟨rfl, rfl, rfl, rfl⟩ (Nat.le_refl _)
  · intro t ht
    rw [zN _ _ (by omega)]
    exact hWl t ht
  · intro e
    rw [x07] at e
    exact absurd e (by decide)
  · exact zFr_c (fun q _ _ => ⟨yN _ _ (by omega), yN _ _ (by omega), yN _ _ (by omega)⟩) (fun j _ => rfl) hFr

theorem s2_trader {ni nc ns nt hrs : Nat} {I J : zIt} {L K : zLt} (h : zREL ni nc ns nt hrs I L J K) {i j k x y w : Int32} (hi : zlt i ni) (hj : zlt j ni) (hk : zin k 1 5000) (hx : zin x 0 9999) (hy : zin y 0 9999) (hw : zin w 0 1000000) (hlt : nt < 12) :
    zREL ni nc ns (nt + 1) hrs (zu (zu (zu (zu (zu (zu (zu (zu (zu (zu (zu (zu (zu (zu (zs (zs (zs I (64 + nt) (fun _ => 0)) (80 + nt) (fun _ => 0)) (96 + nt) (fun _ => 0)) (80 + nt) 1 (-1)) (80 + nt) 2 (-1)) (80 + nt) 3 (-1)) (64 + nt) 8 0) (64 + nt) 9 0) (64 + nt) 10 0) (64 + nt) 0 (nI i.toNatClampNeg)) (64 + nt) 1 (nI j.toNatClampNeg)) (64 + nt) 2 k) (64 + nt) 3 x) (64 + nt) 4 y) (64 + nt) 5 w) 0 6 (nI (nt + 1))) 0 7 1) (zu (zs (zs (zs L (64 + nt) (fun _ => 0)) (80 + nt) (fun _ => 0)) (96 + nt) (fun _ => 0)) (64 + nt) 7 0) (zu (zu (zu (zu (zu (zu (zu (zu J 128 0 0) 150 nt i) 151 nt j) 152 nt k) 153 nt x) 154 nt y) 155 nt w) 128 21 (nI (nt + 1))) K := by
  obtain ⟨⟨⟨a1, a2, a3, a4⟩, b1, b2, b3, b4⟩, bd, ⟨h1, h2⟩, hIs, ⟨hCb, hRC, hNd⟩, hF, hS, ⟨hU, hT⟩, hWl, hWf, hFr⟩ := h
  obtain ⟨hni, hnc, hns, hnt⟩ := id bd
  obtain ⟨a, ha, rfl⟩ := zlt_ex hi
  obtain ⟨b, hb, rfl⟩ := zlt_ex hj
  obtain ⟨d, hd1, hd2, rfl⟩ := zin_ex (a := 1) (b := 5000) (by omega) hk (by omega)
  obtain ⟨p, -, hp, rfl⟩ := zin_ex (a := 0) (b := 9999) (by omega) hx (by omega)
  obtain ⟨g, -, hg, rfl⟩ := zin_ex (a := 0) (b := 9999) (by omega) hy (by omega)
  obtain ⟨m, -, hm, rfl⟩ := zin_ex (a := 0) (b := 1000000) (by omega) hw (by omega)
  rw [nI_clamp (show a < 2 ^ 31 by omega), nI_clamp (show b < 2 ^ 31 by omega)]
  generalize hX : zu (zu (zu (zu (zu (zu (zu (zu (zu (zu (zu (zu (zu (zu (zs (zs (zs I (64 + nt) (fun _ => 0)) (80 + nt) (fun _ => 0)) (96 + nt) (fun _ => 0)) (80 + nt) 1 (-1)) (80 + nt) 2 (-1)) (80 + nt) 3 (-1)) (64 + nt) 8 0) (64 + nt) 9 0) (64 + nt) 10 0) (64 + nt) 0 (nI a)) (64 + nt) 1 (nI b)) (64 + nt) 2 (nI d)) (64 + nt) 3 (nI p)) (64 + nt) 4 (nI g)) (64 + nt) 5 (nI m)) 0 6 (nI (nt + 1))) 0 7 1 = X
  generalize hY : zu (zu (zu (zu (zu (zu (zu (zu J 128 0 0) 150 nt (nI a)) 151 nt (nI b)) 152 nt (nI d)) 153 nt (nI p)) 154 nt (nI g)) 155 nt (nI m)) 128 21 (nI (nt + 1)) = Y
  generalize hZ : zu (zs (zs (zs L (64 + nt) (fun _ => 0)) (80 + nt) (fun _ => 0)) (96 + nt) (fun _ => 0)) (64 + nt) 7 0 = Z
  have zN : ∀ κ k, (κ ≠ 64 + nt ∧ κ ≠ 80 + nt ∧ κ ≠ 96 + nt ∧ ¬ (κ = 0 ∧ (k = 6 ∨ k = 7))) → X κ k = I κ k := fun κ k q => by
    rw [← hX]
    unfold zu zs
    repeat (first | rw [if_neg (by omega)] | dsimp only | rfl)
  have yN : ∀ κ k, (¬ (κ = 128 ∧ (k = 0 ∨ k = 21)) ∧ ¬ ((κ = 150 ∨ κ = 151 ∨ κ = 152 ∨ κ = 153 ∨ κ = 154 ∨ κ = 155) ∧ k = nt)) → Y κ k = J κ k := fun κ k q => by
    rw [← hY]
    unfold zu
    repeat (first | rw [if_neg (by omega)] | dsimp only | rfl)
  have lN0 : ∀ κ, (κ ≠ 64 + nt ∧ κ ≠ 80 + nt ∧ κ ≠ 96 + nt) → Z κ = L κ := fun κ q => by
    funext k
    rw [← hZ]
    unfold zs
    (try unfold zu)
    repeat (first | rw [if_neg (by omega)] | dsimp only | rfl)
  have xC : X 0 6 = nI (nt + 1) := by rw [← hX]; unfold zu; (try unfold zs); repeat (first | rw [if_pos (by omega)] | rw [if_neg (by omega)] | dsimp only | rfl)
  have yC : Y 128 21 = nI (nt + 1) := by rw [← hY]; unfold zu; (try unfold zs); repeat (first | rw [if_pos (by omega)] | rw [if_neg (by omega)] | dsimp only | rfl)
  have bdN : zRbd ni nc ns (nt + 1) := by unfold zRbd; omega
  have x0 : X (64 + nt) 0 = nI a := by rw [← hX]; unfold zu; (try unfold zs); repeat (first | rw [if_pos (by omega)] | rw [if_neg (by omega)] | dsimp only | rfl)
  have x1 : X (64 + nt) 1 = nI b := by rw [← hX]; unfold zu; (try unfold zs); repeat (first | rw [if_pos (by omega)] | rw [if_neg (by omega)] | dsimp only | rfl)
  have x2 : X (64 + nt) 2 = nI d := by rw [← hX]; unfold zu; (try unfold zs); repeat (first | rw [if_pos (by omega)] | rw [if_neg (by omega)] | dsimp only | rfl)
  have x3 : X (64 + nt) 3 = nI p := by rw [← hX]; unfold zu; (try unfold zs); repeat (first | rw [if_pos (by omega)] | rw [if_neg (by omega)] | dsimp only | rfl)
  have x4 : X (64 + nt) 4 = nI g := by rw [← hX]; unfold zu; (try unfold zs); repeat (first | rw [if_pos (by omega)] | rw [if_neg (by omega)] | dsimp only | rfl)
  have x5 : X (64 + nt) 5 = nI m := by rw [← hX]; unfold zu; (try unfold zs); repeat (first | rw [if_pos (by omega)] | rw [if_neg (by omega)] | dsimp only | rfl)
  have x8 : X (64 + nt) 8 = 0 := by rw [← hX]; unfold zu; (try unfold zs); repeat (first | rw [if_pos (by omega)] | rw [if_neg (by omega)] | dsimp only | rfl)
  have x9 : X (64 + nt) 9 = 0 := by rw [← hX]; unfold zu; (try unfold zs); repeat (first | rw [if_pos (by omega)] | rw [if_neg (by omega)] | dsimp only | rfl)
  have x10 : X (64 + nt) 10 = 0 := by rw [← hX]; unfold zu; (try unfold zs); repeat (first | rw [if_pos (by omega)] | rw [if_neg (by omega)] | dsimp only | rfl)
  have y0 : Y 150 nt = nI a := by rw [← hY]; unfold zu; (try unfold zs); repeat (first | rw [if_pos (by omega)] | rw [if_neg (by omega)] | dsimp only | rfl)
  have y1 : Y 151 nt = nI b := by rw [← hY]; unfold zu; (try unfold zs); repeat (first | rw [if_pos (by omega)] | rw [if_neg (by omega)] | dsimp only | rfl)
  have y2 : Y 152 nt = nI d := by rw [← hY]; unfold zu; (try unfold zs); repeat (first | rw [if_pos (by omega)] | rw [if_neg (by omega)] | dsimp only | rfl)
  have y3 : Y 153 nt = nI p := by rw [← hY]; unfold zu; (try unfold zs); repeat (first | rw [if_pos (by omega)] | rw [if_neg (by omega)] | dsimp only | rfl)
  have y4 : Y 154 nt = nI g := by rw [← hY]; unfold zu; (try unfold zs); repeat (first | rw [if_pos (by omega)] | rw [if_neg (by omega)] | dsimp only | rfl)
  have y5 : Y 155 nt = nI m := by rw [← hY]; unfold zu; (try unfold zs); repeat (first | rw [if_pos (by omega)] | rw [if_neg (by omega)] | dsimp only | rfl)
  have x07 : X 0 7 = 1 := by rw [← hX]; unfold zu; (try unfold zs); repeat (first | rw [if_pos (by omega)] | rw [if_neg (by omega)] | dsimp only | rfl)
  have x80 : X (80 + nt) 1 = -1 := by rw [← hX]; unfold zu; (try unfold zs); repeat (first | rw [if_pos (by omega)] | rw [if_neg (by omega)] | dsimp only | rfl)
  have z7 : Z (64 + nt) 7 = 0 := by rw [← hZ]; unfold zu; (try unfold zs); repeat (first | rw [if_pos (by omega)] | rw [if_neg (by omega)] | dsimp only | rfl)
  have k0 := hFr.2 nt (by omega) hlt
  refine ⟨⟨⟨?_, ?_, ?_, ?_⟩, ?_, ?_, ?_, ?_⟩, ?_, ⟨?_, ?_⟩, ?_, ⟨?_, ?_, ?_⟩, ?_, ?_, ⟨?_, ?_⟩, ?_, ?_, ?_⟩
  · exact (zN _ _ (by omega)).trans a1
  · exact (zN _ _ (by omega)).trans a2
  · exact (zN _ _ (by omega)).trans a3
  · exact xC
  · exact (yN _ _ (by omega)).trans b1
  · exact (yN _ _ (by omega)).trans b2
  · exact (yN _ _ (by omega)).trans b3
  · exact yC
  · exact bdN
  · exact (zN _ _ (by omega)).trans h1
  · exact (yN _ _ (by omega)).trans h2
  · exact zIs_c (fun i hi j _ => zN _ _ (by omega)) (fun i hi => ⟨yN _ _ (by omega), yN _ _ (by omega)⟩) hIs
  · exact fun k hk => zCb_c (fun j _ => zN _ _ (by omega)) (hCb k hk)
  · intro k hk
    obtain ⟨g1, g2, g3, g4, g5⟩ := hRC k hk
    rw [yN 134 _ (by omega), yN 135 _ (by omega), yN 136 _ (by omega), yN 137 _ (by omega), yN 138 _ (by omega), zN _ 0 (by omega), zN _ 1 (by omega), zN _ 2 (by omega), zN _ 3 (by omega), zN _ 4 (by omega)]
    exact ⟨g1, g2, g3, g4, g5⟩
  · exact zNd_c (fun k hk => ⟨zN _ _ (by omega), zN _ _ (by omega)⟩) hNd
  · exact zRF_c hF (zN _ _ (by omega)) (by funext j; exact zN _ _ (by omega)) (fun c hc => ⟨zN _ _ (by omega), zN _ _ (by omega)⟩) (yN _ _ (by omega)) (by funext j; exact yN _ _ (by omega))
  · intro q hq
    exact zRS_c (hS q hq) (by funext j; exact zN _ _ (by omega)) (fun c hc => by unfold zspn; rw [zN _ _ (by omega)]) ⟨yN _ _ (by omega), yN _ _ (by omega), yN _ _ (by omega), yN _ _ (by omega), yN _ _ (by omega), yN _ _ (by omega), yN _ _ (by omega)⟩
  · intro t ht
    by_cases htn : t = nt
    · subst htn
      exact ⟨a, b, ha, hb, x0, x1⟩
    · obtain ⟨u, v, hu, hv, eu, ev⟩ := hU t (by omega)
      exact ⟨u, v, hu, hv, (zN _ _ (by omega)).trans eu, (zN _ _ (by omega)).trans ev⟩
  · intro t ht
    by_cases htn : t = nt
    · subst htn
      exact ⟨⟨x0.trans y0.symm, x1.trans y1.symm, x2.trans y2.symm, x3.trans y3.symm, x4.trans y4.symm, x5.trans y5.symm⟩, z7.trans (k0 0 (by omega)).symm, d, p, g, m, 0, 0, 0, ⟨hd2, hp, hg, hm, x2, x3, x4, x5⟩, ⟨Nat.zero_le _, Nat.zero_le _, Nat.zero_le _, x8, x9, x10⟩, k0 1 (by omega), k0 2 (by omega), k0 3 (by omega)⟩
    · exact zRT_c (hT t (by omega)) (by funext j; exact zN _ _ (by omega)) (congrFun (lN0 _ (by omega)) _) ⟨yN _ _ (by omega), yN _ _ (by omega), yN _ _ (by omega), yN _ _ (by omega), yN _ _ (by omega), yN _ _ (by omega)⟩ ⟨rfl, rfl, rfl, rfl⟩ (Nat.le_refl _)
  · intro t ht
    by_cases htn : t = nt
    · subst htn
      exact Or.inl x80
    · rw [zN _ _ (by omega)]
      exact hWl t (by omega)
  · intro e
    rw [x07] at e
    exact absurd e (by decide)
  · refine ⟨fun q hq1 hq2 => ?_, fun t ht1 ht2 => hFr.2 t (by omega) ht2⟩
    rw [yN _ _ (by omega), yN _ _ (by omega), yN _ _ (by omega)]
    exact hFr.1 q hq1 hq2
