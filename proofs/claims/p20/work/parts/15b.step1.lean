theorem zt_trader {ni nt : Nat} (hnt : nt ≤ 12) (i j k x y w : Int32) :
    (zsq (zo1 i ni) (zsq (zo1 j ni) (zsq (zoU i j) (zsq (zo2 k 1 5000) (zsq (zo2 x 0 9999) (zsq (zo2 y 0 9999) (zsq (zo2 w 0 1000000) (zo3 (nI nt) 12))))))) = 0 ∧ (if zlt i ni then (if zlt j ni then (if i = j then 2 else if zin k 1 5000 then (if zin x 0 9999 then (if zin y 0 9999 then (if zin w 0 1000000 then (if nI nt = 12 then 3 else 0) else 2) else 2) else 2) else 2) else 1) else 1) = 0 ∧ (zlt i ni ∧ zlt j ni ∧ ¬ i = j ∧ zin k 1 5000 ∧ zin x 0 9999 ∧ zin y 0 9999 ∧ zin w 0 1000000 ∧ nt < 12)) ∨
    (zsq (zo1 i ni) (zsq (zo1 j ni) (zsq (zoU i j) (zsq (zo2 k 1 5000) (zsq (zo2 x 0 9999) (zsq (zo2 y 0 9999) (zsq (zo2 w 0 1000000) (zo3 (nI nt) 12))))))) = 1 ∧ (if zlt i ni then (if zlt j ni then (if i = j then 2 else if zin k 1 5000 then (if zin x 0 9999 then (if zin y 0 9999 then (if zin w 0 1000000 then (if nI nt = 12 then 3 else 0) else 2) else 2) else 2) else 2) else 1) else 1) = 1) ∨
    (zsq (zo1 i ni) (zsq (zo1 j ni) (zsq (zoU i j) (zsq (zo2 k 1 5000) (zsq (zo2 x 0 9999) (zsq (zo2 y 0 9999) (zsq (zo2 w 0 1000000) (zo3 (nI nt) 12))))))) = 2 ∧ (if zlt i ni then (if zlt j ni then (if i = j then 2 else if zin k 1 5000 then (if zin x 0 9999 then (if zin y 0 9999 then (if zin w 0 1000000 then (if nI nt = 12 then 3 else 0) else 2) else 2) else 2) else 2) else 1) else 1) = 2) ∨
    (zsq (zo1 i ni) (zsq (zo1 j ni) (zsq (zoU i j) (zsq (zo2 k 1 5000) (zsq (zo2 x 0 9999) (zsq (zo2 y 0 9999) (zsq (zo2 w 0 1000000) (zo3 (nI nt) 12))))))) = 3 ∧ (if zlt i ni then (if zlt j ni then (if i = j then 2 else if zin k 1 5000 then (if zin x 0 9999 then (if zin y 0 9999 then (if zin w 0 1000000 then (if nI nt = 12 then 3 else 0) else 2) else 2) else 2) else 2) else 1) else 1) = 3) := by
  have h4 : nI nt = 12 ↔ ¬ nI nt < 12 := zcap (m := 12) hnt (by omega)
  unfold zsq zo1 zo2 zo3 zoU
  by_cases h1 : zlt i ni
  · rw [if_pos h1, if_pos h1, if_pos rfl]
    by_cases h2 : zlt j ni
    · rw [if_pos h2, if_pos h2, if_pos rfl]
      by_cases h3 : i = j
      · rw [if_pos h3, if_pos h3, if_neg (by decide)]
        exact Or.inr (Or.inr (Or.inl ⟨rfl, rfl⟩))
      · rw [if_neg h3, if_neg h3, if_pos rfl]
        by_cases h5 : zin k 1 5000
        · rw [if_pos h5, if_pos h5, if_pos rfl]
          by_cases h6 : zin x 0 9999
          · rw [if_pos h6, if_pos h6, if_pos rfl]
            by_cases h7 : zin y 0 9999
            · rw [if_pos h7, if_pos h7, if_pos rfl]
              by_cases h9 : zin w 0 1000000
              · rw [if_pos h9, if_pos h9, if_pos rfl]
                by_cases h8 : nI nt < 12
                · rw [if_pos h8, if_neg (fun e => h4.mp e h8)]
                  exact Or.inl ⟨rfl, rfl, h1, h2, h3, h5, h6, h7, h9, z_ltn (n := 12) h8 (by omega) (by omega)⟩
                · rw [if_neg h8, if_pos (h4.mpr h8)]
                  exact Or.inr (Or.inr (Or.inr ⟨rfl, rfl⟩))
              · rw [if_neg h9, if_neg h9, if_neg (by decide)]
                exact Or.inr (Or.inr (Or.inl ⟨rfl, rfl⟩))
            · rw [if_neg h7, if_neg h7, if_neg (by decide)]
              exact Or.inr (Or.inr (Or.inl ⟨rfl, rfl⟩))
          · rw [if_neg h6, if_neg h6, if_neg (by decide)]
            exact Or.inr (Or.inr (Or.inl ⟨rfl, rfl⟩))
        · rw [if_neg h5, if_neg h5, if_neg (by decide)]
          exact Or.inr (Or.inr (Or.inl ⟨rfl, rfl⟩))
    · rw [if_neg h2, if_neg h2, if_neg (by decide)]
      exact Or.inr (Or.inl ⟨rfl, rfl⟩)
  · rw [if_neg h1, if_neg h1, if_neg (by decide)]
    exact Or.inr (Or.inl ⟨rfl, rfl⟩)
/-! A CALL THAT IS TAKEN keeps the relation. First the class's table alone changes, then the reference's -/
theorem zREL_self {ni nc ns nt hrs : Nat} {I I2 : zIt} {L K : zLt} (h : zREL ni nc ns nt hrs I L I L) (e : ∀ κ, 128 ≤ κ → I2 κ = I κ) (e5 : K 156 = L 156) : zREL ni nc ns nt hrs I L I2 K :=
  zREL_c (fun _ _ _ => rfl) (fun _ _ => rfl) (fun κ hκ _ => e κ (by omega)) (fun j _ => by rw [e 128 (by omega)]) e5 h
theorem zREL_fin {ni nc ns nt hrs : Nat} {I2 T2 : zIt} {L2 K2 : zLt} (h : zREL ni nc ns nt hrs I2 L2 T2 K2) (e1 : ∀ κ, κ < 128 → T2 κ = I2 κ) (e2 : ∀ κ, κ < 128 → K2 κ = L2 κ) : zREL ni nc ns nt hrs T2 K2 T2 K2 :=
  zREL_c (fun κ hκ _ => e1 κ hκ) e2 (fun _ _ _ => rfl) (fun _ _ => rfl) rfl h
theorem zin_ex {x : Int32} {a b : Nat} (hb : b < 2 ^ 31) (h : zin x (nI a) (nI b)) (ha : a < 2 ^ 31) : ∃ n, a ≤ n ∧ n ≤ b ∧ x = nI n := by
  obtain ⟨h1, h2⟩ := h
  rw [Int32.le_iff_toInt_le, nI_toInt (by omega)] at h1 h2
  refine ⟨x.toInt.toNat, by omega, by omega, Int32.toInt_inj.mp ?_⟩
  rw [nI_toInt (by omega)]
  omega
/-- a table that is as it was but for one cable's price, and the stale mark -/
theorem s2_price {ni nc ns nt hrs : Nat} {I J : zIt} {L K : zLt} (h : zREL ni nc ns nt hrs I L J K) {i x : Int32} (hi : zlt i nc) (hx : zin x 0 9999) :
    zREL ni nc ns nt hrs (zu (zu I (32 + i.toNatClampNeg) 4 x) 0 7 1) L (zu (zu J 128 0 0) 138 i.toNatClampNeg x) K ∧ I (32 + i.toNatClampNeg) 4 = J 138 i.toNatClampNeg := by
  obtain ⟨c, hc, rfl⟩ := zlt_ex hi
  obtain ⟨p, -, hp, rfl⟩ := zin_ex (a := 0) (b := 9999) (by omega) hx (by omega)
  obtain ⟨⟨⟨a1, a2, a3, a4⟩, b1, b2, b3, b4⟩, bd, ⟨h1, h2⟩, hIs, ⟨hCb, hRC, hNd⟩, hF, hS, ⟨hU, hT⟩, hWl, hWf, hFr⟩ := h
  obtain ⟨hni, hnc, hns, hnt⟩ := id bd
  rw [nI_clamp (by omega)]
  have z0 : ∀ κ j, ¬ (κ = 32 + c ∧ j = 4) → ¬ (κ = 0 ∧ j = 7) → zu (zu I (32 + c) 4 (nI p)) 0 7 1 κ j = I κ j := fun κ j q1 q2 => by rw [zu_ne _ _ q2, zu_ne _ _ q1]
  have zr : ∀ κ, κ ≠ 32 + c → κ ≠ 0 → zu (zu I (32 + c) 4 (nI p)) 0 7 1 κ = I κ := fun κ q1 q2 => by rw [zu_rne q2, zu_rne q1]
  have z4 : zu (zu I (32 + c) 4 (nI p)) 0 7 1 (32 + c) 4 = nI p := by rw [zu_ne _ _ (by omega), zu_self]
  have y0 : ∀ κ j, ¬ (κ = 128 ∧ j = 0) → ¬ (κ = 138 ∧ j = c) → zu (zu J 128 0 0) 138 c (nI p) κ j = J κ j := fun κ j q1 q2 => by rw [zu_ne _ _ q2, zu_ne _ _ q1]
  have yr : ∀ κ, κ ≠ 128 → κ ≠ 138 → zu (zu J 128 0 0) 138 c (nI p) κ = J κ := fun κ q1 q2 => by rw [zu_rne q2, zu_rne q1]
  refine ⟨⟨⟨⟨?_, ?_, ?_, ?_⟩, ?_, ?_, ?_, ?_⟩, bd, ⟨?_, ?_⟩, ?_, ⟨?_, ?_, ?_⟩, ?_, ?_, ⟨?_, ?_⟩, ?_, ?_, ?_⟩, (hRC c hc).2.2.2.2.symm⟩
  · rw [z0 _ _ (by omega) (by omega)]; exact a1
  · rw [z0 _ _ (by omega) (by omega)]; exact a2
  · rw [z0 _ _ (by omega) (by omega)]; exact a3
  · rw [z0 _ _ (by omega) (by omega)]; exact a4
  · rw [y0 _ _ (by omega) (by omega)]; exact b1
  · rw [y0 _ _ (by omega) (by omega)]; exact b2
  · rw [y0 _ _ (by omega) (by omega)]; exact b3
  · rw [y0 _ _ (by omega) (by omega)]; exact b4
  · rw [z0 _ _ (by omega) (by omega)]; exact h1
  · rw [y0 _ _ (by omega) (by omega)]; exact h2
  · exact zIs_c (fun i hi j _ => z0 _ _ (by omega) (by omega)) (fun i hi => by rw [yr _ (by omega) (by omega), yr _ (by omega) (by omega)]; exact ⟨rfl, rfl⟩) hIs
  · intro k hk
    by_cases hkc : k = c
    · subst hkc
      obtain ⟨a, b, n, d, q, g1, g2, g3, g4, g5, g6, g7, g8, g9, g10, g11, g12⟩ := hCb k hk
      refine ⟨a, b, n, d, p, g1, g2, g3, g4, g5, g6, hp, ?_, ?_, ?_, ?_, z4⟩
      · rw [z0 _ _ (by omega) (by omega)]; exact g8
      · rw [z0 _ _ (by omega) (by omega)]; exact g9
      · rw [z0 _ _ (by omega) (by omega)]; exact g10
      · rw [z0 _ _ (by omega) (by omega)]; exact g11
    · exact zCb_c (fun j _ => z0 _ _ (by omega) (by omega)) (hCb k hk)
  · intro k hk
    obtain ⟨g1, g2, g3, g4, g5⟩ := hRC k hk
    rw [yr 134 (by omega) (by omega), yr 135 (by omega) (by omega), yr 136 (by omega) (by omega), yr 137 (by omega) (by omega), z0 _ 0 (by omega) (by omega), z0 _ 1 (by omega) (by omega), z0 _ 2 (by omega) (by omega), z0 _ 3 (by omega) (by omega)]
    refine ⟨g1, g2, g3, g4, ?_⟩
    by_cases hkc : k = c
    · subst hkc
      rw [z4, zu_self]
    · rw [y0 _ _ (by omega) (by omega), z0 _ _ (by omega) (by omega)]
      exact g5
  · exact zNd_c (fun k hk => ⟨z0 _ _ (by omega) (by omega), z0 _ _ (by omega) (by omega)⟩) hNd
  · exact zRF_c hF (z0 _ _ (by omega) (by omega)) (zr _ (by omega) (by omega)) (fun c hc => ⟨z0 _ _ (by omega) (by omega), z0 _ _ (by omega) (by omega)⟩) (y0 _ _ (by omega) (by omega)) (yr _ (by omega) (by omega))
  · intro q hq
    exact zRS_c (hS q hq) (zr _ (by omega) (by omega)) (fun c hc => by unfold zspn; rw [z0 _ _ (by omega) (by omega)]) ⟨by rw [yr _ (by omega) (by omega)], by rw [yr _ (by omega) (by omega)], by rw [yr _ (by omega) (by omega)], by rw [yr _ (by omega) (by omega)], by rw [yr _ (by omega) (by omega)], by rw [yr _ (by omega) (by omega)], by rw [yr _ (by omega) (by omega)]⟩
  · exact zUV_c (fun t ht => ⟨z0 _ _ (by omega) (by omega), z0 _ _ (by omega) (by omega)⟩) hU
  · intro t ht
    exact zRT_c (hT t ht) (zr _ (by omega) (by omega)) rfl ⟨by rw [yr _ (by omega) (by omega)], by rw [yr _ (by omega) (by omega)], by rw [yr _ (by omega) (by omega)], by rw [yr _ (by omega) (by omega)], by rw [yr _ (by omega) (by omega)], by rw [yr _ (by omega) (by omega)]⟩ ⟨rfl, rfl, rfl, rfl⟩ (Nat.le_refl _)
  · intro t ht
    rw [zr _ (by omega) (by omega)]
    exact hWl t ht
  · intro e
    rw [zu_self] at e
    exact absurd e (by decide)
  · exact zFr_c (fun q _ _ => by rw [yr 143 (by omega) (by omega), yr 146 (by omega) (by omega), yr 148 (by omega) (by omega)]; exact ⟨rfl, rfl, rfl⟩) (fun j _ => rfl) hFr
