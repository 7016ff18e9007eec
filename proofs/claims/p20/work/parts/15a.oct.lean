/-! WHAT IS THROWN: class (its exception's number) and reference (the place in the method's list) alike -/
theorem zlt_ex {i : Int32} {n : Nat} (h : zlt i n) : ∃ c, c < n ∧ i = nI c := ⟨_, (zlt_nat h).2, (zlt_nat h).1⟩
theorem zcap {n m : Nat} (h : n ≤ m) (hm : m ≤ 4000) : nI n = nI m ↔ ¬ nI n < nI m := by
  rw [Int32.lt_iff_toInt_lt, nI_toInt (by omega), nI_toInt (by omega)]
  constructor
  · intro e
    have := nI_inj e (by omega) (by omega)
    omega
  · intro q
    rw [show n = m by omega]
theorem zt_island {ni : Nat} (hni : ni ≤ 10) (i j : Int32) :
    (zsq (zo2 i 0 99) (zsq (zo2 j 0 99) (zo3 (nI ni) 10)) = 0 ∧ (if zin i 0 99 then (if zin j 0 99 then (if nI ni = 10 then 2 else 0) else 1) else 1) = 0 ∧ zin i 0 99 ∧ zin j 0 99 ∧ ni < 10) ∨
    (zsq (zo2 i 0 99) (zsq (zo2 j 0 99) (zo3 (nI ni) 10)) = 2 ∧ (if zin i 0 99 then (if zin j 0 99 then (if nI ni = 10 then 2 else 0) else 1) else 1) = 1) ∨
    (zsq (zo2 i 0 99) (zsq (zo2 j 0 99) (zo3 (nI ni) 10)) = 3 ∧ (if zin i 0 99 then (if zin j 0 99 then (if nI ni = 10 then 2 else 0) else 1) else 1) = 2) := by
  have h4 : nI ni = 10 ↔ ¬ nI ni < 10 := zcap (m := 10) hni (by omega)
  unfold zsq zo2 zo3
  by_cases h1 : zin i 0 99
  · rw [if_pos h1, if_pos h1, if_pos rfl]
    by_cases h2 : zin j 0 99
    · rw [if_pos h2, if_pos h2, if_pos rfl]
      by_cases h3 : nI ni < 10
      · rw [if_pos h3, if_neg (fun e => h4.mp e h3)]
        exact Or.inl ⟨rfl, rfl, h1, h2, z_ltn (n := 10) h3 (by omega) (by omega)⟩
      · rw [if_neg h3, if_pos (h4.mpr h3)]
        exact Or.inr (Or.inr ⟨rfl, rfl⟩)
    · rw [if_neg h2, if_neg h2, if_neg (by decide)]
      exact Or.inr (Or.inl ⟨rfl, rfl⟩)
  · rw [if_neg h1, if_neg h1, if_neg (by decide)]
    exact Or.inr (Or.inl ⟨rfl, rfl⟩)
theorem zt_cable {ni nc : Nat} (hnc : nc ≤ 16) (i j k x y : Int32) :
    (zsq (zo1 i ni) (zsq (zo1 j ni) (zsq (zoU i j) (zsq (zo2 k 1 8) (zsq (zo2 x 1 500) (zsq (zo2 y 0 9999) (zo3 (nI nc) 16)))))) = 0 ∧ (if zlt i ni then (if zlt j ni then (if i = j then 2 else if zin k 1 8 then (if zin x 1 500 then (if zin y 0 9999 then (if nI nc = 16 then 3 else 0) else 2) else 2) else 2) else 1) else 1) = 0 ∧ (zlt i ni ∧ zlt j ni ∧ ¬ i = j ∧ zin k 1 8 ∧ zin x 1 500 ∧ zin y 0 9999 ∧ nc < 16)) ∨
    (zsq (zo1 i ni) (zsq (zo1 j ni) (zsq (zoU i j) (zsq (zo2 k 1 8) (zsq (zo2 x 1 500) (zsq (zo2 y 0 9999) (zo3 (nI nc) 16)))))) = 1 ∧ (if zlt i ni then (if zlt j ni then (if i = j then 2 else if zin k 1 8 then (if zin x 1 500 then (if zin y 0 9999 then (if nI nc = 16 then 3 else 0) else 2) else 2) else 2) else 1) else 1) = 1) ∨
    (zsq (zo1 i ni) (zsq (zo1 j ni) (zsq (zoU i j) (zsq (zo2 k 1 8) (zsq (zo2 x 1 500) (zsq (zo2 y 0 9999) (zo3 (nI nc) 16)))))) = 2 ∧ (if zlt i ni then (if zlt j ni then (if i = j then 2 else if zin k 1 8 then (if zin x 1 500 then (if zin y 0 9999 then (if nI nc = 16 then 3 else 0) else 2) else 2) else 2) else 1) else 1) = 2) ∨
    (zsq (zo1 i ni) (zsq (zo1 j ni) (zsq (zoU i j) (zsq (zo2 k 1 8) (zsq (zo2 x 1 500) (zsq (zo2 y 0 9999) (zo3 (nI nc) 16)))))) = 3 ∧ (if zlt i ni then (if zlt j ni then (if i = j then 2 else if zin k 1 8 then (if zin x 1 500 then (if zin y 0 9999 then (if nI nc = 16 then 3 else 0) else 2) else 2) else 2) else 1) else 1) = 3) := by
  have h4 : nI nc = 16 ↔ ¬ nI nc < 16 := zcap (m := 16) hnc (by omega)
  unfold zsq zo1 zo2 zo3 zoU
  by_cases h1 : zlt i ni
  · rw [if_pos h1, if_pos h1, if_pos rfl]
    by_cases h2 : zlt j ni
    · rw [if_pos h2, if_pos h2, if_pos rfl]
      by_cases h3 : i = j
      · rw [if_pos h3, if_pos h3, if_neg (by decide)]
        exact Or.inr (Or.inr (Or.inl ⟨rfl, rfl⟩))
      · rw [if_neg h3, if_neg h3, if_pos rfl]
        by_cases h5 : zin k 1 8
        · rw [if_pos h5, if_pos h5, if_pos rfl]
          by_cases h6 : zin x 1 500
          · rw [if_pos h6, if_pos h6, if_pos rfl]
            by_cases h7 : zin y 0 9999
            · rw [if_pos h7, if_pos h7, if_pos rfl]
              by_cases h8 : nI nc < 16
              · rw [if_pos h8, if_neg (fun e => h4.mp e h8)]
                exact Or.inl ⟨rfl, rfl, h1, h2, h3, h5, h6, h7, z_ltn (n := 16) h8 (by omega) (by omega)⟩
              · rw [if_neg h8, if_pos (h4.mpr h8)]
                exact Or.inr (Or.inr (Or.inr ⟨rfl, rfl⟩))
            · rw [if_neg h7, if_neg h7, if_neg (by decide)]
              exact Or.inr (Or.inr (Or.inl ⟨rfl, rfl⟩))
          · rw [if_neg h6, if_neg h6, if_neg (by decide)]
            exact Or.inr (Or.inr (Or.inl ⟨rfl, rfl⟩))
        · rw [if_neg h5, if_neg h5, if_neg (by decide)]
          exact Or.inr (Or.inr (Or.inl ⟨rfl, rfl⟩))
    · rw [if_neg h2, if_neg h2, if_neg (by decide)]
      exact Or.inr (Or.inl ⟨rfl, rfl⟩)
  · rw [if_neg h1, if_neg h1, if_neg (by decide)]
    exact Or.inr (Or.inl ⟨rfl, rfl⟩)
theorem zt_price {nc : Nat} (i x : Int32) :
    (zsq (zo1 i nc) (zo2 x 0 9999) = 0 ∧ (if zlt i nc then (if zin x 0 9999 then 0 else 2) else 1) = 0 ∧ zlt i nc ∧ zin x 0 9999) ∨
    (zsq (zo1 i nc) (zo2 x 0 9999) = 1 ∧ (if zlt i nc then (if zin x 0 9999 then 0 else 2) else 1) = 1) ∨
    (zsq (zo1 i nc) (zo2 x 0 9999) = 2 ∧ (if zlt i nc then (if zin x 0 9999 then 0 else 2) else 1) = 2) := by
  unfold zsq zo1 zo2
  by_cases h1 : zlt i nc
  · rw [if_pos h1, if_pos h1, if_pos rfl]
    by_cases h2 : zin x 0 9999
    · rw [if_pos h2]
      exact Or.inl ⟨rfl, rfl, h1, h2⟩
    · rw [if_neg h2]
      exact Or.inr (Or.inr ⟨rfl, rfl⟩)
  · rw [if_neg h1, if_neg h1, if_neg (by decide)]
    exact Or.inr (Or.inl ⟨rfl, rfl⟩)
theorem zt_12 {n : Nat} {a b : Int32} (i x : Int32) :
    (zsq (zo1 i n) (zo2 x a b) = 0 ∧ (if zlt i n then (if zin x a b then 0 else 2) else 1) = 0 ∧ zlt i n ∧ zin x a b) ∨
    (zsq (zo1 i n) (zo2 x a b) = 1 ∧ (if zlt i n then (if zin x a b then 0 else 2) else 1) = 1) ∨
    (zsq (zo1 i n) (zo2 x a b) = 2 ∧ (if zlt i n then (if zin x a b then 0 else 2) else 1) = 2) := by
  unfold zsq zo1 zo2
  by_cases h1 : zlt i n
  · rw [if_pos h1, if_pos h1, if_pos rfl]
    by_cases h2 : zin x a b
    · rw [if_pos h2]
      exact Or.inl ⟨rfl, rfl, h1, h2⟩
    · rw [if_neg h2]
      exact Or.inr (Or.inr ⟨rfl, rfl⟩)
  · rw [if_neg h1, if_neg h1, if_neg (by decide)]
    exact Or.inr (Or.inl ⟨rfl, rfl⟩)
theorem zt_ship {ni ns : Nat} (hns : ns ≤ 4) (i x : Int32) :
    (zsq (zo1 i ni) (zsq (zo2 x 1 20) (zo3 (nI ns) 4)) = 0 ∧ (if zlt i ni then (if zin x 1 20 then (if nI ns = 4 then 3 else 0) else 2) else 1) = 0 ∧ zlt i ni ∧ zin x 1 20 ∧ ns < 4) ∨
    (zsq (zo1 i ni) (zsq (zo2 x 1 20) (zo3 (nI ns) 4)) = 1 ∧ (if zlt i ni then (if zin x 1 20 then (if nI ns = 4 then 3 else 0) else 2) else 1) = 1) ∨
    (zsq (zo1 i ni) (zsq (zo2 x 1 20) (zo3 (nI ns) 4)) = 2 ∧ (if zlt i ni then (if zin x 1 20 then (if nI ns = 4 then 3 else 0) else 2) else 1) = 2) ∨
    (zsq (zo1 i ni) (zsq (zo2 x 1 20) (zo3 (nI ns) 4)) = 3 ∧ (if zlt i ni then (if zin x 1 20 then (if nI ns = 4 then 3 else 0) else 2) else 1) = 3) := by
  have h4 : nI ns = 4 ↔ ¬ nI ns < 4 := zcap (m := 4) hns (by omega)
  unfold zsq zo1 zo2 zo3
  by_cases h1 : zlt i ni
  · rw [if_pos h1, if_pos h1, if_pos rfl]
    by_cases h2 : zin x 1 20
    · rw [if_pos h2, if_pos h2, if_pos rfl]
      by_cases h8 : nI ns < 4
      · rw [if_pos h8, if_neg (fun e => h4.mp e h8)]
        exact Or.inl ⟨rfl, rfl, h1, h2, z_ltn (n := 4) h8 (by omega) (by omega)⟩
      · rw [if_neg h8, if_pos (h4.mpr h8)]
        exact Or.inr (Or.inr (Or.inr ⟨rfl, rfl⟩))
    · rw [if_neg h2, if_neg h2, if_neg (by decide)]
      exact Or.inr (Or.inr (Or.inl ⟨rfl, rfl⟩))
  · rw [if_neg h1, if_neg h1, if_neg (by decide)]
    exact Or.inr (Or.inl ⟨rfl, rfl⟩)
theorem zt_1 {n : Nat} (i : Int32) : (zo1 i n = 0 ∧ (if zlt i n then 0 else 1) = 0 ∧ zlt i n) ∨ (zo1 i n = 1 ∧ (if zlt i n then 0 else 1) = 1) := by
  unfold zo1
  by_cases h1 : zlt i n
  · rw [if_pos h1]; exact Or.inl ⟨rfl, rfl, h1⟩
  · rw [if_neg h1]; exact Or.inr ⟨rfl, rfl⟩
theorem zt_neg (x : Int32) : ((if x < 0 then 1 else 0) = 0 ∧ (if x < 0 then 1 else 0) = 0 ∧ ¬ x < 0) ∨ ((if x < 0 then 1 else 0) = 1 ∧ (if x < 0 then 1 else 0) = 1) := by
  by_cases h1 : x < 0
  · rw [if_pos h1]; exact Or.inr ⟨rfl, rfl⟩
  · rw [if_neg h1]; exact Or.inl ⟨rfl, rfl, h1⟩
theorem zt_pass (x : Int32) : (zo2 x 1 500 = 0 ∧ (if zin x 1 500 then 0 else 1) = 0 ∧ zin x 1 500) ∨ (zo2 x 1 500 = 2 ∧ (if zin x 1 500 then 0 else 1) = 1) := by
  unfold zo2
  by_cases h1 : zin x 1 500
  · rw [if_pos h1, if_pos h1]; exact Or.inl ⟨rfl, rfl, h1⟩
  · rw [if_neg h1, if_neg h1]; exact Or.inr ⟨rfl, rfl⟩
theorem zt_way {nt : Nat} (i x : Int32) :
    (zsq (zo1 i nt) (if x < 0 then 1 else 0) = 0 ∧ (if zlt i nt then (if x < 0 then 1 else 0) else 1) = 0 ∧ zlt i nt ∧ ¬ x < 0) ∨ (zsq (zo1 i nt) (if x < 0 then 1 else 0) = 1 ∧ (if zlt i nt then (if x < 0 then 1 else 0) else 1) = 1) := by
  unfold zsq zo1
  by_cases h1 : zlt i nt
  · rw [if_pos h1, if_pos h1, if_pos rfl]
    by_cases h2 : x < 0
    · rw [if_pos h2]; exact Or.inr ⟨rfl, rfl⟩
    · rw [if_neg h2]; exact Or.inl ⟨rfl, rfl, h1, h2⟩
  · rw [if_neg h1, if_neg h1, if_neg (by decide)]
    exact Or.inr ⟨rfl, rfl⟩
theorem zt_home {ni ns : Nat} {I J : zIt} (hst : ∀ q, q < ns → I (48 + q) 3 = J 143 q) (i j : Int32) :
    (zoH I ni ns i j = 0 ∧ (if zlt i ns then (if zlt j ni then (if J 143 i.toNatClampNeg = 0 then 0 else 2) else 1) else 1) = 0 ∧ zlt i ns ∧ zlt j ni ∧ I (48 + i.toNatClampNeg) 3 = 0) ∨
    (zoH I ni ns i j = 1 ∧ (if zlt i ns then (if zlt j ni then (if J 143 i.toNatClampNeg = 0 then 0 else 2) else 1) else 1) = 1) ∨
    (zoH I ni ns i j = 3 ∧ (if zlt i ns then (if zlt j ni then (if J 143 i.toNatClampNeg = 0 then 0 else 2) else 1) else 1) = 2) := by
  unfold zoH zsq zo1 zoI
  by_cases h1 : zlt i ns
  · rw [if_pos h1, if_pos h1, if_pos rfl]
    have e := hst _ (zlt_nat h1).2
    by_cases h2 : zlt j ni
    · rw [if_pos h2, if_pos h2, if_pos rfl, e]
      by_cases h3 : J 143 i.toNatClampNeg = 0
      · rw [if_pos h3, if_pos h3]
        exact Or.inl ⟨rfl, rfl, h1, h2, h3⟩
      · rw [if_neg h3, if_neg h3]
        exact Or.inr (Or.inr ⟨rfl, rfl⟩)
    · rw [if_neg h2, if_neg h2, if_neg (by decide)]
      exact Or.inr (Or.inl ⟨rfl, rfl⟩)
  · rw [if_neg h1, if_neg h1, if_neg (by decide)]
    exact Or.inr (Or.inl ⟨rfl, rfl⟩)
theorem zHas_at {nc : Nat} {I J : zIt} (hF : zRF nc I J) {j k : Int32} (h1 : zlt j nc) (h2 : zlt k (zSpn I j)) : zHasF I (32 + j.toNatClampNeg) k ↔ ¬ zoi (zPl J (8 * j + k)) = -1 := by
  obtain ⟨e1, hc⟩ := zlt_nat h1
  obtain ⟨e2, hs⟩ := zlt_nat h2
  have h := zHas_iff hF hc (show k.toNatClampNeg < zspn I j.toNatClampNeg from hs)
  rw [← zcode, ← e1, ← e2] at h
  exact h
theorem zSp_eq {nc : Nat} {I J : zIt} (hC : zRC nc I J) {j : Int32} (h1 : zlt j nc) : zRsp J j = zSpn I j := by
  unfold zRsp zSpn
  rw [(hC _ (zlt_nat h1).2).2.2.1]
theorem zoS_eq {nc : Nat} {I J : zIt} (hC : zRC nc I J) (j k : Int32) : (zoS I nc j k = 0 ∧ zlt j nc ∧ zlt k (zRsp J j)) ∨ (zoS I nc j k = 1 ∧ ¬ (zlt j nc ∧ zlt k (zRsp J j))) := by
  unfold zoS zsq zo1
  by_cases h1 : zlt j nc
  · rw [if_pos h1, if_pos rfl, zSp_eq hC h1]
    by_cases h2 : zlt k (zSpn I j)
    · rw [if_pos h2]; exact Or.inl ⟨rfl, h1, h2⟩
    · rw [if_neg h2]; exact Or.inr ⟨rfl, fun q => h2 q.2⟩
  · rw [if_neg h1, if_neg (by decide)]
    exact Or.inr ⟨rfl, fun q => h1 q.1⟩
theorem zt_fault {nc : Nat} {I J : zIt} (hF : zRF nc I J) (hC : zRC nc I J) (j k : Int32) :
    (zsq (zoS I nc j k) (if zHasF I (32 + j.toNatClampNeg) k then 3 else 0) = 0 ∧ (if zlt j nc ∧ zlt k (zRsp J j) then (if zoi (zPl J (8 * j + k)) = -1 then 0 else 2) else 1) = 0 ∧ zlt j nc ∧ zlt k (zSpn I j) ∧ ¬ zHasF I (32 + j.toNatClampNeg) k) ∨
    (zsq (zoS I nc j k) (if zHasF I (32 + j.toNatClampNeg) k then 3 else 0) = 1 ∧ (if zlt j nc ∧ zlt k (zRsp J j) then (if zoi (zPl J (8 * j + k)) = -1 then 0 else 2) else 1) = 1) ∨
    (zsq (zoS I nc j k) (if zHasF I (32 + j.toNatClampNeg) k then 3 else 0) = 3 ∧ (if zlt j nc ∧ zlt k (zRsp J j) then (if zoi (zPl J (8 * j + k)) = -1 then 0 else 2) else 1) = 2) := by
  rcases zoS_eq hC j k with ⟨e, h1, h2⟩ | ⟨e, h⟩
  · have h2' : zlt k (zSpn I j) := by rw [← zSp_eq hC h1]; exact h2
    have hh := zHas_at hF h1 h2'
    rw [e, if_pos (show zlt j nc ∧ zlt k (zRsp J j) from ⟨h1, h2⟩)]
    unfold zsq
    rw [if_pos rfl]
    by_cases h3 : zHasF I (32 + j.toNatClampNeg) k
    · rw [if_pos h3, if_neg (hh.mp h3)]
      exact Or.inr (Or.inr ⟨rfl, rfl⟩)
    · rw [if_neg h3, if_pos (Decidable.not_not.mp (fun q => h3 (hh.mpr q)))]
      exact Or.inl ⟨rfl, rfl, h1, h2', h3⟩
  · rw [e, if_neg h]
    exact Or.inr (Or.inl ⟨rfl, rfl⟩)
theorem zt_send {nc ns : Nat} {I J : zIt} (hF : zRF nc I J) (hC : zRC nc I J) (hst : ∀ q, q < ns → I (48 + q) 3 = J 143 q) (i j k : Int32) :
    (zoD I nc ns i j k = 0 ∧ (if zlt i ns then (if zlt j nc ∧ zlt k (zRsp J j) then (if J 143 i.toNatClampNeg = 0 then (if zoi (zPl J (8 * j + k)) = -1 then 2 else 0) else 2) else 1) else 1) = 0 ∧ zlt i ns ∧ zlt j nc ∧ zlt k (zSpn I j) ∧ I (48 + i.toNatClampNeg) 3 = 0 ∧ zHasF I (32 + j.toNatClampNeg) k) ∨
    (zoD I nc ns i j k = 1 ∧ (if zlt i ns then (if zlt j nc ∧ zlt k (zRsp J j) then (if J 143 i.toNatClampNeg = 0 then (if zoi (zPl J (8 * j + k)) = -1 then 2 else 0) else 2) else 1) else 1) = 1) ∨
    (zoD I nc ns i j k = 3 ∧ (if zlt i ns then (if zlt j nc ∧ zlt k (zRsp J j) then (if J 143 i.toNatClampNeg = 0 then (if zoi (zPl J (8 * j + k)) = -1 then 2 else 0) else 2) else 1) else 1) = 2) := by
  unfold zoD
  by_cases h0 : zlt i ns
  · have e0 := hst _ (zlt_nat h0).2
    rw [if_pos h0, show zo1 i ns = 0 from if_pos h0]
    rcases zoS_eq hC j k with ⟨e, h1, h2⟩ | ⟨e, h⟩
    · have h2' : zlt k (zSpn I j) := by rw [← zSp_eq hC h1]; exact h2
      have hh := zHas_at hF h1 h2'
      rw [e, if_pos (show zlt j nc ∧ zlt k (zRsp J j) from ⟨h1, h2⟩)]
      unfold zsq zoI
      rw [if_pos rfl, if_pos rfl, e0]
      by_cases h4 : J 143 i.toNatClampNeg = 0
      · rw [if_pos h4, if_pos h4, if_pos rfl]
        by_cases h3 : zHasF I (32 + j.toNatClampNeg) k
        · rw [if_pos h3, if_neg (hh.mp h3)]
          exact Or.inl ⟨rfl, rfl, h0, h1, h2', h4, h3⟩
        · rw [if_neg h3, if_pos (Decidable.not_not.mp (fun q => h3 (hh.mpr q)))]
          exact Or.inr (Or.inr ⟨rfl, rfl⟩)
      · rw [if_neg h4, if_neg h4, if_neg (by decide)]
        exact Or.inr (Or.inr ⟨rfl, rfl⟩)
    · rw [e, if_neg h]
      exact Or.inr (Or.inl ⟨rfl, rfl⟩)
  · rw [if_neg h0, show zo1 i ns = 1 from if_neg h0]
    exact Or.inr (Or.inl ⟨rfl, rfl⟩)
