/-! A CALL THAT IS TAKEN (laid by m_law2.py) -/
theorem z_nlt {a n : Nat} (h : a < n) (hn : n < 2 ^ 31) : nI a < nI n := by
  rw [Int32.lt_iff_toInt_lt, nI_toInt (by omega), nI_toInt hn]
  omega
theorem zSet_fr {I : zIt} {q κ : Nat} {c s a b : Int32} (h : κ ≠ 48 + q) : zSet (zAim I (48 + q) c s) (48 + q) a b κ = I κ := by
  have hA : zAim I (48 + q) c s κ = I κ := by
    funext k
    exact zAim_ne (by omega)
  unfold zSet
  split
  · rw [zArr_fr κ h, zBeg_fr κ h, zu_rne h, zu_rne h, hA]
  · rw [zBeg_fr κ h, zu_rne h, zu_rne h, hA]
theorem zAddF_fr {I : zIt} {c κ : Nat} {s : Int32} (h : 112 ≤ κ) (hc : c < 16) : zAddF (zu I 0 7 1) c s κ = I κ := by
  unfold zAddF
  rw [zu_rne (by omega), zu_rne (by omega), zu_rne (by omega), zu_rne (by omega)]
theorem zSail_cell {J : zIt} {q κ k : Nat} {a b t : Int32} (h : κ < 142 ∨ 149 ≤ κ) : zSail J q a b t κ k = J κ k := by
  unfold zSail
  split
  · rw [zCome_row (by omega), zu_ne _ _ (by omega), zu_ne _ _ (by omega), zu_ne _ _ (by omega), zu_ne _ _ (by omega), zu_ne _ _ (by omega)]
  · rw [zu_ne _ _ (by omega), zu_ne _ _ (by omega), zu_ne _ _ (by omega), zu_ne _ _ (by omega), zu_ne _ _ (by omega)]
theorem zSail_fr {J : zIt} {q κ : Nat} {a b t : Int32} (h : κ < 142 ∨ 149 ≤ κ) : zSail J q a b t κ = J κ := by
  funext k
  exact zSail_cell h
theorem zRhrs_more {ni nc ns nt n : Nat} {J : zIt} {K : zLt} : (zRhrs ni nc ns nt (J, K) n).1 128 0 = J 128 0 ∧ ∀ κ, κ ≠ 156 → κ ≠ 157 → (zRhrs ni nc ns nt (J, K) n).2 κ = K κ := by
  induction n with
  | zero => exact ⟨rfl, fun _ _ _ => rfl⟩
  | succ n ih =>
    show (zRhr ni nc ns nt (zRhrs ni nc ns nt (J, K) n)).1 128 0 = J 128 0 ∧ ∀ κ, κ ≠ 156 → κ ≠ 157 → (zRhr ni nc ns nt (zRhrs ni nc ns nt (J, K) n)).2 κ = K κ
    unfold zRhr
    have f := zRtr_fr (ni := ni) (nc := nc) (zRsh (zu (zRhrs ni nc ns nt (J, K) n).1 128 1 ((zRhrs ni nc ns nt (J, K) n).1 128 1 + 1)) ns, (zRhrs ni nc ns nt (J, K) n).2) nt
    refine ⟨?_, fun κ h1 h2 => ?_⟩
    · rw [f.1 128 (by omega)]
      dsimp only
      rw [zRsh_cell (by unfold zRhc; omega), zu_ne _ _ (by omega)]
      exact ih.1
    · rw [f.2 κ h1 h2]
      exact ih.2 κ h1 h2
theorem s3_island {n ni nc ns nt hrs : Nat} {ty : zTyp} {I : zIt} {L K : zLt} {P : zPt} (hT : (zcls ni nc ns nt ty P ∧ zref ty P ∧ ty 160 = some (9, 1) ∧ zFree ni nc ns nt ty)) (h : zREL ni nc ns nt hrs I L I L) (hh : hrs ≤ 500 * n) (hn5 : n < 512) {i j : Int32} (hoc : (zsq (zo2 i 0 99) (zsq (zo2 j 0 99) (zo3 (nI ni) 10))) = 0) (h1 : zin i 0 99) (h2 : zin j 0 99) (h3 : ni < 10) {I2 : zIt} (e1 : I2 = zu (zu (zu (zs I (16 + ni) (fun _ => 0)) (16 + ni) 0 i) (16 + ni) 1 j) 0 1 (nI (ni + 1))) {L2 : zLt} (e2 : L2 = zs L (16 + ni) (fun _ => 0)) {ty2 : zTyp} (e3 : ty2 = zs ty (16 + ni) (some (1, 0))) {P2 : zPt} (e4 : P2 = zu (zs P (16 + ni) (fun _ => none)) 2 ni (some (16 + ni))) (eK : K = zu L2 160 0 ((nI ni).toInt64)) :
    ((if zin i 0 99 then (if zin j 0 99 then (if nI ni = 10 then 2 else 0) else 1) else 1) = 0) ∧ (zRv ni nc ns nt I2) ∧ ((zu (zu (zu (zu I2 128 0 0) 131 ni i) 132 ni j) 128 2 (nI (ni + 1))) 128 0 = 0) ∧ (K 160 0 = (nI ni).toInt64) ∧ ((nI ni).toInt64 = (nI ni).toInt64) ∧ (zLI (n + 1) ty2 (zu (zu (zu (zu I2 128 0 0) 131 ni i) 132 ni j) 128 2 (nI (ni + 1))) K P2) ∧ (zref ty2 P2) := by
  have hb : zRbd ni nc ns nt := zREL_bd h
  obtain ⟨hb1, hb2, hb3, hb4⟩ := id hb
  have hf : ∀ κ, 128 ≤ κ → I2 κ = I κ := fun κ hκ => by
    funext j
    rw [e1]
    unfold zu; (try unfold zs); repeat (first | rw [if_pos (by omega)] | rw [if_neg (by omega)] | dsimp only | rfl)
  have hK : K 156 = L 156 := by
    funext j
    rw [eK, zu_rne (by omega), e2]
    (try unfold zu); (try unfold zs); repeat (first | rw [if_pos (by omega)] | rw [if_neg (by omega)] | dsimp only | rfl)
  have h' := zREL_self h hf hK
  have r1 := s2_island h' h1 h2 h3
  rw [← e1, ← e2] at r1
  have ht : (if zin i 0 99 then (if zin j 0 99 then (if nI ni = 10 then 2 else 0) else 1) else 1) = 0 := by
    rcases zt_island hb.1 i j with ⟨-, q, -⟩ | ⟨q, -⟩ | ⟨q, -⟩
    · exact q
    · exact absurd (q.symm.trans hoc) (by decide)
    · exact absurd (q.symm.trans hoc) (by decide)
  have hT0 : (zu (zu (zu (zu I2 128 0 0) 131 ni i) 132 ni j) 128 2 (nI (ni + 1))) 128 0 = 0 := by
    unfold zu; (try unfold zs); repeat (first | rw [if_pos (by omega)] | rw [if_neg (by omega)] | dsimp only | rfl)
  have hTf : ∀ κ, κ < 128 → (zu (zu (zu (zu I2 128 0 0) 131 ni i) 132 ni j) 128 2 (nI (ni + 1))) κ = I2 κ := fun κ hκ => by
    funext j
    unfold zu; (try unfold zs); repeat (first | rw [if_pos (by omega)] | rw [if_neg (by omega)] | dsimp only | rfl)
  have hK0 : K 160 0 = (nI ni).toInt64 := by rw [eK, zu_self]
  have hKf : ∀ κ, κ < 128 → K κ = L2 κ := fun κ hκ => by rw [eK, zu_rne (by omega)]
  have hT2 := zT_island hT h3
  rw [← e3, ← e4] at hT2
  exact ⟨ht, zREL_rv h', hT0, hK0, rfl, zLI_next hT2 r1 hTf hKf hh (Nat.le_add_right _ _), hT2.2.1⟩
theorem s3_cable {n ni nc ns nt hrs : Nat} {ty : zTyp} {I : zIt} {L K : zLt} {P : zPt} (hT : (zcls ni nc ns nt ty P ∧ zref ty P ∧ ty 160 = some (9, 1) ∧ zFree ni nc ns nt ty)) (h : zREL ni nc ns nt hrs I L I L) (hh : hrs ≤ 500 * n) (hn5 : n < 512) {i j k x y : Int32} (hoc : (zsq (zo1 i ni) (zsq (zo1 j ni) (zsq (zoU i j) (zsq (zo2 k 1 8) (zsq (zo2 x 1 500) (zsq (zo2 y 0 9999) (zo3 (nI nc) 16))))))) = 0) (h1 : zlt i ni) (h2 : zlt j ni) (h3 : ¬ i = j) (h4 : zin k 1 8) (h5 : zin x 1 500) (h6 : zin y 0 9999) (h7 : nc < 16) {I2 : zIt} (e1 : I2 = zu (zu (zu (zu (zu (zu (zu (zs (zu I 0 7 1) (32 + nc) (fun _ => 0)) (32 + nc) 5 0) (32 + nc) 0 (nI i.toNatClampNeg)) (32 + nc) 1 (nI j.toNatClampNeg)) (32 + nc) 2 k) (32 + nc) 3 x) (32 + nc) 4 y) 1 1 (nI (nc + 1))) {L2 : zLt} (e2 : L2 = zs L (32 + nc) (fun _ => 0)) {ty2 : zTyp} (e3 : ty2 = zs ty (32 + nc) (some (0, 0))) {P2 : zPt} (e4 : P2 = zu (zs P (32 + nc) (fun _ => none)) 3 nc (some (32 + nc))) (eK : K = zu L2 160 0 ((nI nc).toInt64)) :
    ((if zlt i ni then (if zlt j ni then (if i = j then 2 else if zin k 1 8 then (if zin x 1 500 then (if zin y 0 9999 then (if nI nc = 16 then 3 else 0) else 2) else 2) else 2) else 1) else 1) = 0) ∧ (zRv ni nc ns nt I2) ∧ ((zu (zu (zu (zu (zu (zu (zu I2 128 0 0) 134 nc i) 135 nc j) 136 nc k) 137 nc x) 138 nc y) 128 5 (nI (nc + 1))) 128 0 = 0) ∧ (K 160 0 = (nI nc).toInt64) ∧ ((nI nc).toInt64 = (nI nc).toInt64) ∧ (zLI (n + 1) ty2 (zu (zu (zu (zu (zu (zu (zu I2 128 0 0) 134 nc i) 135 nc j) 136 nc k) 137 nc x) 138 nc y) 128 5 (nI (nc + 1))) K P2) ∧ (zref ty2 P2) := by
  have hb : zRbd ni nc ns nt := zREL_bd h
  obtain ⟨hb1, hb2, hb3, hb4⟩ := id hb
  have hf : ∀ κ, 128 ≤ κ → I2 κ = I κ := fun κ hκ => by
    funext j
    rw [e1]
    unfold zu; (try unfold zs); repeat (first | rw [if_pos (by omega)] | rw [if_neg (by omega)] | dsimp only | rfl)
  have hK : K 156 = L 156 := by
    funext j
    rw [eK, zu_rne (by omega), e2]
    (try unfold zu); (try unfold zs); repeat (first | rw [if_pos (by omega)] | rw [if_neg (by omega)] | dsimp only | rfl)
  have h' := zREL_self h hf hK
  have r1 := s2_cable h' h1 h2 h4 h5 h6 h7
  rw [← e1, ← e2] at r1
  have ht : (if zlt i ni then (if zlt j ni then (if i = j then 2 else if zin k 1 8 then (if zin x 1 500 then (if zin y 0 9999 then (if nI nc = 16 then 3 else 0) else 2) else 2) else 2) else 1) else 1) = 0 := by
    rcases zt_cable hb.2.1 i j k x y with ⟨-, q, -⟩ | ⟨q, -⟩ | ⟨q, -⟩ | ⟨q, -⟩
    · exact q
    · exact absurd (q.symm.trans hoc) (by decide)
    · exact absurd (q.symm.trans hoc) (by decide)
    · exact absurd (q.symm.trans hoc) (by decide)
  have hT0 : (zu (zu (zu (zu (zu (zu (zu I2 128 0 0) 134 nc i) 135 nc j) 136 nc k) 137 nc x) 138 nc y) 128 5 (nI (nc + 1))) 128 0 = 0 := by
    unfold zu; (try unfold zs); repeat (first | rw [if_pos (by omega)] | rw [if_neg (by omega)] | dsimp only | rfl)
  have hTf : ∀ κ, κ < 128 → (zu (zu (zu (zu (zu (zu (zu I2 128 0 0) 134 nc i) 135 nc j) 136 nc k) 137 nc x) 138 nc y) 128 5 (nI (nc + 1))) κ = I2 κ := fun κ hκ => by
    funext j
    unfold zu; (try unfold zs); repeat (first | rw [if_pos (by omega)] | rw [if_neg (by omega)] | dsimp only | rfl)
  have hK0 : K 160 0 = (nI nc).toInt64 := by rw [eK, zu_self]
  have hKf : ∀ κ, κ < 128 → K κ = L2 κ := fun κ hκ => by rw [eK, zu_rne (by omega)]
  have hT2 := zT_cable hT h7
  rw [← e3, ← e4] at hT2
  exact ⟨ht, zREL_rv h', hT0, hK0, rfl, zLI_next hT2 r1 hTf hKf hh (Nat.le_add_right _ _), hT2.2.1⟩
theorem s3_price {n ni nc ns nt hrs : Nat} {ty : zTyp} {I : zIt} {L K : zLt} {P : zPt} (hT : (zcls ni nc ns nt ty P ∧ zref ty P ∧ ty 160 = some (9, 1) ∧ zFree ni nc ns nt ty)) (h : zREL ni nc ns nt hrs I L I L) (hh : hrs ≤ 500 * n) (hn5 : n < 512) {i x : Int32} (hoc : (zsq (zo1 i nc) (zo2 x 0 9999)) = 0) (h1 : zlt i nc) (h2 : zin x 0 9999) {I2 : zIt} (e1 : I2 = zu (zu I (32 + i.toNatClampNeg) 4 x) 0 7 1) (eK : K = zu L 160 0 ((I (32 + i.toNatClampNeg) 4).toInt64)) :
    ((if zlt i nc then (if zin x 0 9999 then 0 else 2) else 1) = 0) ∧ (zRv ni nc ns nt I2) ∧ ((zu (zu I2 128 0 0) 138 i.toNatClampNeg x) 128 0 = 0) ∧ (K 160 0 = (I (32 + i.toNatClampNeg) 4).toInt64) ∧ ((I (32 + i.toNatClampNeg) 4).toInt64 = (I2 138 i.toNatClampNeg).toInt64) ∧ (zLI (n + 1) ty (zu (zu I2 128 0 0) 138 i.toNatClampNeg x) K P) ∧ (zref ty P) := by
  have hb : zRbd ni nc ns nt := zREL_bd h
  obtain ⟨hb1, hb2, hb3, hb4⟩ := id hb
  have hf : ∀ κ, 128 ≤ κ → I2 κ = I κ := fun κ hκ => by have := (zlt_nat h1).2; rw [e1, zu_rne (by omega), zu_rne (by omega)]
  have hK : K 156 = L 156 := by rw [eK, zu_rne (by omega)]
  have h' := zREL_self h hf hK
  have r1 := (s2_price h' h1 h2).1
  rw [← e1] at r1
  have ht : (if zlt i nc then (if zin x 0 9999 then 0 else 2) else 1) = 0 := by
    rcases zt_price i x with ⟨-, q, -⟩ | ⟨q, -⟩ | ⟨q, -⟩
    · exact q
    · exact absurd (q.symm.trans hoc) (by decide)
    · exact absurd (q.symm.trans hoc) (by decide)
  have hT0 : (zu (zu I2 128 0 0) 138 i.toNatClampNeg x) 128 0 = 0 := by
    unfold zu; (try unfold zs); repeat (first | rw [if_pos (by omega)] | rw [if_neg (by omega)] | dsimp only | rfl)
  have hTf : ∀ κ, κ < 128 → (zu (zu I2 128 0 0) 138 i.toNatClampNeg x) κ = I2 κ := fun κ hκ => by
    funext j
    unfold zu; (try unfold zs); repeat (first | rw [if_pos (by omega)] | rw [if_neg (by omega)] | dsimp only | rfl)
  have hK0 : K 160 0 = (I (32 + i.toNatClampNeg) 4).toInt64 := by rw [eK, zu_self]
  have hKf : ∀ κ, κ < 128 → K κ = L κ := fun κ hκ => by rw [eK, zu_rne (by omega)]
  exact ⟨ht, zREL_rv h', hT0, hK0, congrArg Int32.toInt64 (s2_price h' h1 h2).2, zLI_next hT r1 hTf hKf hh (Nat.le_add_right _ _), hT.2.1⟩
theorem s3_fault {n ni nc ns nt hrs : Nat} {ty : zTyp} {I : zIt} {L K : zLt} {P : zPt} (hT : (zcls ni nc ns nt ty P ∧ zref ty P ∧ ty 160 = some (9, 1) ∧ zFree ni nc ns nt ty)) (h : zREL ni nc ns nt hrs I L I L) (hh : hrs ≤ 500 * n) (hn5 : n < 512) {j k : Int32} (hoc : (zsq (zoS I nc j k) (if zHasF I (32 + j.toNatClampNeg) k then 3 else 0)) = 0) (h1 : zlt j nc) (h2 : zlt k (zSpn I j)) (h3 : ¬ zHasF I (32 + j.toNatClampNeg) k) {I2 : zIt} (e1 : I2 = zAddF (zu I 0 7 1) j.toNatClampNeg k) (eK : K = zu L 160 0 ((nI (zNf I + 1)).toInt64)) :
    ((if zlt j nc ∧ zlt k (zRsp I2 j) then (if zoi (zPl I2 (8 * j + k)) = -1 then 0 else 2) else 1) = 0) ∧ (zRv ni nc ns nt I2) ∧ ((zu (zu (zu I2 128 0 0) 140 (zRn I2) (8 * j + k)) 128 11 (nI (zRn I2 + 1))) 128 0 = 0) ∧ (K 160 0 = (nI (zNf I + 1)).toInt64) ∧ ((nI (zNf I + 1)).toInt64 = (nI (zRn I2 + 1)).toInt64) ∧ (zLI (n + 1) ty (zu (zu (zu I2 128 0 0) 140 (zRn I2) (8 * j + k)) 128 11 (nI (zRn I2 + 1))) K P) ∧ (zref ty P) ∧ (zRn I2 < 128) := by
  have hb : zRbd ni nc ns nt := zREL_bd h
  obtain ⟨hb1, hb2, hb3, hb4⟩ := id hb
  have hf : ∀ κ, 128 ≤ κ → I2 κ = I κ := fun κ hκ => by have := (zlt_nat h1).2; rw [e1]; exact zAddF_fr (by omega) (by omega)
  have hK : K 156 = L 156 := by rw [eK, zu_rne (by omega)]
  have h' := zREL_self h hf hK
  have r1 := (s2_fault h' h1 h2 h3).1
  rw [← e1] at r1
  have ht : (if zlt j nc ∧ zlt k (zRsp I2 j) then (if zoi (zPl I2 (8 * j + k)) = -1 then 0 else 2) else 1) = 0 := by
    rcases zt_fault h'.2.2.2.2.2.1 h'.2.2.2.2.1.2.1 j k with ⟨-, q, -⟩ | ⟨q, -⟩ | ⟨q, -⟩
    · exact q
    · exact absurd (q.symm.trans hoc) (by decide)
    · exact absurd (q.symm.trans hoc) (by decide)
  have hT0 : (zu (zu (zu I2 128 0 0) 140 (zRn I2) (8 * j + k)) 128 11 (nI (zRn I2 + 1))) 128 0 = 0 := by
    unfold zu; (try unfold zs); repeat (first | rw [if_pos (by omega)] | rw [if_neg (by omega)] | dsimp only | rfl)
  have hTf : ∀ κ, κ < 128 → (zu (zu (zu I2 128 0 0) 140 (zRn I2) (8 * j + k)) 128 11 (nI (zRn I2 + 1))) κ = I2 κ := fun κ hκ => by
    funext j
    unfold zu; (try unfold zs); repeat (first | rw [if_pos (by omega)] | rw [if_neg (by omega)] | dsimp only | rfl)
  have hK0 : K 160 0 = (nI (zNf I + 1)).toInt64 := by rw [eK, zu_self]
  have hKf : ∀ κ, κ < 128 → K κ = L κ := fun κ hκ => by rw [eK, zu_rne (by omega)]
  exact ⟨ht, zREL_rv h', hT0, hK0, by rw [(s2_fault h' h1 h2 h3).2.1], zLI_next hT r1 hTf hKf hh (Nat.le_add_right _ _), hT.2.1, by rw [← (s2_fault h' h1 h2 h3).2.1]; exact (s2_fault h' h1 h2 h3).2.2⟩
theorem s3_ship {n ni nc ns nt hrs : Nat} {ty : zTyp} {I : zIt} {L K : zLt} {P : zPt} (hT : (zcls ni nc ns nt ty P ∧ zref ty P ∧ ty 160 = some (9, 1) ∧ zFree ni nc ns nt ty)) (h : zREL ni nc ns nt hrs I L I L) (hh : hrs ≤ 500 * n) (hn5 : n < 512) {i x : Int32} (hoc : (zsq (zo1 i ni) (zsq (zo2 x 1 20) (zo3 (nI ns) 4))) = 0) (h1 : zlt i ni) (h2 : zin x 1 20) (h3 : ns < 4) {I2 : zIt} (e1 : I2 = zu (zu (zu (zu (zu (zu (zu (zu (zu (zs I (48 + ns) (fun _ => 0)) (48 + ns) 3 0) (48 + ns) 4 0) (48 + ns) 5 (-1)) (48 + ns) 6 (-1)) (48 + ns) 7 0) (48 + ns) 1 (I (16 + i.toNatClampNeg) 0)) (48 + ns) 2 (I (16 + i.toNatClampNeg) 1)) (48 + ns) 0 x) 0 4 (nI (ns + 1))) {L2 : zLt} (e2 : L2 = zs L (48 + ns) (fun _ => 0)) {ty2 : zTyp} (e3 : ty2 = zs ty (48 + ns) (some (3, 0))) {P2 : zPt} (e4 : P2 = zu (zs P (48 + ns) (fun _ => none)) 4 ns (some (48 + ns))) (eK : K = zu L2 160 0 ((nI ns).toInt64)) :
    ((if zlt i ni then (if zin x 1 20 then (if nI ns = 4 then 3 else 0) else 2) else 1) = 0) ∧ (zRv ni nc ns nt I2) ∧ ((zu (zu (zu (zu (zu I2 128 0 0) 142 ns x) 144 ns (I2 131 i.toNatClampNeg)) 145 ns (I2 132 i.toNatClampNeg)) 128 13 (nI (ns + 1))) 128 0 = 0) ∧ (K 160 0 = (nI ns).toInt64) ∧ ((nI ns).toInt64 = (nI ns).toInt64) ∧ (zLI (n + 1) ty2 (zu (zu (zu (zu (zu I2 128 0 0) 142 ns x) 144 ns (I2 131 i.toNatClampNeg)) 145 ns (I2 132 i.toNatClampNeg)) 128 13 (nI (ns + 1))) K P2) ∧ (zref ty2 P2) := by
  have hb : zRbd ni nc ns nt := zREL_bd h
  obtain ⟨hb1, hb2, hb3, hb4⟩ := id hb
  have hf : ∀ κ, 128 ≤ κ → I2 κ = I κ := fun κ hκ => by
    funext j
    rw [e1]
    unfold zu; (try unfold zs); repeat (first | rw [if_pos (by omega)] | rw [if_neg (by omega)] | dsimp only | rfl)
  have hK : K 156 = L 156 := by
    funext j
    rw [eK, zu_rne (by omega), e2]
    (try unfold zu); (try unfold zs); repeat (first | rw [if_pos (by omega)] | rw [if_neg (by omega)] | dsimp only | rfl)
  have h' := zREL_self h hf hK
  have r1 := s2_ship h' h1 h2 h3
  rw [← e1, ← e2] at r1
  have ht : (if zlt i ni then (if zin x 1 20 then (if nI ns = 4 then 3 else 0) else 2) else 1) = 0 := by
    rcases zt_ship hb.2.2.1 i x with ⟨-, q, -⟩ | ⟨q, -⟩ | ⟨q, -⟩ | ⟨q, -⟩
    · exact q
    · exact absurd (q.symm.trans hoc) (by decide)
    · exact absurd (q.symm.trans hoc) (by decide)
    · exact absurd (q.symm.trans hoc) (by decide)
  have hT0 : (zu (zu (zu (zu (zu I2 128 0 0) 142 ns x) 144 ns (I2 131 i.toNatClampNeg)) 145 ns (I2 132 i.toNatClampNeg)) 128 13 (nI (ns + 1))) 128 0 = 0 := by
    unfold zu; (try unfold zs); repeat (first | rw [if_pos (by omega)] | rw [if_neg (by omega)] | dsimp only | rfl)
  have hTf : ∀ κ, κ < 128 → (zu (zu (zu (zu (zu I2 128 0 0) 142 ns x) 144 ns (I2 131 i.toNatClampNeg)) 145 ns (I2 132 i.toNatClampNeg)) 128 13 (nI (ns + 1))) κ = I2 κ := fun κ hκ => by
    funext j
    unfold zu; (try unfold zs); repeat (first | rw [if_pos (by omega)] | rw [if_neg (by omega)] | dsimp only | rfl)
  have hK0 : K 160 0 = (nI ns).toInt64 := by rw [eK, zu_self]
  have hKf : ∀ κ, κ < 128 → K κ = L2 κ := fun κ hκ => by rw [eK, zu_rne (by omega)]
  have hT2 := zT_ship hT h3
  rw [← e3, ← e4] at hT2
  exact ⟨ht, zREL_rv h', hT0, hK0, rfl, zLI_next hT2 r1 hTf hKf hh (Nat.le_add_right _ _), hT2.2.1⟩
theorem s3_send {n ni nc ns nt hrs : Nat} {ty : zTyp} {I : zIt} {L K : zLt} {P : zPt} (hT : (zcls ni nc ns nt ty P ∧ zref ty P ∧ ty 160 = some (9, 1) ∧ zFree ni nc ns nt ty)) (h : zREL ni nc ns nt hrs I L I L) (hh : hrs ≤ 500 * n) (hn5 : n < 512) {i j k : Int32} (hoc : (zoD I nc ns i j k) = 0) (h1 : zlt i ns) (h2 : zlt j nc) (h3 : zlt k (zSpn I j)) (h4 : I (48 + i.toNatClampNeg) 3 = 0) (h5 : zHasF I (32 + j.toNatClampNeg) k) {a b : Nat} (ea : I (32 + j.toNatClampNeg) 0 = nI a) (eb : I (32 + j.toNatClampNeg) 1 = nI b) (ha : a < ni) (hb0 : b < ni) {I2 : zIt} (e1 : I2 = zSet (zAim I (48 + i.toNatClampNeg) (nI j.toNatClampNeg) k) (48 + i.toNatClampNeg) (zPlace k (I (16 + a) 0) (I (16 + b) 0) (I (32 + j.toNatClampNeg) 2)) (zPlace k (I (16 + a) 1) (I (16 + b) 1) (I (32 + j.toNatClampNeg) 2))) (eK : K = zu L 160 0 ((zHours ((zAim I (48 + i.toNatClampNeg) (nI j.toNatClampNeg) k) (48 + i.toNatClampNeg) 1) ((zAim I (48 + i.toNatClampNeg) (nI j.toNatClampNeg) k) (48 + i.toNatClampNeg) 2) ((zAim I (48 + i.toNatClampNeg) (nI j.toNatClampNeg) k) (48 + i.toNatClampNeg) 0) (zPlace k (I (16 + a) 0) (I (16 + b) 0) (I (32 + j.toNatClampNeg) 2)) (zPlace k (I (16 + a) 1) (I (16 + b) 1) (I (32 + j.toNatClampNeg) 2))).toInt64)) :
    ((if zlt i ns then (if zlt j nc ∧ zlt k (zRsp I2 j) then (if I2 143 i.toNatClampNeg = 0 then (if zoi (zPl I2 (8 * j + k)) = -1 then 2 else 0) else 2) else 1) else 1) = 0) ∧ (zRv ni nc ns nt I2) ∧ ((zSail (zu I2 128 0 0) i.toNatClampNeg (zPlace k (I2 131 a) (I2 131 b) (I2 136 j.toNatClampNeg)) (zPlace k (I2 132 a) (I2 132 b) (I2 136 j.toNatClampNeg)) (8 * (nI j.toNatClampNeg) + k)) 128 0 = 0) ∧ (K 160 0 = (zHours ((zAim I (48 + i.toNatClampNeg) (nI j.toNatClampNeg) k) (48 + i.toNatClampNeg) 1) ((zAim I (48 + i.toNatClampNeg) (nI j.toNatClampNeg) k) (48 + i.toNatClampNeg) 2) ((zAim I (48 + i.toNatClampNeg) (nI j.toNatClampNeg) k) (48 + i.toNatClampNeg) 0) (zPlace k (I (16 + a) 0) (I (16 + b) 0) (I (32 + j.toNatClampNeg) 2)) (zPlace k (I (16 + a) 1) (I (16 + b) 1) (I (32 + j.toNatClampNeg) 2))).toInt64) ∧ ((zHours ((zAim I (48 + i.toNatClampNeg) (nI j.toNatClampNeg) k) (48 + i.toNatClampNeg) 1) ((zAim I (48 + i.toNatClampNeg) (nI j.toNatClampNeg) k) (48 + i.toNatClampNeg) 2) ((zAim I (48 + i.toNatClampNeg) (nI j.toNatClampNeg) k) (48 + i.toNatClampNeg) 0) (zPlace k (I (16 + a) 0) (I (16 + b) 0) (I (32 + j.toNatClampNeg) 2)) (zPlace k (I (16 + a) 1) (I (16 + b) 1) (I (32 + j.toNatClampNeg) 2))).toInt64 = (zRh (zu I2 128 0 0) i.toNatClampNeg (zPlace k (I2 131 a) (I2 131 b) (I2 136 j.toNatClampNeg)) (zPlace k (I2 132 a) (I2 132 b) (I2 136 j.toNatClampNeg))).toInt64) ∧ (zLI (n + 1) ty (zSail (zu I2 128 0 0) i.toNatClampNeg (zPlace k (I2 131 a) (I2 131 b) (I2 136 j.toNatClampNeg)) (zPlace k (I2 132 a) (I2 132 b) (I2 136 j.toNatClampNeg)) (8 * (nI j.toNatClampNeg) + k)) K P) ∧ (zref ty P) ∧ (∀ κ, 128 ≤ κ → I2 κ = I κ) := by
  have hb : zRbd ni nc ns nt := zREL_bd h
  obtain ⟨hb1, hb2, hb3, hb4⟩ := id hb
  have hf : ∀ κ, 128 ≤ κ → I2 κ = I κ := fun κ hκ => by have := (zlt_nat h1).2; rw [e1]; exact zSet_fr (by omega)
  have hK : K 156 = L 156 := by rw [eK, zu_rne (by omega)]
  have h' := zREL_self h hf hK
  have r1 := (s2_send h' h1 h2 h3 h4 ea eb ha hb0).1
  rw [← e1] at r1
  have ht : (if zlt i ns then (if zlt j nc ∧ zlt k (zRsp I2 j) then (if I2 143 i.toNatClampNeg = 0 then (if zoi (zPl I2 (8 * j + k)) = -1 then 2 else 0) else 2) else 1) else 1) = 0 := by
    rcases zt_send h'.2.2.2.2.2.1 h'.2.2.2.2.1.2.1 (fun q hq => (h'.2.2.2.2.2.2.1 q hq).1.2.2.2.1) i j k with ⟨-, q, -⟩ | ⟨q, -⟩ | ⟨q, -⟩
    · exact q
    · exact absurd (q.symm.trans hoc) (by decide)
    · exact absurd (q.symm.trans hoc) (by decide)
  have hT0 : (zSail (zu I2 128 0 0) i.toNatClampNeg (zPlace k (I2 131 a) (I2 131 b) (I2 136 j.toNatClampNeg)) (zPlace k (I2 132 a) (I2 132 b) (I2 136 j.toNatClampNeg)) (8 * (nI j.toNatClampNeg) + k)) 128 0 = 0 := by rw [zSail_cell (by omega), zu_self]
  have hTf : ∀ κ, κ < 128 → (zSail (zu I2 128 0 0) i.toNatClampNeg (zPlace k (I2 131 a) (I2 131 b) (I2 136 j.toNatClampNeg)) (zPlace k (I2 132 a) (I2 132 b) (I2 136 j.toNatClampNeg)) (8 * (nI j.toNatClampNeg) + k)) κ = I2 κ := fun κ hκ => by rw [zSail_fr (by omega), zu_rne (by omega)]
  have hK0 : K 160 0 = (zHours ((zAim I (48 + i.toNatClampNeg) (nI j.toNatClampNeg) k) (48 + i.toNatClampNeg) 1) ((zAim I (48 + i.toNatClampNeg) (nI j.toNatClampNeg) k) (48 + i.toNatClampNeg) 2) ((zAim I (48 + i.toNatClampNeg) (nI j.toNatClampNeg) k) (48 + i.toNatClampNeg) 0) (zPlace k (I (16 + a) 0) (I (16 + b) 0) (I (32 + j.toNatClampNeg) 2)) (zPlace k (I (16 + a) 1) (I (16 + b) 1) (I (32 + j.toNatClampNeg) 2))).toInt64 := by rw [eK, zu_self]
  have hKf : ∀ κ, κ < 128 → K κ = L κ := fun κ hκ => by rw [eK, zu_rne (by omega)]
  have hj0 : 8 * j + k = 8 * (nI j.toNatClampNeg) + k := by rw [← (zlt_nat h2).1]
  rw [hj0] at r1
  exact ⟨ht, zREL_rv h', hT0, hK0, congrArg Int32.toInt64 (s2_send h' h1 h2 h3 h4 ea eb ha hb0).2, zLI_next hT r1 hTf hKf hh (Nat.le_add_right _ _), hT.2.1, hf⟩
theorem s3_home {n ni nc ns nt hrs : Nat} {ty : zTyp} {I : zIt} {L K : zLt} {P : zPt} (hT : (zcls ni nc ns nt ty P ∧ zref ty P ∧ ty 160 = some (9, 1) ∧ zFree ni nc ns nt ty)) (h : zREL ni nc ns nt hrs I L I L) (hh : hrs ≤ 500 * n) (hn5 : n < 512) {i j : Int32} (hoc : (zoH I ni ns i j) = 0) (h1 : zlt i ns) (h2 : zlt j ni) (h3 : I (48 + i.toNatClampNeg) 3 = 0) {I2 : zIt} (e1 : I2 = zSet (zAim I (48 + i.toNatClampNeg) (-1) (-1)) (48 + i.toNatClampNeg) (I (16 + j.toNatClampNeg) 0) (I (16 + j.toNatClampNeg) 1)) (eK : K = zu L 160 0 ((zHours ((zAim I (48 + i.toNatClampNeg) (-1) (-1)) (48 + i.toNatClampNeg) 1) ((zAim I (48 + i.toNatClampNeg) (-1) (-1)) (48 + i.toNatClampNeg) 2) ((zAim I (48 + i.toNatClampNeg) (-1) (-1)) (48 + i.toNatClampNeg) 0) (I (16 + j.toNatClampNeg) 0) (I (16 + j.toNatClampNeg) 1)).toInt64)) :
    ((if zlt i ns then (if zlt j ni then (if I2 143 i.toNatClampNeg = 0 then 0 else 2) else 1) else 1) = 0) ∧ (zRv ni nc ns nt I2) ∧ ((zSail (zu I2 128 0 0) i.toNatClampNeg (I2 131 j.toNatClampNeg) (I2 132 j.toNatClampNeg) (-1)) 128 0 = 0) ∧ (K 160 0 = (zHours ((zAim I (48 + i.toNatClampNeg) (-1) (-1)) (48 + i.toNatClampNeg) 1) ((zAim I (48 + i.toNatClampNeg) (-1) (-1)) (48 + i.toNatClampNeg) 2) ((zAim I (48 + i.toNatClampNeg) (-1) (-1)) (48 + i.toNatClampNeg) 0) (I (16 + j.toNatClampNeg) 0) (I (16 + j.toNatClampNeg) 1)).toInt64) ∧ ((zHours ((zAim I (48 + i.toNatClampNeg) (-1) (-1)) (48 + i.toNatClampNeg) 1) ((zAim I (48 + i.toNatClampNeg) (-1) (-1)) (48 + i.toNatClampNeg) 2) ((zAim I (48 + i.toNatClampNeg) (-1) (-1)) (48 + i.toNatClampNeg) 0) (I (16 + j.toNatClampNeg) 0) (I (16 + j.toNatClampNeg) 1)).toInt64 = (zRh (zu I2 128 0 0) i.toNatClampNeg (I2 131 j.toNatClampNeg) (I2 132 j.toNatClampNeg)).toInt64) ∧ (zLI (n + 1) ty (zSail (zu I2 128 0 0) i.toNatClampNeg (I2 131 j.toNatClampNeg) (I2 132 j.toNatClampNeg) (-1)) K P) ∧ (zref ty P) := by
  have hb : zRbd ni nc ns nt := zREL_bd h
  obtain ⟨hb1, hb2, hb3, hb4⟩ := id hb
  have hf : ∀ κ, 128 ≤ κ → I2 κ = I κ := fun κ hκ => by have := (zlt_nat h1).2; rw [e1]; exact zSet_fr (by omega)
  have hK : K 156 = L 156 := by rw [eK, zu_rne (by omega)]
  have h' := zREL_self h hf hK
  have r1 := (s2_home h' h1 h2 h3).1
  rw [← e1] at r1
  have ht : (if zlt i ns then (if zlt j ni then (if I2 143 i.toNatClampNeg = 0 then 0 else 2) else 1) else 1) = 0 := by
    rcases zt_home (fun q hq => (h'.2.2.2.2.2.2.1 q hq).1.2.2.2.1) i j with ⟨-, q, -⟩ | ⟨q, -⟩ | ⟨q, -⟩
    · exact q
    · exact absurd (q.symm.trans hoc) (by decide)
    · exact absurd (q.symm.trans hoc) (by decide)
  have hT0 : (zSail (zu I2 128 0 0) i.toNatClampNeg (I2 131 j.toNatClampNeg) (I2 132 j.toNatClampNeg) (-1)) 128 0 = 0 := by rw [zSail_cell (by omega), zu_self]
  have hTf : ∀ κ, κ < 128 → (zSail (zu I2 128 0 0) i.toNatClampNeg (I2 131 j.toNatClampNeg) (I2 132 j.toNatClampNeg) (-1)) κ = I2 κ := fun κ hκ => by rw [zSail_fr (by omega), zu_rne (by omega)]
  have hK0 : K 160 0 = (zHours ((zAim I (48 + i.toNatClampNeg) (-1) (-1)) (48 + i.toNatClampNeg) 1) ((zAim I (48 + i.toNatClampNeg) (-1) (-1)) (48 + i.toNatClampNeg) 2) ((zAim I (48 + i.toNatClampNeg) (-1) (-1)) (48 + i.toNatClampNeg) 0) (I (16 + j.toNatClampNeg) 0) (I (16 + j.toNatClampNeg) 1)).toInt64 := by rw [eK, zu_self]
  have hKf : ∀ κ, κ < 128 → K κ = L κ := fun κ hκ => by rw [eK, zu_rne (by omega)]
  exact ⟨ht, zREL_rv h', hT0, hK0, congrArg Int32.toInt64 (s2_home h' h1 h2 h3).2, zLI_next hT r1 hTf hKf hh (Nat.le_add_right _ _), hT.2.1⟩
theorem s3_trader {n ni nc ns nt hrs : Nat} {ty : zTyp} {I : zIt} {L K : zLt} {P : zPt} (hT : (zcls ni nc ns nt ty P ∧ zref ty P ∧ ty 160 = some (9, 1) ∧ zFree ni nc ns nt ty)) (h : zREL ni nc ns nt hrs I L I L) (hh : hrs ≤ 500 * n) (hn5 : n < 512) {i j k x y w : Int32} (hoc : (zsq (zo1 i ni) (zsq (zo1 j ni) (zsq (zoU i j) (zsq (zo2 k 1 5000) (zsq (zo2 x 0 9999) (zsq (zo2 y 0 9999) (zsq (zo2 w 0 1000000) (zo3 (nI nt) 12)))))))) = 0) (h1 : zlt i ni) (h2 : zlt j ni) (h3 : ¬ i = j) (h4 : zin k 1 5000) (h5 : zin x 0 9999) (h6 : zin y 0 9999) (h7 : zin w 0 1000000) (h8 : nt < 12) {I2 : zIt} (e1 : I2 = zu (zu (zu (zu (zu (zu (zu (zu (zu (zu (zu (zu (zu (zu (zs (zs (zs I (64 + nt) (fun _ => 0)) (80 + nt) (fun _ => 0)) (96 + nt) (fun _ => 0)) (80 + nt) 1 (-1)) (80 + nt) 2 (-1)) (80 + nt) 3 (-1)) (64 + nt) 8 0) (64 + nt) 9 0) (64 + nt) 10 0) (64 + nt) 0 (nI i.toNatClampNeg)) (64 + nt) 1 (nI j.toNatClampNeg)) (64 + nt) 2 k) (64 + nt) 3 x) (64 + nt) 4 y) (64 + nt) 5 w) 0 6 (nI (nt + 1))) 0 7 1) {L2 : zLt} (e2 : L2 = zu (zs (zs (zs L (64 + nt) (fun _ => 0)) (80 + nt) (fun _ => 0)) (96 + nt) (fun _ => 0)) (64 + nt) 7 0) {ty2 : zTyp} (e3 : ty2 = zs (zs (zs ty (64 + nt) (some (4, 0))) (80 + nt) (some (5, 0))) (96 + nt) (some (8, 9))) {P2 : zPt} (e4 : P2 = zu (zu (zu (zs (zs (zs P (64 + nt) (fun _ => none)) (80 + nt) (fun _ => none)) (96 + nt) (fun _ => none)) (80 + nt) 0 (some (96 + nt))) (64 + nt) 6 (some (80 + nt))) 5 nt (some (64 + nt))) (eK : K = zu L2 160 0 ((nI nt).toInt64)) :
    ((if zlt i ni then (if zlt j ni then (if i = j then 2 else if zin k 1 5000 then (if zin x 0 9999 then (if zin y 0 9999 then (if zin w 0 1000000 then (if nI nt = 12 then 3 else 0) else 2) else 2) else 2) else 2) else 1) else 1) = 0) ∧ (zRv ni nc ns nt I2) ∧ ((zu (zu (zu (zu (zu (zu (zu (zu I2 128 0 0) 150 nt i) 151 nt j) 152 nt k) 153 nt x) 154 nt y) 155 nt w) 128 21 (nI (nt + 1))) 128 0 = 0) ∧ (K 160 0 = (nI nt).toInt64) ∧ ((nI nt).toInt64 = (nI nt).toInt64) ∧ (zLI (n + 1) ty2 (zu (zu (zu (zu (zu (zu (zu (zu I2 128 0 0) 150 nt i) 151 nt j) 152 nt k) 153 nt x) 154 nt y) 155 nt w) 128 21 (nI (nt + 1))) K P2) ∧ (zref ty2 P2) := by
  have hb : zRbd ni nc ns nt := zREL_bd h
  obtain ⟨hb1, hb2, hb3, hb4⟩ := id hb
  have hf : ∀ κ, 128 ≤ κ → I2 κ = I κ := fun κ hκ => by
    funext j
    rw [e1]
    unfold zu; (try unfold zs); repeat (first | rw [if_pos (by omega)] | rw [if_neg (by omega)] | dsimp only | rfl)
  have hK : K 156 = L 156 := by
    funext j
    rw [eK, zu_rne (by omega), e2]
    (try unfold zu); (try unfold zs); repeat (first | rw [if_pos (by omega)] | rw [if_neg (by omega)] | dsimp only | rfl)
  have h' := zREL_self h hf hK
  have r1 := s2_trader h' h1 h2 h4 h5 h6 h7 h8
  rw [← e1, ← e2] at r1
  have ht : (if zlt i ni then (if zlt j ni then (if i = j then 2 else if zin k 1 5000 then (if zin x 0 9999 then (if zin y 0 9999 then (if zin w 0 1000000 then (if nI nt = 12 then 3 else 0) else 2) else 2) else 2) else 2) else 1) else 1) = 0 := by
    rcases zt_trader hb.2.2.2 i j k x y w with ⟨-, q, -⟩ | ⟨q, -⟩ | ⟨q, -⟩ | ⟨q, -⟩
    · exact q
    · exact absurd (q.symm.trans hoc) (by decide)
    · exact absurd (q.symm.trans hoc) (by decide)
    · exact absurd (q.symm.trans hoc) (by decide)
  have hT0 : (zu (zu (zu (zu (zu (zu (zu (zu I2 128 0 0) 150 nt i) 151 nt j) 152 nt k) 153 nt x) 154 nt y) 155 nt w) 128 21 (nI (nt + 1))) 128 0 = 0 := by
    unfold zu; (try unfold zs); repeat (first | rw [if_pos (by omega)] | rw [if_neg (by omega)] | dsimp only | rfl)
  have hTf : ∀ κ, κ < 128 → (zu (zu (zu (zu (zu (zu (zu (zu I2 128 0 0) 150 nt i) 151 nt j) 152 nt k) 153 nt x) 154 nt y) 155 nt w) 128 21 (nI (nt + 1))) κ = I2 κ := fun κ hκ => by
    funext j
    unfold zu; (try unfold zs); repeat (first | rw [if_pos (by omega)] | rw [if_neg (by omega)] | dsimp only | rfl)
  have hK0 : K 160 0 = (nI nt).toInt64 := by rw [eK, zu_self]
  have hKf : ∀ κ, κ < 128 → K κ = L2 κ := fun κ hκ => by rw [eK, zu_rne (by omega)]
  have hT2 := zT_trader hT h8 e3 e4
  exact ⟨ht, zREL_rv h', hT0, hK0, rfl, zLI_next hT2 r1 hTf hKf hh (Nat.le_add_right _ _), hT2.2.1⟩
theorem s3_pass {n ni nc ns nt hrs : Nat} {ty : zTyp} {I : zIt} {L K : zLt} {P : zPt} (hT : (zcls ni nc ns nt ty P ∧ zref ty P ∧ ty 160 = some (9, 1) ∧ zFree ni nc ns nt ty)) (h : zREL ni nc ns nt hrs I L I L) (hh : hrs ≤ 500 * n) (hn5 : n < 512) {x : Int32} (hoc : (zo2 x 1 500) = 0) (h1 : zin x 1 500) {I2 : zIt} (e1 : I2 = (zHrs nc ns nt (I, L) x.toNatClampNeg).1) {L2 : zLt} (e2 : L2 = (zHrs nc ns nt (I, L) x.toNatClampNeg).2) (eK : K = zu L2 160 0 (((zHrs nc ns nt (I, L) x.toNatClampNeg).1 0 8).toInt64)) :
    ((if zin x 1 500 then 0 else 1) = 0) ∧ (zRv ni nc ns nt I2) ∧ ((zRhrs ni nc ns nt ((zu I2 128 0 0), K) x.toNatClampNeg).1 128 0 = 0) ∧ ((zRhrs ni nc ns nt ((zu I2 128 0 0), K) x.toNatClampNeg).2 160 0 = ((zHrs nc ns nt (I, L) x.toNatClampNeg).1 0 8).toInt64) ∧ (((zHrs nc ns nt (I, L) x.toNatClampNeg).1 0 8).toInt64 = ((zRhrs ni nc ns nt ((zu I2 128 0 0), K) x.toNatClampNeg).1 128 1).toInt64) ∧ (zLI (n + 1) ty ((zRhrs ni nc ns nt ((zu I2 128 0 0), K) x.toNatClampNeg).1) ((zRhrs ni nc ns nt ((zu I2 128 0 0), K) x.toNatClampNeg).2) P) ∧ (zref ty P) := by
  have hb : zRbd ni nc ns nt := zREL_bd h
  obtain ⟨hb1, hb2, hb3, hb4⟩ := id hb
  have hf : ∀ κ, 128 ≤ κ → I2 κ = I κ := fun κ hκ => by rw [e1]; exact (zHrs_fr h (by omega) _ (by have := (s2_pass h h1 (by omega)).1; omega)).1
  have hK : K 156 = L 156 := by rw [eK, zu_rne (by omega), e2]; exact (zHrs_fr h (by omega) _ (by have := (s2_pass h h1 (by omega)).1; omega)).2
  have h' := zREL_self h hf hK
  have r1 := (s2_pass h' h1 (by omega)).2.1
  rw [← e1, ← e2] at r1
  have ht : (if zin x 1 500 then 0 else 1) = 0 := by
    rcases zt_pass x with ⟨-, q, -⟩ | ⟨q, -⟩
    · exact q
    · exact absurd (q.symm.trans hoc) (by decide)
  have hT0 : (zRhrs ni nc ns nt ((zu I2 128 0 0), K) x.toNatClampNeg).1 128 0 = 0 := by rw [zRhrs_more.1, zu_self]
  have hTf : ∀ κ, κ < 128 → (zRhrs ni nc ns nt ((zu I2 128 0 0), K) x.toNatClampNeg).1 κ = I2 κ := fun κ hκ => by rw [(zRhrs_fr _ _).1 κ hκ]; exact zu_rne (by omega)
  have hK0 : (zRhrs ni nc ns nt ((zu I2 128 0 0), K) x.toNatClampNeg).2 160 0 = ((zHrs nc ns nt (I, L) x.toNatClampNeg).1 0 8).toInt64 := by rw [zRhrs_more.2 160 (by omega) (by omega), eK, zu_self]
  have hKf : ∀ κ, κ < 128 → (zRhrs ni nc ns nt ((zu I2 128 0 0), K) x.toNatClampNeg).2 κ = L2 κ := fun κ hκ => by rw [(zRhrs_fr _ _).2 κ hκ]; dsimp only; rw [eK, zu_rne (by omega)]
  exact ⟨ht, zREL_rv h', hT0, hK0, congrArg Int32.toInt64 (s2_pass h' h1 (by omega)).2.2, zLI_next hT r1 hTf hKf hh (by have := (s2_pass h' h1 (by omega)).1; omega), hT.2.1⟩
theorem s3_works {n ni nc ns nt hrs : Nat} {ty : zTyp} {I : zIt} {L K : zLt} {P : zPt} (hT : (zcls ni nc ns nt ty P ∧ zref ty P ∧ ty 160 = some (9, 1) ∧ zFree ni nc ns nt ty)) (h : zREL ni nc ns nt hrs I L I L) (hh : hrs ≤ 500 * n) (hn5 : n < 512) {i : Int32} (hoc : (zo1 i nc) = 0) (h1 : zlt i nc) (eK : K = zu L 160 0 (if (zb (I (32 + i.toNatClampNeg) 5 = 0)) = 0 then 0 else 1 : Int64)) :
    ((if zlt i nc then 0 else 1) = 0) ∧ (zRv ni nc ns nt I) ∧ ((zu I 128 0 0) 128 0 = 0) ∧ (K 160 0 = (if (zb (I (32 + i.toNatClampNeg) 5 = 0)) = 0 then 0 else 1 : Int64)) ∧ ((if (zb (I (32 + i.toNatClampNeg) 5 = 0)) = 0 then 0 else 1 : Int64) = (if (zb (zDwb (zu I 128 0 0) (nI i.toNatClampNeg) = true)) = 0 then 0 else 1 : Int64)) ∧ (zLI (n + 1) ty (zu I 128 0 0) K P) ∧ (zref ty P) := by
  have hb : zRbd ni nc ns nt := zREL_bd h
  obtain ⟨hb1, hb2, hb3, hb4⟩ := id hb
  have hf : ∀ κ, 128 ≤ κ → I κ = I κ := fun _ _ => rfl
  have hK : K 156 = L 156 := by rw [eK, zu_rne (by omega)]
  have h' := zREL_self h hf hK
  have r1 := zREL_ask0 0 h'
  have ht : (if zlt i nc then 0 else 1) = 0 := by
    rcases zt_1 i with ⟨-, q, -⟩ | ⟨q, -⟩
    · exact q
    · exact absurd (q.symm.trans hoc) (by decide)
  have hT0 : (zu I 128 0 0) 128 0 = 0 := by
    unfold zu; (try unfold zs); repeat (first | rw [if_pos (by omega)] | rw [if_neg (by omega)] | dsimp only | rfl)
  have hTf : ∀ κ, κ < 128 → (zu I 128 0 0) κ = I κ := fun κ hκ => by
    funext j
    unfold zu; (try unfold zs); repeat (first | rw [if_pos (by omega)] | rw [if_neg (by omega)] | dsimp only | rfl)
  have hK0 : K 160 0 = (if (zb (I (32 + i.toNatClampNeg) 5 = 0)) = 0 then 0 else 1 : Int64) := by rw [eK, zu_self]
  have hKf : ∀ κ, κ < 128 → K κ = L κ := fun κ hκ => by rw [eK, zu_rne (by omega)]
  exact ⟨ht, zREL_rv h', hT0, hK0, by rw [s2_works (J := I) h h1], zLI_next hT r1 hTf hKf hh (Nat.le_add_right _ _), hT.2.1⟩
theorem s3_faultAt {n ni nc ns nt hrs : Nat} {ty : zTyp} {I : zIt} {L K : zLt} {P : zPt} (hT : (zcls ni nc ns nt ty P ∧ zref ty P ∧ ty 160 = some (9, 1) ∧ zFree ni nc ns nt ty)) (h : zREL ni nc ns nt hrs I L I L) (hh : hrs ≤ 500 * n) (hn5 : n < 512) {x : Int32} (hoc : (if x < 0 then 1 else 0) = 0) (h1 : ¬ x < 0) (eK : K = zu L 160 0 ((if x.toNatClampNeg < zNf I then I 6 x.toNatClampNeg else -1).toInt64)) :
    ((if x < 0 then 1 else 0) = 0) ∧ (zRv ni nc ns nt I) ∧ ((zu I 128 0 0) 128 0 = 0) ∧ (K 160 0 = (if x.toNatClampNeg < zNf I then I 6 x.toNatClampNeg else -1).toInt64) ∧ ((if x.toNatClampNeg < zNf I then I 6 x.toNatClampNeg else -1).toInt64 = (if x.toNatClampNeg < zRn I then I 140 x.toNatClampNeg else -1).toInt64) ∧ (zLI (n + 1) ty (zu I 128 0 0) K P) ∧ (zref ty P) := by
  have hb : zRbd ni nc ns nt := zREL_bd h
  obtain ⟨hb1, hb2, hb3, hb4⟩ := id hb
  have hf : ∀ κ, 128 ≤ κ → I κ = I κ := fun _ _ => rfl
  have hK : K 156 = L 156 := by rw [eK, zu_rne (by omega)]
  have h' := zREL_self h hf hK
  have r1 := zREL_ask0 0 h'
  have ht : (if x < 0 then 1 else 0) = 0 := by
    rcases zt_neg x with ⟨-, q, -⟩ | ⟨q, -⟩
    · exact q
    · exact absurd (q.symm.trans hoc) (by decide)
  have hT0 : (zu I 128 0 0) 128 0 = 0 := by
    unfold zu; (try unfold zs); repeat (first | rw [if_pos (by omega)] | rw [if_neg (by omega)] | dsimp only | rfl)
  have hTf : ∀ κ, κ < 128 → (zu I 128 0 0) κ = I κ := fun κ hκ => by
    funext j
    unfold zu; (try unfold zs); repeat (first | rw [if_pos (by omega)] | rw [if_neg (by omega)] | dsimp only | rfl)
  have hK0 : K 160 0 = (if x.toNatClampNeg < zNf I then I 6 x.toNatClampNeg else -1).toInt64 := by rw [eK, zu_self]
  have hKf : ∀ κ, κ < 128 → K κ = L κ := fun κ hκ => by rw [eK, zu_rne (by omega)]
  exact ⟨ht, zREL_rv h', hT0, hK0, congrArg Int32.toInt64 (s2_faultAt h), zLI_next hT r1 hTf hKf hh (Nat.le_add_right _ _), hT.2.1⟩
theorem s3_shipOf {n ni nc ns nt hrs : Nat} {ty : zTyp} {I : zIt} {L K : zLt} {P : zPt} (hT : (zcls ni nc ns nt ty P ∧ zref ty P ∧ ty 160 = some (9, 1) ∧ zFree ni nc ns nt ty)) (h : zREL ni nc ns nt hrs I L I L) (hh : hrs ≤ 500 * n) (hn5 : n < 512) {i x : Int32} (hoc : (zsq (zo1 i ns) (zo2 x 0 4)) = 0) (h1 : zlt i ns) (h2 : zin x 0 4) (eK : K = zu L 160 0 ((if x = 0 then I (48 + i.toNatClampNeg) 3 else if x = 1 then I (48 + i.toNatClampNeg) 1 else if x = 2 then I (48 + i.toNatClampNeg) 2 else if x = 3 then I (48 + i.toNatClampNeg) 4 else I (48 + i.toNatClampNeg) 7).toInt64)) :
    ((if zlt i ns then (if zin x 0 4 then 0 else 2) else 1) = 0) ∧ (zRv ni nc ns nt I) ∧ ((zu I 128 0 0) 128 0 = 0) ∧ (K 160 0 = (if x = 0 then I (48 + i.toNatClampNeg) 3 else if x = 1 then I (48 + i.toNatClampNeg) 1 else if x = 2 then I (48 + i.toNatClampNeg) 2 else if x = 3 then I (48 + i.toNatClampNeg) 4 else I (48 + i.toNatClampNeg) 7).toInt64) ∧ ((if x = 0 then I (48 + i.toNatClampNeg) 3 else if x = 1 then I (48 + i.toNatClampNeg) 1 else if x = 2 then I (48 + i.toNatClampNeg) 2 else if x = 3 then I (48 + i.toNatClampNeg) 4 else I (48 + i.toNatClampNeg) 7).toInt64 = (if x = 0 then I 143 i.toNatClampNeg else if x = 1 then I 144 i.toNatClampNeg else if x = 2 then I 145 i.toNatClampNeg else if x = 3 then I 146 i.toNatClampNeg else I 148 i.toNatClampNeg).toInt64) ∧ (zLI (n + 1) ty (zu I 128 0 0) K P) ∧ (zref ty P) := by
  have hb : zRbd ni nc ns nt := zREL_bd h
  obtain ⟨hb1, hb2, hb3, hb4⟩ := id hb
  have hf : ∀ κ, 128 ≤ κ → I κ = I κ := fun _ _ => rfl
  have hK : K 156 = L 156 := by rw [eK, zu_rne (by omega)]
  have h' := zREL_self h hf hK
  have r1 := zREL_ask0 0 h'
  have ht : (if zlt i ns then (if zin x 0 4 then 0 else 2) else 1) = 0 := by
    rcases zt_12 i x with ⟨-, q, -⟩ | ⟨q, -⟩ | ⟨q, -⟩
    · exact q
    · exact absurd (q.symm.trans hoc) (by decide)
    · exact absurd (q.symm.trans hoc) (by decide)
  have hT0 : (zu I 128 0 0) 128 0 = 0 := by
    unfold zu; (try unfold zs); repeat (first | rw [if_pos (by omega)] | rw [if_neg (by omega)] | dsimp only | rfl)
  have hTf : ∀ κ, κ < 128 → (zu I 128 0 0) κ = I κ := fun κ hκ => by
    funext j
    unfold zu; (try unfold zs); repeat (first | rw [if_pos (by omega)] | rw [if_neg (by omega)] | dsimp only | rfl)
  have hK0 : K 160 0 = (if x = 0 then I (48 + i.toNatClampNeg) 3 else if x = 1 then I (48 + i.toNatClampNeg) 1 else if x = 2 then I (48 + i.toNatClampNeg) 2 else if x = 3 then I (48 + i.toNatClampNeg) 4 else I (48 + i.toNatClampNeg) 7).toInt64 := by rw [eK, zu_self]
  have hKf : ∀ κ, κ < 128 → K κ = L κ := fun κ hκ => by rw [eK, zu_rne (by omega)]
  exact ⟨ht, zREL_rv h', hT0, hK0, congrArg Int32.toInt64 (s2_shipOf h h1), zLI_next hT r1 hTf hKf hh (Nat.le_add_right _ _), hT.2.1⟩
theorem s3_way {n ni nc ns nt hrs : Nat} {ty : zTyp} {I : zIt} {L K : zLt} {P : zPt} (hT : (zcls ni nc ns nt ty P ∧ zref ty P ∧ ty 160 = some (9, 1) ∧ zFree ni nc ns nt ty)) (h : zREL ni nc ns nt hrs I L I L) (hh : hrs ≤ 500 * n) (hn5 : n < 512) {i x : Int32} (hoc : (zsq (zo1 i nt) (if x < 0 then 1 else 0)) = 0) (h1 : zlt i nt) (h2 : ¬ x < 0) {I2 : zIt} (e1 : I2 = (zStale nc nt (I, L)).1) {L2 : zLt} (e2 : L2 = (zStale nc nt (I, L)).2) (eK : K = zu L2 160 0 ((if x < (zStale nc nt (I, L)).1 (80 + i.toNatClampNeg) 1 then (zStale nc nt (I, L)).1 (96 + i.toNatClampNeg) x.toNatClampNeg else -1).toInt64)) :
    ((if zlt i nt then (if x < 0 then 1 else 0) else 1) = 0) ∧ (zRv ni nc ns nt I2) ∧ ((zs (zu I2 128 0 0) 158 (zGoes (zu I2 128 0 0) nc)) 128 0 = 0) ∧ ((zs K 157 (zFar (zu I2 128 0 0) (K 157) ni nc (I2 151 i.toNatClampNeg))) 160 0 = (if x < (zStale nc nt (I, L)).1 (80 + i.toNatClampNeg) 1 then (zStale nc nt (I, L)).1 (96 + i.toNatClampNeg) x.toNatClampNeg else -1).toInt64) ∧ ((if x < (zStale nc nt (I, L)).1 (80 + i.toNatClampNeg) 1 then (zStale nc nt (I, L)).1 (96 + i.toNatClampNeg) x.toNatClampNeg else -1).toInt64 = (zoi (zRw (zs (zu I2 128 0 0) 158 (zGoes (zu I2 128 0 0) nc)) (zGoes (zu I2 128 0 0) nc) (zFar (zu I2 128 0 0) (K 157) ni nc (I2 151 i.toNatClampNeg)) nc (I2 150 i.toNatClampNeg).toNatClampNeg x.toNatClampNeg).2).toInt64) ∧ (zLI (n + 1) ty (zs (zu I2 128 0 0) 158 (zGoes (zu I2 128 0 0) nc)) (zs K 157 (zFar (zu I2 128 0 0) (K 157) ni nc (I2 151 i.toNatClampNeg))) P) ∧ (zref ty P) := by
  have hb : zRbd ni nc ns nt := zREL_bd h
  obtain ⟨hb1, hb2, hb3, hb4⟩ := id hb
  have hf : ∀ κ, 128 ≤ κ → I2 κ = I κ := fun κ hκ => by rw [e1]; exact zStale_I hb4 (by omega)
  have hK : K 156 = L 156 := by rw [eK, zu_rne (by omega), e2]; exact zStale_L (by omega)
  have h' := zREL_self h hf hK
  have r0 := (zREL_stale h').1
  rw [← e1, ← e2] at r0
  have r1 : zREL ni nc ns nt hrs I2 L2 (zs (zu I2 128 0 0) 158 (zGoes (zu I2 128 0 0) nc)) (zs K 157 (zFar (zu I2 128 0 0) (K 157) ni nc (I2 151 i.toNatClampNeg))) := zREL_ask1 _ _ r0
  have ht : (if zlt i nt then (if x < 0 then 1 else 0) else 1) = 0 := by
    rcases zt_way i x with ⟨-, q, -⟩ | ⟨q, -⟩
    · exact q
    · exact absurd (q.symm.trans hoc) (by decide)
  have hT0 : (zs (zu I2 128 0 0) 158 (zGoes (zu I2 128 0 0) nc)) 128 0 = 0 := by
    unfold zu; (try unfold zs); repeat (first | rw [if_pos (by omega)] | rw [if_neg (by omega)] | dsimp only | rfl)
  have hTf : ∀ κ, κ < 128 → (zs (zu I2 128 0 0) 158 (zGoes (zu I2 128 0 0) nc)) κ = I2 κ := fun κ hκ => by
    funext j
    unfold zu; (try unfold zs); repeat (first | rw [if_pos (by omega)] | rw [if_neg (by omega)] | dsimp only | rfl)
  have hK0 : (zs K 157 (zFar (zu I2 128 0 0) (K 157) ni nc (I2 151 i.toNatClampNeg))) 160 0 = (if x < (zStale nc nt (I, L)).1 (80 + i.toNatClampNeg) 1 then (zStale nc nt (I, L)).1 (96 + i.toNatClampNeg) x.toNatClampNeg else -1).toInt64 := by rw [zs_ne _ _ (by omega), eK, zu_self]
  have hKf : ∀ κ, κ < 128 → (zs K 157 (zFar (zu I2 128 0 0) (K 157) ni nc (I2 151 i.toNatClampNeg))) κ = L2 κ := fun κ hκ => by rw [zs_ne _ _ (by omega), eK, zu_rne (by omega)]
  exact ⟨ht, zREL_rv h', hT0, hK0, congrArg Int32.toInt64 (s2_way h' h1 h2), zLI_next hT r1 hTf hKf hh (Nat.le_add_right _ _), hT.2.1⟩
theorem s3_sum {n ni nc ns nt hrs : Nat} {ty : zTyp} {I : zIt} {L K : zLt} {P : zPt} (hT : (zcls ni nc ns nt ty P ∧ zref ty P ∧ ty 160 = some (9, 1) ∧ zFree ni nc ns nt ty)) (h : zREL ni nc ns nt hrs I L I L) (hh : hrs ≤ 500 * n) (hn5 : n < 512) {i x : Int32} (hoc : (zsq (zo1 i nt) (zo2 x 0 2)) = 0) (h1 : zlt i nt) (h2 : zin x 0 2) {I2 : zIt} (e1 : I2 = (zStale nc nt (I, L)).1) {L2 : zLt} (e2 : L2 = (zStale nc nt (I, L)).2) (eK : K = zu L2 160 0 ((if x = 0 then (zStale nc nt (I, L)).1 (80 + i.toNatClampNeg) 2 else if x = 1 then (zStale nc nt (I, L)).1 (80 + i.toNatClampNeg) 3 else (zStale nc nt (I, L)).1 (80 + i.toNatClampNeg) 1).toInt64)) :
    ((if zlt i nt then (if zin x 0 2 then 0 else 2) else 1) = 0) ∧ (zRv ni nc ns nt I2) ∧ ((zs (zu I2 128 0 0) 158 (zGoes (zu I2 128 0 0) nc)) 128 0 = 0) ∧ ((zs K 157 (zFar (zu I2 128 0 0) (K 157) ni nc (I2 151 i.toNatClampNeg))) 160 0 = (if x = 0 then (zStale nc nt (I, L)).1 (80 + i.toNatClampNeg) 2 else if x = 1 then (zStale nc nt (I, L)).1 (80 + i.toNatClampNeg) 3 else (zStale nc nt (I, L)).1 (80 + i.toNatClampNeg) 1).toInt64) ∧ ((if x = 0 then (zStale nc nt (I, L)).1 (80 + i.toNatClampNeg) 2 else if x = 1 then (zStale nc nt (I, L)).1 (80 + i.toNatClampNeg) 3 else (zStale nc nt (I, L)).1 (80 + i.toNatClampNeg) 1).toInt64 = (if lg_cmp ((zFar (zu I2 128 0 0) (K 157) ni nc (I2 151 i.toNatClampNeg)) (I2 150 i.toNatClampNeg).toNatClampNeg) zFAR < 0 then (if x = 0 then (((zFar (zu I2 128 0 0) (K 157) ni nc (I2 151 i.toNatClampNeg)) (I2 150 i.toNatClampNeg).toNatClampNeg) / 1000000).toInt32 else if x = 1 then ((((zFar (zu I2 128 0 0) (K 157) ni nc (I2 151 i.toNatClampNeg)) (I2 150 i.toNatClampNeg).toNatClampNeg) - ((zFar (zu I2 128 0 0) (K 157) ni nc (I2 151 i.toNatClampNeg)) (I2 150 i.toNatClampNeg).toNatClampNeg) / 1000000 * 1000000) / 100).toInt32 else (((zFar (zu I2 128 0 0) (K 157) ni nc (I2 151 i.toNatClampNeg)) (I2 150 i.toNatClampNeg).toNatClampNeg) - ((zFar (zu I2 128 0 0) (K 157) ni nc (I2 151 i.toNatClampNeg)) (I2 150 i.toNatClampNeg).toNatClampNeg) / 100 * 100).toInt32) else -1).toInt64) ∧ (zLI (n + 1) ty (zs (zu I2 128 0 0) 158 (zGoes (zu I2 128 0 0) nc)) (zs K 157 (zFar (zu I2 128 0 0) (K 157) ni nc (I2 151 i.toNatClampNeg))) P) ∧ (zref ty P) := by
  have hb : zRbd ni nc ns nt := zREL_bd h
  obtain ⟨hb1, hb2, hb3, hb4⟩ := id hb
  have hf : ∀ κ, 128 ≤ κ → I2 κ = I κ := fun κ hκ => by rw [e1]; exact zStale_I hb4 (by omega)
  have hK : K 156 = L 156 := by rw [eK, zu_rne (by omega), e2]; exact zStale_L (by omega)
  have h' := zREL_self h hf hK
  have r0 := (zREL_stale h').1
  rw [← e1, ← e2] at r0
  have r1 : zREL ni nc ns nt hrs I2 L2 (zs (zu I2 128 0 0) 158 (zGoes (zu I2 128 0 0) nc)) (zs K 157 (zFar (zu I2 128 0 0) (K 157) ni nc (I2 151 i.toNatClampNeg))) := zREL_ask1 _ _ r0
  have ht : (if zlt i nt then (if zin x 0 2 then 0 else 2) else 1) = 0 := by
    rcases zt_12 i x with ⟨-, q, -⟩ | ⟨q, -⟩ | ⟨q, -⟩
    · exact q
    · exact absurd (q.symm.trans hoc) (by decide)
    · exact absurd (q.symm.trans hoc) (by decide)
  have hT0 : (zs (zu I2 128 0 0) 158 (zGoes (zu I2 128 0 0) nc)) 128 0 = 0 := by
    unfold zu; (try unfold zs); repeat (first | rw [if_pos (by omega)] | rw [if_neg (by omega)] | dsimp only | rfl)
  have hTf : ∀ κ, κ < 128 → (zs (zu I2 128 0 0) 158 (zGoes (zu I2 128 0 0) nc)) κ = I2 κ := fun κ hκ => by
    funext j
    unfold zu; (try unfold zs); repeat (first | rw [if_pos (by omega)] | rw [if_neg (by omega)] | dsimp only | rfl)
  have hK0 : (zs K 157 (zFar (zu I2 128 0 0) (K 157) ni nc (I2 151 i.toNatClampNeg))) 160 0 = (if x = 0 then (zStale nc nt (I, L)).1 (80 + i.toNatClampNeg) 2 else if x = 1 then (zStale nc nt (I, L)).1 (80 + i.toNatClampNeg) 3 else (zStale nc nt (I, L)).1 (80 + i.toNatClampNeg) 1).toInt64 := by rw [zs_ne _ _ (by omega), eK, zu_self]
  have hKf : ∀ κ, κ < 128 → (zs K 157 (zFar (zu I2 128 0 0) (K 157) ni nc (I2 151 i.toNatClampNeg))) κ = L2 κ := fun κ hκ => by rw [zs_ne _ _ (by omega), eK, zu_rne (by omega)]
  exact ⟨ht, zREL_rv h', hT0, hK0, congrArg Int32.toInt64 (s2_sum h' h1), zLI_next hT r1 hTf hKf hh (Nat.le_add_right _ _), hT.2.1⟩
theorem s3_sumAnew {n ni nc ns nt hrs : Nat} {ty : zTyp} {I : zIt} {L K : zLt} {P : zPt} (hT : (zcls ni nc ns nt ty P ∧ zref ty P ∧ ty 160 = some (9, 1) ∧ zFree ni nc ns nt ty)) (h : zREL ni nc ns nt hrs I L I L) (hh : hrs ≤ 500 * n) (hn5 : n < 512) {i : Int32} (hoc : (zo1 i nt) = 0) (h1 : zlt i nt) {u v : Nat} (eu : I (64 + i.toNatClampNeg) 0 = nI u) (ev : I (64 + i.toNatClampNeg) 1 = nI v) (hu : u < ni) (hv : v < ni) {I2 : zIt} (e1 : I2 = zs I 8 (zPrr I nc (zS0 (I 8) u) 9)) (eK : K = zu L 160 0 ((zPrr I nc (zS0 (I 8) u) 9 v).toInt64)) :
    ((if zlt i nt then 0 else 1) = 0) ∧ (zRv ni nc ns nt I2) ∧ ((zs (zu I2 128 0 0) 158 (zGoes (zu I2 128 0 0) nc)) 128 0 = 0) ∧ ((zs K 157 (zFar (zu I2 128 0 0) (K 157) ni nc (I2 151 i.toNatClampNeg))) 160 0 = (zPrr I nc (zS0 (I 8) u) 9 v).toInt64) ∧ ((zPrr I nc (zS0 (I 8) u) 9 v).toInt64 = (if lg_cmp ((zFar (zu I2 128 0 0) (K 157) ni nc (I2 151 i.toNatClampNeg)) (I2 150 i.toNatClampNeg).toNatClampNeg) zFAR < 0 then (((zFar (zu I2 128 0 0) (K 157) ni nc (I2 151 i.toNatClampNeg)) (I2 150 i.toNatClampNeg).toNatClampNeg) / 1000000).toInt32 else -1).toInt64) ∧ (zLI (n + 1) ty (zs (zu I2 128 0 0) 158 (zGoes (zu I2 128 0 0) nc)) (zs K 157 (zFar (zu I2 128 0 0) (K 157) ni nc (I2 151 i.toNatClampNeg))) P) ∧ (zref ty P) := by
  have hb : zRbd ni nc ns nt := zREL_bd h
  obtain ⟨hb1, hb2, hb3, hb4⟩ := id hb
  have hf : ∀ κ, 128 ≤ κ → I2 κ = I κ := fun κ hκ => by rw [e1, zs_ne _ _ (by omega)]
  have hK : K 156 = L 156 := by rw [eK, zu_rne (by omega)]
  have h' := zREL_self h hf hK
  have r0 := zREL_c (I' := I2) (L' := L) (J' := I2) (K' := K) (fun κ hκ h8 => by rw [e1, zs_ne _ _ h8]) (fun _ _ => rfl) (fun _ _ _ => rfl) (fun _ _ => rfl) rfl h'
  have r1 : zREL ni nc ns nt hrs I2 L (zs (zu I2 128 0 0) 158 (zGoes (zu I2 128 0 0) nc)) (zs K 157 (zFar (zu I2 128 0 0) (K 157) ni nc (I2 151 i.toNatClampNeg))) := zREL_ask1 _ _ r0
  have ht : (if zlt i nt then 0 else 1) = 0 := by
    rcases zt_1 i with ⟨-, q, -⟩ | ⟨q, -⟩
    · exact q
    · exact absurd (q.symm.trans hoc) (by decide)
  have hT0 : (zs (zu I2 128 0 0) 158 (zGoes (zu I2 128 0 0) nc)) 128 0 = 0 := by
    unfold zu; (try unfold zs); repeat (first | rw [if_pos (by omega)] | rw [if_neg (by omega)] | dsimp only | rfl)
  have hTf : ∀ κ, κ < 128 → (zs (zu I2 128 0 0) 158 (zGoes (zu I2 128 0 0) nc)) κ = I2 κ := fun κ hκ => by
    funext j
    unfold zu; (try unfold zs); repeat (first | rw [if_pos (by omega)] | rw [if_neg (by omega)] | dsimp only | rfl)
  have hK0 : (zs K 157 (zFar (zu I2 128 0 0) (K 157) ni nc (I2 151 i.toNatClampNeg))) 160 0 = (zPrr I nc (zS0 (I 8) u) 9 v).toInt64 := by rw [zs_ne _ _ (by omega), eK, zu_self]
  have hKf : ∀ κ, κ < 128 → (zs K 157 (zFar (zu I2 128 0 0) (K 157) ni nc (I2 151 i.toNatClampNeg))) κ = L κ := fun κ hκ => by rw [zs_ne _ _ (by omega), eK, zu_rne (by omega)]
  exact ⟨ht, zREL_rv h', hT0, hK0, congrArg Int32.toInt64 (s2_sumAnew h' (zlt_nat h1).2 eu ev hu hv _), zLI_next hT r1 hTf hKf hh (Nat.le_add_right _ _), hT.2.1⟩
theorem s3_account {n ni nc ns nt hrs : Nat} {ty : zTyp} {I : zIt} {L K : zLt} {P : zPt} (hT : (zcls ni nc ns nt ty P ∧ zref ty P ∧ ty 160 = some (9, 1) ∧ zFree ni nc ns nt ty)) (h : zREL ni nc ns nt hrs I L I L) (hh : hrs ≤ 500 * n) (hn5 : n < 512) {i x : Int32} (hoc : (zsq (zo1 i nt) (zo2 x 0 3)) = 0) (h1 : zlt i nt) (h2 : zin x 0 3) (eK : K = zu L 160 0 (if x = 0 then L (64 + i.toNatClampNeg) 7 else if x = 1 then (I (64 + i.toNatClampNeg) 8).toInt64 else if x = 2 then (I (64 + i.toNatClampNeg) 9).toInt64 else (I (64 + i.toNatClampNeg) 10).toInt64)) :
    ((if zlt i nt then (if zin x 0 3 then 0 else 2) else 1) = 0) ∧ (zRv ni nc ns nt I) ∧ ((zu I 128 0 0) 128 0 = 0) ∧ (K 160 0 = (if x = 0 then L (64 + i.toNatClampNeg) 7 else if x = 1 then (I (64 + i.toNatClampNeg) 8).toInt64 else if x = 2 then (I (64 + i.toNatClampNeg) 9).toInt64 else (I (64 + i.toNatClampNeg) 10).toInt64)) ∧ ((if x = 0 then L (64 + i.toNatClampNeg) 7 else if x = 1 then (I (64 + i.toNatClampNeg) 8).toInt64 else if x = 2 then (I (64 + i.toNatClampNeg) 9).toInt64 else (I (64 + i.toNatClampNeg) 10).toInt64) = K 156 (4 * i.toNatClampNeg + x.toNatClampNeg)) ∧ (zLI (n + 1) ty (zu I 128 0 0) K P) ∧ (zref ty P) := by
  have hb : zRbd ni nc ns nt := zREL_bd h
  obtain ⟨hb1, hb2, hb3, hb4⟩ := id hb
  have hf : ∀ κ, 128 ≤ κ → I κ = I κ := fun _ _ => rfl
  have hK : K 156 = L 156 := by rw [eK, zu_rne (by omega)]
  have h' := zREL_self h hf hK
  have r1 := zREL_ask0 0 h'
  have ht : (if zlt i nt then (if zin x 0 3 then 0 else 2) else 1) = 0 := by
    rcases zt_12 i x with ⟨-, q, -⟩ | ⟨q, -⟩ | ⟨q, -⟩
    · exact q
    · exact absurd (q.symm.trans hoc) (by decide)
    · exact absurd (q.symm.trans hoc) (by decide)
  have hT0 : (zu I 128 0 0) 128 0 = 0 := by
    unfold zu; (try unfold zs); repeat (first | rw [if_pos (by omega)] | rw [if_neg (by omega)] | dsimp only | rfl)
  have hTf : ∀ κ, κ < 128 → (zu I 128 0 0) κ = I κ := fun κ hκ => by
    funext j
    unfold zu; (try unfold zs); repeat (first | rw [if_pos (by omega)] | rw [if_neg (by omega)] | dsimp only | rfl)
  have hK0 : K 160 0 = (if x = 0 then L (64 + i.toNatClampNeg) 7 else if x = 1 then (I (64 + i.toNatClampNeg) 8).toInt64 else if x = 2 then (I (64 + i.toNatClampNeg) 9).toInt64 else (I (64 + i.toNatClampNeg) 10).toInt64) := by rw [eK, zu_self]
  have hKf : ∀ κ, κ < 128 → K κ = L κ := fun κ hκ => by rw [eK, zu_rne (by omega)]
  exact ⟨ht, zREL_rv h', hT0, hK0, by rw [eK, zu_rne (by omega)]; exact s2_account h h1 h2 (by omega), zLI_next hT r1 hTf hKf hh (Nat.le_add_right _ _), hT.2.1⟩
theorem s3_reach {n ni nc ns nt hrs : Nat} {ty : zTyp} {I : zIt} {L K : zLt} {P : zPt} (hT : (zcls ni nc ns nt ty P ∧ zref ty P ∧ ty 160 = some (9, 1) ∧ zFree ni nc ns nt ty)) (h : zREL ni nc ns nt hrs I L I L) (hh : hrs ≤ 500 * n) (hn5 : n < 512) {i : Int32} (hoc : (zo1 i ni) = 0) (h1 : zlt i ni) (eK : K = zu L 160 0 ((zRer I nc (1 <<< (nI i.toNatClampNeg &&& 31)) 9).toInt64)) :
    ((if zlt i ni then 0 else 1) = 0) ∧ (zRv ni nc ns nt I) ∧ ((zs (zu I 128 0 0) 158 (zGoes (zu I 128 0 0) nc)) 128 0 = 0) ∧ ((zs K 157 (zFar (zu I 128 0 0) (K 157) ni nc (nI i.toNatClampNeg))) 160 0 = (zRer I nc (1 <<< (nI i.toNatClampNeg &&& 31)) 9).toInt64) ∧ ((zRer I nc (1 <<< (nI i.toNatClampNeg &&& 31)) 9).toInt64 = (zRch (zFar (zu I 128 0 0) (K 157) ni nc (nI i.toNatClampNeg)) ni).toInt64) ∧ (zLI (n + 1) ty (zs (zu I 128 0 0) 158 (zGoes (zu I 128 0 0) nc)) (zs K 157 (zFar (zu I 128 0 0) (K 157) ni nc (nI i.toNatClampNeg))) P) ∧ (zref ty P) := by
  have hb : zRbd ni nc ns nt := zREL_bd h
  obtain ⟨hb1, hb2, hb3, hb4⟩ := id hb
  have hf : ∀ κ, 128 ≤ κ → I κ = I κ := fun _ _ => rfl
  have hK : K 156 = L 156 := by rw [eK, zu_rne (by omega)]
  have h' := zREL_self h hf hK
  have r0 := h'
  have r1 : zREL ni nc ns nt hrs I L (zs (zu I 128 0 0) 158 (zGoes (zu I 128 0 0) nc)) (zs K 157 (zFar (zu I 128 0 0) (K 157) ni nc (nI i.toNatClampNeg))) := zREL_ask1 _ _ r0
  have ht : (if zlt i ni then 0 else 1) = 0 := by
    rcases zt_1 i with ⟨-, q, -⟩ | ⟨q, -⟩
    · exact q
    · exact absurd (q.symm.trans hoc) (by decide)
  have hT0 : (zs (zu I 128 0 0) 158 (zGoes (zu I 128 0 0) nc)) 128 0 = 0 := by
    unfold zu; (try unfold zs); repeat (first | rw [if_pos (by omega)] | rw [if_neg (by omega)] | dsimp only | rfl)
  have hTf : ∀ κ, κ < 128 → (zs (zu I 128 0 0) 158 (zGoes (zu I 128 0 0) nc)) κ = I κ := fun κ hκ => by
    funext j
    unfold zu; (try unfold zs); repeat (first | rw [if_pos (by omega)] | rw [if_neg (by omega)] | dsimp only | rfl)
  have hK0 : (zs K 157 (zFar (zu I 128 0 0) (K 157) ni nc (nI i.toNatClampNeg))) 160 0 = (zRer I nc (1 <<< (nI i.toNatClampNeg &&& 31)) 9).toInt64 := by rw [zs_ne _ _ (by omega), eK, zu_self]
  have hKf : ∀ κ, κ < 128 → (zs K 157 (zFar (zu I 128 0 0) (K 157) ni nc (nI i.toNatClampNeg))) κ = L κ := fun κ hκ => by rw [zs_ne _ _ (by omega), eK, zu_rne (by omega)]
  exact ⟨ht, zREL_rv h', hT0, hK0, congrArg Int32.toInt64 (s2_reach h' h1), zLI_next hT r1 hTf hKf hh (Nat.le_add_right _ _), hT.2.1⟩
