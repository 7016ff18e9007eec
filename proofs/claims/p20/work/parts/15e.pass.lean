/-! HOURS PASS -/
theorem zFs_I {nc : Nat} {q : zIt × zLt} : ∀ k, k ≤ 12 → ∀ κ, 112 ≤ κ → (zFs nc q k).1 κ = q.1 κ := by
  intro k
  induction k with
  | zero => intro _ κ _; rfl
  | succ k ih =>
    intro hk κ h
    show (zFs1 nc (zFs nc q k) k).1 κ = q.1 κ
    unfold zFs1
    dsimp only
    rw [zFound_ne (by omega) (by omega), ih (by omega) κ h]
theorem zStale_I {nc nt : Nat} {q : zIt × zLt} (hnt : nt ≤ 12) {κ : Nat} (h : 112 ≤ κ) : (zStale nc nt q).1 κ = q.1 κ := by
  unfold zStale
  split
  · rfl
  · dsimp only
    rw [zu_rne (by omega), zFs_I nt hnt κ h]
theorem zHr_fr {ni nc ns nt hrs : Nat} {I J : zIt} {L K : zLt} (h : zREL ni nc ns nt hrs I L J K) {κ : Nat} (hκ : 112 ≤ κ) : (zHr nc ns nt (I, L)).1 κ = I κ ∧ (zHr nc ns nt (I, L)).2 κ = L κ := by
  obtain ⟨-, bd, -, -, -, hF, hS, -⟩ := h
  obtain ⟨hni, hnc, hns, hnt⟩ := id bd
  have hF1 : zRF nc (zu I 0 8 (I 0 8 + 1)) J := zRF_c hF (zu_ne _ _ (by omega)) (zu_rne (by omega)) (fun c hc => ⟨zu_ne _ _ (by omega), zu_ne _ _ (by omega)⟩) rfl rfl
  have hS1 : ∀ q, q < ns → zRS nc (zu I 0 8 (I 0 8 + 1)) J q := fun q hq => zRS_c (hS q hq) (zu_rne (by omega)) (fun c hc => by unfold zspn; rw [zu_ne _ _ (by omega)]) ⟨rfl, rfl, rfl, rfl, rfl, rfl, rfl⟩
  unfold zHr
  obtain ⟨f1, f2⟩ := zSett_fr (q := zStale nc nt (zShs (zu I 0 8 (I 0 8 + 1)) ns, L)) nt κ (by omega)
  dsimp only
  rw [f1, f2, zStale_I hnt hκ, zStale_L (by omega)]
  dsimp only
  rw [zShs_row hnc hns hF1 hS1 (Nat.le_refl _) (by omega), zu_rne (by omega)]
  exact ⟨rfl, rfl⟩
theorem zHrs_fr {ni nc ns nt hrs : Nat} {I J : zIt} {L K : zLt} (h : zREL ni nc ns nt hrs I L J K) {κ : Nat} (hκ : 112 ≤ κ) : ∀ n, hrs + n < 1000000 → (zHrs nc ns nt (I, L) n).1 κ = I κ ∧ (zHrs nc ns nt (I, L) n).2 κ = L κ := by
  intro n
  induction n with
  | zero => intro _; exact ⟨rfl, rfl⟩
  | succ n ih =>
    intro hn
    have hn' : hrs + n < 1000000 := by omega
    obtain ⟨i1, i2⟩ := ih hn'
    obtain ⟨f1, f2⟩ := zHr_fr (zREL_hrs h n hn') hκ
    exact ⟨f1.trans i1, f2.trans i2⟩
theorem s2_pass {ni nc ns nt hrs : Nat} {I J : zIt} {L K : zLt} (h : zREL ni nc ns nt hrs I L J K) {x : Int32} (hx : zin x 1 500) (hh : hrs + 500 < 1000000) :
    x.toNatClampNeg ≤ 500 ∧ zREL ni nc ns nt (hrs + x.toNatClampNeg) (zHrs nc ns nt (I, L) x.toNatClampNeg).1 (zHrs nc ns nt (I, L) x.toNatClampNeg).2 (zRhrs ni nc ns nt (zu J 128 0 0, K) x.toNatClampNeg).1 (zRhrs ni nc ns nt (zu J 128 0 0, K) x.toNatClampNeg).2 ∧
    (zHrs nc ns nt (I, L) x.toNatClampNeg).1 0 8 = (zRhrs ni nc ns nt (zu J 128 0 0, K) x.toNatClampNeg).1 128 1 := by
  obtain ⟨n, h1, h2, rfl⟩ := zin_ex (a := 1) (b := 500) (by omega) hx (by omega)
  rw [nI_clamp (by omega)]
  have h' : zREL ni nc ns nt hrs I L (zu J 128 0 0) K := zREL_c (fun _ _ _ => rfl) (fun _ _ => rfl) (fun κ hκ _ => zu_rne (by omega)) (fun j hj => zu_ne _ _ (by omega)) rfl h
  have hr := zREL_hrs h' n (by omega)
  exact ⟨h2, hr, hr.2.2.1.1.trans hr.2.2.1.2.symm⟩
/-! ASKING -/
/-- the reference asked: 'thrown', 'goes' and 'far' apart nothing changes -/
theorem zREL_ask {ni nc ns nt hrs : Nat} {I J J' : zIt} {L K K' : zLt} (h : zREL ni nc ns nt hrs I L J K) (e3 : ∀ κ, 128 < κ → κ ≠ 158 → J' κ = J κ) (e4 : ∀ j, j ≠ 0 → J' 128 j = J 128 j) (e5 : K' 156 = K 156) : zREL ni nc ns nt hrs I L J' K' :=
  zREL_c (fun _ _ _ => rfl) (fun _ _ => rfl) e3 e4 e5 h
theorem zREL_ask0 {ni nc ns nt hrs : Nat} {I J : zIt} {L K : zLt} (x : Int32) (h : zREL ni nc ns nt hrs I L J K) : zREL ni nc ns nt hrs I L (zu J 128 0 x) K :=
  zREL_ask h (fun κ hκ _ => zu_rne (by omega)) (fun j hj => zu_ne _ _ (by omega)) rfl
theorem zREL_ask1 {ni nc ns nt hrs : Nat} {I J : zIt} {L K : zLt} (g : Nat → Int32) (f : Nat → Int64) (h : zREL ni nc ns nt hrs I L J K) : zREL ni nc ns nt hrs I L (zs (zu J 128 0 0) 158 g) (zs K 157 f) :=
  zREL_ask h (fun κ hκ h2 => by rw [zs_ne _ _ h2, zu_rne (by omega)]) (fun j hj => by rw [zs_ne _ _ (by omega), zu_ne _ _ (by omega)]) (zs_ne _ _ (by omega))
theorem s2_works {ni nc ns nt hrs : Nat} {I J : zIt} {L K : zLt} (h : zREL ni nc ns nt hrs I L J K) {i : Int32} (hi : zlt i nc) : zb (I (32 + i.toNatClampNeg) 5 = 0) = zb (zDwb (zu J 128 0 0) (nI i.toNatClampNeg) = true) := by
  have hw := zWork_iff h.2.1.2.1 h.2.2.2.2.2.1 (zlt_nat hi).2
  rw [zDwb_c (I := J) (zu_ne _ _ (by omega)) (zu_rne (by omega))]
  by_cases hc : I (32 + i.toNatClampNeg) 5 = 0
  · rw [zb_1 hc, zb_1 (hw.mp hc)]
  · rw [zb_0 hc, zb_0 (fun q => hc (hw.mpr q))]
theorem s2_faultAt {ni nc ns nt hrs : Nat} {I J : zIt} {L K : zLt} (h : zREL ni nc ns nt hrs I L J K) {x : Int32} : (if x.toNatClampNeg < zNf I then I 6 x.toNatClampNeg else -1) = (if x.toNatClampNeg < zRn J then J 140 x.toNatClampNeg else -1) := by
  have hF := h.2.2.2.2.2.1
  rw [zRF_n hF]
  by_cases hc : x.toNatClampNeg < zNf I
  · rw [if_pos hc, if_pos hc, hF.2.2.1 _ hc]
  · rw [if_neg hc, if_neg hc]
theorem s2_shipOf {ni nc ns nt hrs : Nat} {I J : zIt} {L K : zLt} (h : zREL ni nc ns nt hrs I L J K) {i x : Int32} (hi : zlt i ns) :
    (if x = 0 then I (48 + i.toNatClampNeg) 3 else if x = 1 then I (48 + i.toNatClampNeg) 1 else if x = 2 then I (48 + i.toNatClampNeg) 2 else if x = 3 then I (48 + i.toNatClampNeg) 4 else I (48 + i.toNatClampNeg) 7) =
    (if x = 0 then J 143 i.toNatClampNeg else if x = 1 then J 144 i.toNatClampNeg else if x = 2 then J 145 i.toNatClampNeg else if x = 3 then J 146 i.toNatClampNeg else J 148 i.toNatClampNeg) := by
  obtain ⟨-, e1, e2, e3, e4, e5⟩ := (h.2.2.2.2.2.2.1 _ (zlt_nat hi).2).1
  rw [e1, e2, e3, e4, e5]
theorem s2_account {ni nc ns nt hrs : Nat} {I J : zIt} {L K : zLt} (h : zREL ni nc ns nt hrs I L J K) {i x : Int32} (hi : zlt i nt) (hx : zin x 0 3) (hh : hrs < 1000000) :
    (if x = 0 then L (64 + i.toNatClampNeg) 7 else if x = 1 then (I (64 + i.toNatClampNeg) 8).toInt64 else if x = 2 then (I (64 + i.toNatClampNeg) 9).toInt64 else (I (64 + i.toNatClampNeg) 10).toInt64) = K 156 (4 * i.toNatClampNeg + x.toNatClampNeg) := by
  obtain ⟨-, e7, d, p, l, m, a, b, c, ⟨-, -, -, hm, -⟩, ⟨c1, c2, c3, f8, f9, f10⟩, k1, k2, k3⟩ := h.2.2.2.2.2.2.2.1.2 _ (zlt_nat hi).2
  rw [e7, f8, f9, f10, nI_l (by omega), nI_l (by omega), nI_l (by omega)]
  obtain ⟨n, -, hn, rfl⟩ := zin_ex (a := 0) (b := 3) (by omega) hx (by omega)
  rw [nI_clamp (by omega)]
  rcases (show n = 0 ∨ n = 1 ∨ n = 2 ∨ n = 3 by omega) with rfl | rfl | rfl | rfl
  · rw [if_pos (by decide)]; rfl
  · rw [if_neg (by decide), if_pos (by decide), k1]
  · rw [if_neg (by decide), if_neg (by decide), if_pos (by decide), k2]
  · rw [if_neg (by decide), if_neg (by decide), if_neg (by decide), k3]
