set_option maxHeartbeats 4000000 in
set_option maxRecDepth 100000 in
theorem c_X6_island (l : Launch) (base : Nat) (D : zDD) (cA : Nat → ClassId) (ad : Nat → Nat) (ty : zTyp) (I : zIt) (L : zLt) (P : zPt) (hl0 : l.stackTraces = false) (ni nc ns nt : Nat) (hC : zcls ni nc ns nt ty P) (hI : zInv ni nc ns nt I) (hfr : ni < 10 → ty (16 + ni) = none) (i j : Int32) : zXi l base D cA yX6_island cX6_island 3 .int 7 112 4 20 [.ref (ad 0), .int i, .int j] (zW base D cA ad ty I L P) (zsq (zo2 i 0 99) (zsq (zo2 j 0 99) (zo3 (nI ni) 10))) (nI ni) (fun H => ∃ ad2, (∀ κ t, ty κ = some t → ad2 κ = ad κ) ∧ zW base D cA ad2 (zs ty (16 + ni) (some (1, 0))) (zu (zu (zu (zs I (16 + ni) (fun _ => 0)) (16 + ni) 0 i) (16 + ni) 1 j) 0 1 (nI (ni + 1))) (zs L (16 + ni) (fun _ => 0)) (zu (zs P (16 + ni) (fun _ => none)) 2 ni (some (16 + ni))) H) := by
  refine z_xstart (by decide +kernel) (Nat.le_of_ble_eq_true rfl) fun p e s m below meth c ls M hP hS hl hr hlocks hnm hout => ?_
  have M : zM p s m c cX6_island RX6 3 base D cA := M
  have hw : zH base D cA s s.heap [] ad ty I L P := ⟨hP, hS⟩
  obtain ⟨hx, hb, -⟩ := id M
  have hl : lv_has ls 3 [(0, .ref (ad 0)), (1, .int i), (2, .int j)] := hl
  obtain ⟨hb1, hb2, hb3, hb4⟩ := zc_b hC
  have hbb : nc ≤ 16 ∧ ns ≤ 4 ∧ nt ≤ 12 := ⟨hb2, hb3, hb4⟩
  refine lv_iload_n hx hb dX6_island_0 rfl (lv_at hl 1 rfl) ?_
  refine lv_iconst (v := 0) hx hb dX6_island_1 (by decide) ?_
  refine lv_bipush (v := 99) hx hb dX6_island_2 (by decide) ?_
  refine z_xcv (z_xrunS (As := [.int i, .int 0, .int 99]) (rest := []) M hw.2 zc_X6_51 zn_X6_51 (c_X6_checkRange l base D cA ad ty I L P hl0 i 0 99) hw.1 rfl rfl ⟨Nat.le_of_ble_eq_true rfl, Nat.le_of_ble_eq_true rfl⟩ ⟨Nat.le_of_ble_eq_true rfl, Nat.le_of_ble_eq_true rfl⟩ hl.1 (Nat.le_of_ble_eq_true rfl) dX6_island_4) hw.2 (fun c1 ce q H locs hw0 hS hq hv hcl => ?_) (fun c1 H locs hw1 hS => ?_)
  · exact z_xout c1 (by (try unfold zsq); (try first | rw [if_pos c1] | rw [if_neg c1]); (try first | rfl | assumption)) hw0 hS hq hv hcl hout (Nat.le_of_ble_eq_true rfl) (Nat.le_of_ble_eq_true rfl) hlocks
  have hw : zH base D cA s H locs ad ty I L P := ⟨hw1, hS⟩
  have zc1 := zo2_z c1
  refine lv_iload_n hx hb dX6_island_7 rfl (lv_at hl 2 rfl) ?_
  refine lv_iconst (v := 0) hx hb dX6_island_8 (by decide) ?_
  refine lv_bipush (v := 99) hx hb dX6_island_9 (by decide) ?_
  refine z_xcv (z_xrunS (As := [.int j, .int 0, .int 99]) (rest := []) M hw.2 zc_X6_51 zn_X6_51 (c_X6_checkRange l base D cA ad ty I L P hl0 j 0 99) hw.1 rfl rfl ⟨Nat.le_of_ble_eq_true rfl, Nat.le_of_ble_eq_true rfl⟩ ⟨Nat.le_of_ble_eq_true rfl, Nat.le_of_ble_eq_true rfl⟩ hl.1 (Nat.le_of_ble_eq_true rfl) dX6_island_11) hw.2 (fun c2 ce q H locs hw0 hS hq hv hcl => ?_) (fun c2 H locs hw1 hS => ?_)
  · exact z_xout c2 (by (try unfold zsq); (try first | rw [if_pos c1] | rw [if_neg c1]); (try first | rw [if_pos c2] | rw [if_neg c2]); (try first | rfl | assumption)) hw0 hS hq hv hcl hout (Nat.le_of_ble_eq_true rfl) (Nat.le_of_ble_eq_true rfl) hlocks
  have hw : zH base D cA s H locs ad ty I L P := ⟨hw1, hS⟩
  have zc2 := zo2_z c2
  refine lv_aload_n hx hb dX6_island_14 rfl (lv_at hl 0 rfl) ?_
  refine z_geti M hw (zc_t0 hC) zf_X6_15 dX6_island_15 ?_
  refine z_topi (y := nI ni) hI.1.1 ?_
  refine lv_bipush (v := 10) hx hb dX6_island_18 (by decide) ?_
  refine z_xcv (z_xrunS (As := [.int (nI ni), .int 10]) (rest := []) M hw.2 zc_X6_55 zn_X6_55 (c_X6_checkRoom l base D cA ad ty I L P hl0 (nI ni) 10) hw.1 rfl rfl ⟨Nat.le_of_ble_eq_true rfl, Nat.le_of_ble_eq_true rfl⟩ ⟨Nat.le_of_ble_eq_true rfl, Nat.le_of_ble_eq_true rfl⟩ hl.1 (Nat.le_of_ble_eq_true rfl) dX6_island_20) hw.2 (fun c3 ce q H locs hw0 hS hq hv hcl => ?_) (fun c3 H locs hw1 hS => ?_)
  · exact z_xout c3 (by (try unfold zsq); (try first | rw [if_pos c1] | rw [if_neg c1]); (try first | rw [if_pos c2] | rw [if_neg c2]); (try first | rw [if_pos c3] | rw [if_neg c3]); (try first | rfl | assumption)) hw0 hS hq hv hcl hout (Nat.le_of_ble_eq_true rfl) (Nat.le_of_ble_eq_true rfl) hlocks
  have hw : zH base D cA s H locs ad ty I L P := ⟨hw1, hS⟩
  have zc3 := zo3_z c3
  have hroom : ni < 10 := z_ltn (show nI ni < nI 10 from zc3) (by omega) (by omega)
  refine lv_aload_n hx hb dX6_island_23 rfl (lv_at hl 0 rfl) ?_
  refine z_getr M hw (zc_t0 hC) zf_X6_11 (zc_p00 hC) dX6_island_24 ?_
  refine lv_aload_n hx hb dX6_island_27 rfl (lv_at hl 0 rfl) ?_
  refine z_geti M hw (zc_t0 hC) zf_X6_15 dX6_island_28 ?_
  refine z_topi (y := nI ni) hI.1.1 ?_
  refine z_new (ci := 1) M hw (16 + ni) (hfr hroom) (by decide) (tb 24 (by decide +kernel)) (tb 198 (by decide +kernel)) (tb 8 (by decide +kernel)) (Nat.le_of_ble_eq_true rfl) (Nat.le_of_ble_eq_true rfl) dX6_island_31 (fun a4 H hw => ?_)
  obtain ⟨ad4, had4⟩ : ∃ z, z = zs ad (16 + ni) a4 := ⟨_, rfl⟩
  rw [← had4] at hw ⊢
  have ea5 : ad 0 = ad4 0 := by rw [had4, zs_ne _ _ (by omega)]
  have ea6 : ad 2 = ad4 2 := by rw [had4, zs_ne _ _ (by omega)]
  rw [ea5] at hl
  refine W.eq (g2 := F0 m 34 ls [.ref (ad4 (16 + ni)), .int (nI ni), .ref (ad4 2)]) (by rw [ea6]) ?_
  have hag4 : ∀ κ t, ty κ = some t → ad4 κ = ad κ := fun κ t h => (show ad4 κ = ad κ by rw [had4]; exact zs_ne _ _ (fun e => by rw [e] at h; exact absurd (h.symm.trans (hfr hroom)) (by simp)))
  refine lv_dup hx hb dX6_island_34 rfl ?_
  refine lv_iload_n hx hb dX6_island_35 rfl (lv_at hl 1 rfl) ?_
  refine lv_iload_n hx hb dX6_island_36 rfl (lv_at hl 2 rfl) ?_
  refine z_cv0 (z_runI (As := [.int i, .int j]) (rest := [.ref (ad4 (16 + ni)), .int (nI ni), .ref (ad4 2)]) M hw.2 zc_X6_59 (c_X1_init l base D cA ad4 (zs ty (16 + ni) (some (1, 0))) (zs I (16 + ni) (fun _ => 0)) (zs L (16 + ni) (fun _ => 0)) (zs P (16 + ni) (fun _ => none)) (16 + ni) 0 (zs_self _ _ _) i j) hw.1 rfl rfl ⟨Nat.le_of_ble_eq_true rfl, Nat.le_of_ble_eq_true rfl⟩ ⟨Nat.le_of_ble_eq_true rfl, Nat.le_of_ble_eq_true rfl⟩ hl.1 (Nat.le_of_ble_eq_true rfl) dX6_island_37) hw (fun H locs hw => ?_)
  refine z_aNast M hw (e9 := 4) ((zs_ne _ _ (by omega)).trans (zc_t2 hC)) (by decide) (zs_self _ _ _) ⟨by decide, rfl⟩ rfl ⟨by omega, by omega⟩ dX6_island_40 (fun H locs hw => ?_)
  refine lv_aload_n hx hb dX6_island_41 rfl (lv_at hl 0 rfl) ?_
  refine lv_dup hx hb dX6_island_42 rfl ?_
  refine z_geti M hw ((zs_ne _ _ (by omega)).trans (zc_t0 hC)) zf_X6_15 dX6_island_43 ?_
  refine z_topi (y := I 0 1) (by rw [zu_ne _ _ (by omega), zu_ne _ _ (by omega), zs_ne _ _ (by omega)]) ?_
  refine z_topi (y := nI ni) hI.1.1 ?_
  refine lv_iconst (v := 1) hx hb dX6_island_46 (by decide) ?_
  refine lv_iadd hx hb dX6_island_47 ?_
  refine z_puti M hw ((zs_ne _ _ (by omega)).trans (zc_t0 hC)) zf_X6_15 (Or.inl rfl) rfl rfl dX6_island_48 (fun H locs hw => ?_)
  refine lv_aload_n hx hb dX6_island_51 rfl (lv_at hl 0 rfl) ?_
  refine z_geti M hw ((zs_ne _ _ (by omega)).trans (zc_t0 hC)) zf_X6_15 dX6_island_52 ?_
  refine z_topi (y := (nI ni) + 1) (by rw [zu_self]) ?_
  refine lv_iconst (v := 1) hx hb dX6_island_55 (by decide) ?_
  refine lv_isub hx hb dX6_island_56 ?_
  exact z_xiret hx hb hr ⟨(by rw [← nI_succ, nI_pred]), (by (try unfold zsq); (try first | rw [if_pos c1] | rw [if_neg c1]); (try first | rw [if_pos c2] | rw [if_neg c2]); (try first | rw [if_pos c3] | rw [if_neg c3]); (try first | rfl | assumption))⟩ rfl hw.2 ⟨_, hag4, (by rw [← nI_succ] at hw; exact hw.1)⟩ (Nat.le_of_ble_eq_true rfl) (Nat.le_of_ble_eq_true rfl) dX6_island_57 hlocks
set_option maxHeartbeats 4000000 in
set_option maxRecDepth 100000 in
theorem c_X6_ship (l : Launch) (base : Nat) (D : zDD) (cA : Nat → ClassId) (ad : Nat → Nat) (ty : zTyp) (I : zIt) (L : zLt) (P : zPt) (hl0 : l.stackTraces = false) (ni nc ns nt : Nat) (hC : zcls ni nc ns nt ty P) (hI : zInv ni nc ns nt I) (hfr : ns < 4 → ty (48 + ns) = none) (i x : Int32) : zXi l base D cA yX6_ship cX6_ship 3 .int 7 112 4 26 [.ref (ad 0), .int i, .int x] (zW base D cA ad ty I L P) (zsq (zo1 i ni) (zsq (zo2 x 1 20) (zo3 (nI ns) 4))) (nI ns) (fun H => ∃ ad2, (∀ κ t, ty κ = some t → ad2 κ = ad κ) ∧ zW base D cA ad2 (zs ty (48 + ns) (some (3, 0))) (zu (zu (zu (zu (zu (zu (zu (zu (zu (zs I (48 + ns) (fun _ => 0)) (48 + ns) 3 0) (48 + ns) 4 0) (48 + ns) 5 (-1)) (48 + ns) 6 (-1)) (48 + ns) 7 0) (48 + ns) 1 (I (16 + i.toNatClampNeg) 0)) (48 + ns) 2 (I (16 + i.toNatClampNeg) 1)) (48 + ns) 0 x) 0 4 (nI (ns + 1))) (zs L (48 + ns) (fun _ => 0)) (zu (zs P (48 + ns) (fun _ => none)) 4 ns (some (48 + ns))) H) := by
  refine z_xstart (by decide +kernel) (Nat.le_of_ble_eq_true rfl) fun p e s m below meth c ls M hP hS hl hr hlocks hnm hout => ?_
  have M : zM p s m c cX6_ship RX6 3 base D cA := M
  have hw : zH base D cA s s.heap [] ad ty I L P := ⟨hP, hS⟩
  obtain ⟨hx, hb, -⟩ := id M
  have hl : lv_has ls 3 [(0, .ref (ad 0)), (1, .int i), (2, .int x)] := hl
  obtain ⟨hb1, hb2, hb3, hb4⟩ := zc_b hC
  have hbb : nc ≤ 16 ∧ ns ≤ 4 ∧ nt ≤ 12 := ⟨hb2, hb3, hb4⟩
  refine lv_iload_n hx hb dX6_ship_0 rfl (lv_at hl 1 rfl) ?_
  refine lv_aload_n hx hb dX6_ship_1 rfl (lv_at hl 0 rfl) ?_
  refine z_geti M hw (zc_t0 hC) zf_X6_15 dX6_ship_2 ?_
  refine z_topi (y := nI ni) hI.1.1 ?_
  refine z_xcv (z_xrunS (As := [.int i, .int (nI ni)]) (rest := []) M hw.2 zc_X6_61 zn_X6_61 (c_X6_checkIndex l base D cA ad ty I L P hl0 i ni (by omega)) hw.1 rfl rfl ⟨Nat.le_of_ble_eq_true rfl, Nat.le_of_ble_eq_true rfl⟩ ⟨Nat.le_of_ble_eq_true rfl, Nat.le_of_ble_eq_true rfl⟩ hl.1 (Nat.le_of_ble_eq_true rfl) dX6_ship_5) hw.2 (fun c1 ce q H locs hw0 hS hq hv hcl => ?_) (fun c1 H locs hw1 hS => ?_)
  · exact z_xout c1 (by (try unfold zsq); (try first | rw [if_pos c1] | rw [if_neg c1]); (try first | rfl | assumption)) hw0 hS hq hv hcl hout (Nat.le_of_ble_eq_true rfl) (Nat.le_of_ble_eq_true rfl) hlocks
  have hw : zH base D cA s H locs ad ty I L P := ⟨hw1, hS⟩
  have hi := zo1_z c1
  have qi := (zlt_nat hi).2
  rw [(zlt_nat hi).1] at hl
  refine lv_iload_n hx hb dX6_ship_8 rfl (lv_at hl 2 rfl) ?_
  refine lv_iconst (v := 1) hx hb dX6_ship_9 (by decide) ?_
  refine lv_bipush (v := 20) hx hb dX6_ship_10 (by decide) ?_
  refine z_xcv (z_xrunS (As := [.int x, .int 1, .int 20]) (rest := []) M hw.2 zc_X6_51 zn_X6_51 (c_X6_checkRange l base D cA ad ty I L P hl0 x 1 20) hw.1 rfl rfl ⟨Nat.le_of_ble_eq_true rfl, Nat.le_of_ble_eq_true rfl⟩ ⟨Nat.le_of_ble_eq_true rfl, Nat.le_of_ble_eq_true rfl⟩ hl.1 (Nat.le_of_ble_eq_true rfl) dX6_ship_12) hw.2 (fun c2 ce q H locs hw0 hS hq hv hcl => ?_) (fun c2 H locs hw1 hS => ?_)
  · exact z_xout c2 (by (try unfold zsq); (try first | rw [if_pos c1] | rw [if_neg c1]); (try first | rw [if_pos c2] | rw [if_neg c2]); (try first | rfl | assumption)) hw0 hS hq hv hcl hout (Nat.le_of_ble_eq_true rfl) (Nat.le_of_ble_eq_true rfl) hlocks
  have hw : zH base D cA s H locs ad ty I L P := ⟨hw1, hS⟩
  have zc2 := zo2_z c2
  refine lv_aload_n hx hb dX6_ship_15 rfl (lv_at hl 0 rfl) ?_
  refine z_geti M hw (zc_t0 hC) zf_X6_32 dX6_ship_16 ?_
  refine z_topi (y := nI ns) hI.1.2.2.1 ?_
  refine lv_iconst (v := 4) hx hb dX6_ship_19 (by decide) ?_
  refine z_xcv (z_xrunS (As := [.int (nI ns), .int 4]) (rest := []) M hw.2 zc_X6_55 zn_X6_55 (c_X6_checkRoom l base D cA ad ty I L P hl0 (nI ns) 4) hw.1 rfl rfl ⟨Nat.le_of_ble_eq_true rfl, Nat.le_of_ble_eq_true rfl⟩ ⟨Nat.le_of_ble_eq_true rfl, Nat.le_of_ble_eq_true rfl⟩ hl.1 (Nat.le_of_ble_eq_true rfl) dX6_ship_20) hw.2 (fun c3 ce q H locs hw0 hS hq hv hcl => ?_) (fun c3 H locs hw1 hS => ?_)
  · exact z_xout c3 (by (try unfold zsq); (try first | rw [if_pos c1] | rw [if_neg c1]); (try first | rw [if_pos c2] | rw [if_neg c2]); (try first | rw [if_pos c3] | rw [if_neg c3]); (try first | rfl | assumption)) hw0 hS hq hv hcl hout (Nat.le_of_ble_eq_true rfl) (Nat.le_of_ble_eq_true rfl) hlocks
  have hw : zH base D cA s H locs ad ty I L P := ⟨hw1, hS⟩
  have zc3 := zo3_z c3
  have hroom : ns < 4 := z_ltn (show nI ns < nI 4 from zc3) (by omega) (by omega)
  refine lv_aload_n hx hb dX6_ship_23 rfl (lv_at hl 0 rfl) ?_
  refine z_getr M hw (zc_t0 hC) zf_X6_28 (zc_p03 hC) dX6_ship_24 ?_
  refine lv_aload_n hx hb dX6_ship_27 rfl (lv_at hl 0 rfl) ?_
  refine z_geti M hw (zc_t0 hC) zf_X6_32 dX6_ship_28 ?_
  refine z_topi (y := nI ns) hI.1.2.2.1 ?_
  refine z_new (ci := 3) M hw (48 + ns) (hfr hroom) (by decide) (tb 57 (by decide +kernel)) (tb 320 (by decide +kernel)) (tb 11 (by decide +kernel)) (Nat.le_of_ble_eq_true rfl) (Nat.le_of_ble_eq_true rfl) dX6_ship_31 (fun a4 H hw => ?_)
  obtain ⟨ad4, had4⟩ : ∃ z, z = zs ad (48 + ns) a4 := ⟨_, rfl⟩
  rw [← had4] at hw ⊢
  have ea5 : ad 0 = ad4 0 := by rw [had4, zs_ne _ _ (by omega)]
  have ea6 : ad 4 = ad4 4 := by rw [had4, zs_ne _ _ (by omega)]
  rw [ea5] at hl
  refine W.eq (g2 := F0 m 34 ls [.ref (ad4 (48 + ns)), .int (nI ns), .ref (ad4 4)]) (by rw [ea6]) ?_
  have hag4 : ∀ κ t, ty κ = some t → ad4 κ = ad κ := fun κ t h => (show ad4 κ = ad κ by rw [had4]; exact zs_ne _ _ (fun e => by rw [e] at h; exact absurd (h.symm.trans (hfr hroom)) (by simp)))
  refine lv_dup hx hb dX6_ship_34 rfl ?_
  refine lv_aload_n hx hb dX6_ship_35 rfl (lv_at hl 0 rfl) ?_
  refine z_getr M hw ((zs_ne _ _ (by omega)).trans (zc_t0 hC)) zf_X6_11 ((congrFun (zs_ne _ _ (by omega)) _).trans (zc_p00 hC)) dX6_ship_36 ?_
  refine lv_iload_n hx hb dX6_ship_39 rfl (lv_at hl 1 rfl) ?_
  refine z_aNald M hw (e9 := 4) ((zs_ne _ _ (by omega)).trans (zc_t2 hC)) ⟨by decide, rfl⟩ rfl ⟨by omega, by omega⟩ ((congrFun (zs_ne _ _ (by omega)) _).trans (zc_pI hC (by omega))) dX6_ship_40 ?_
  refine z_geti M hw ((zs_ne _ _ (by omega)).trans (zc_tI hC (by omega))) zf_X6_104 dX6_ship_41 ?_
  refine z_topi (y := I (16 + i.toNatClampNeg) 0) (by rw [zs_ne _ _ (by omega)]) ?_
  refine lv_aload_n hx hb dX6_ship_44 rfl (lv_at hl 0 rfl) ?_
  refine z_getr M hw ((zs_ne _ _ (by omega)).trans (zc_t0 hC)) zf_X6_11 ((congrFun (zs_ne _ _ (by omega)) _).trans (zc_p00 hC)) dX6_ship_45 ?_
  refine lv_iload_n hx hb dX6_ship_48 rfl (lv_at hl 1 rfl) ?_
  refine z_aNald M hw (e9 := 4) ((zs_ne _ _ (by omega)).trans (zc_t2 hC)) ⟨by decide, rfl⟩ rfl ⟨by omega, by omega⟩ ((congrFun (zs_ne _ _ (by omega)) _).trans (zc_pI hC (by omega))) dX6_ship_49 ?_
  refine z_geti M hw ((zs_ne _ _ (by omega)).trans (zc_tI hC (by omega))) zf_X6_107 dX6_ship_50 ?_
  refine z_topi (y := I (16 + i.toNatClampNeg) 1) (by rw [zs_ne _ _ (by omega)]) ?_
  refine lv_iload_n hx hb dX6_ship_53 rfl (lv_at hl 2 rfl) ?_
  refine z_cv0 (z_runI (As := [.int (I (16 + i.toNatClampNeg) 0), .int (I (16 + i.toNatClampNeg) 1), .int x]) (rest := [.ref (ad4 (48 + ns)), .int (nI ns), .ref (ad4 4)]) M hw.2 zc_X6_110 (c_X3_init l base D cA ad4 (zs ty (48 + ns) (some (3, 0))) (zs I (48 + ns) (fun _ => 0)) (zs L (48 + ns) (fun _ => 0)) (zs P (48 + ns) (fun _ => none)) (48 + ns) 0 (zs_self _ _ _) (I (16 + i.toNatClampNeg) 0) (I (16 + i.toNatClampNeg) 1) x) hw.1 rfl rfl ⟨Nat.le_of_ble_eq_true rfl, Nat.le_of_ble_eq_true rfl⟩ ⟨Nat.le_of_ble_eq_true rfl, Nat.le_of_ble_eq_true rfl⟩ hl.1 (Nat.le_of_ble_eq_true rfl) dX6_ship_54) hw (fun H locs hw => ?_)
  refine z_aNast M hw (e9 := 5) ((zs_ne _ _ (by omega)).trans (zc_t4 hC)) (by decide) (zs_self _ _ _) ⟨by decide, rfl⟩ rfl ⟨by omega, by omega⟩ dX6_ship_57 (fun H locs hw => ?_)
  refine lv_aload_n hx hb dX6_ship_58 rfl (lv_at hl 0 rfl) ?_
  refine lv_dup hx hb dX6_ship_59 rfl ?_
  refine z_geti M hw ((zs_ne _ _ (by omega)).trans (zc_t0 hC)) zf_X6_32 dX6_ship_60 ?_
  refine z_topi (y := I 0 4) (by rw [zu_ne _ _ (by omega), zu_ne _ _ (by omega), zu_ne _ _ (by omega), zu_ne _ _ (by omega), zu_ne _ _ (by omega), zu_ne _ _ (by omega), zu_ne _ _ (by omega), zu_ne _ _ (by omega), zs_ne _ _ (by omega)]) ?_
  refine z_topi (y := nI ns) hI.1.2.2.1 ?_
  refine lv_iconst (v := 1) hx hb dX6_ship_63 (by decide) ?_
  refine lv_iadd hx hb dX6_ship_64 ?_
  refine z_puti M hw ((zs_ne _ _ (by omega)).trans (zc_t0 hC)) zf_X6_32 (Or.inl rfl) rfl rfl dX6_ship_65 (fun H locs hw => ?_)
  refine lv_aload_n hx hb dX6_ship_68 rfl (lv_at hl 0 rfl) ?_
  refine z_geti M hw ((zs_ne _ _ (by omega)).trans (zc_t0 hC)) zf_X6_32 dX6_ship_69 ?_
  refine z_topi (y := (nI ns) + 1) (by rw [zu_self]) ?_
  refine lv_iconst (v := 1) hx hb dX6_ship_72 (by decide) ?_
  refine lv_isub hx hb dX6_ship_73 ?_
  exact z_xiret hx hb hr ⟨(by rw [← nI_succ, nI_pred]), (by (try unfold zsq); (try first | rw [if_pos c1] | rw [if_neg c1]); (try first | rw [if_pos c2] | rw [if_neg c2]); (try first | rw [if_pos c3] | rw [if_neg c3]); (try first | rfl | assumption))⟩ rfl hw.2 ⟨_, hag4, (by rw [← nI_succ] at hw; exact hw.1)⟩ (Nat.le_of_ble_eq_true rfl) (Nat.le_of_ble_eq_true rfl) dX6_ship_74 hlocks
set_option maxHeartbeats 4000000 in
set_option maxRecDepth 100000 in
theorem c_X6_cable (l : Launch) (base : Nat) (D : zDD) (cA : Nat → ClassId) (ad : Nat → Nat) (ty : zTyp) (I : zIt) (L : zLt) (P : zPt) (hl0 : l.stackTraces = false) (ni nc ns nt : Nat) (hC : zcls ni nc ns nt ty P) (hI : zInv ni nc ns nt I) (hfr : nc < 16 → ty (32 + nc) = none) (i j k x y : Int32) : zXi l base D cA yX6_cable cX6_cable 6 .int 7 112 8 48 [.ref (ad 0), .int i, .int j, .int k, .int x, .int y] (zW base D cA ad ty I L P) (zsq (zo1 i ni) (zsq (zo1 j ni) (zsq (zoU i j) (zsq (zo2 k 1 8) (zsq (zo2 x 1 500) (zsq (zo2 y 0 9999) (zo3 (nI nc) 16))))))) (nI nc) (fun H => ∃ ad2, (∀ κ t, ty κ = some t → ad2 κ = ad κ) ∧ zW base D cA ad2 (zs ty (32 + nc) (some (0, 0))) (zu (zu (zu (zu (zu (zu (zu (zs (zu I 0 7 1) (32 + nc) (fun _ => 0)) (32 + nc) 5 0) (32 + nc) 0 (nI i.toNatClampNeg)) (32 + nc) 1 (nI j.toNatClampNeg)) (32 + nc) 2 k) (32 + nc) 3 x) (32 + nc) 4 y) 1 1 (nI (nc + 1))) (zs L (32 + nc) (fun _ => 0)) (zu (zs P (32 + nc) (fun _ => none)) 3 nc (some (32 + nc))) H) := by
  refine z_xstart (by decide +kernel) (Nat.le_of_ble_eq_true rfl) fun p e s m below meth c ls M hP hS hl hr hlocks hnm hout => ?_
  have M : zM p s m c cX6_cable RX6 6 base D cA := M
  have hw : zH base D cA s s.heap [] ad ty I L P := ⟨hP, hS⟩
  obtain ⟨hx, hb, -⟩ := id M
  have hl : lv_has ls 6 [(0, .ref (ad 0)), (1, .int i), (2, .int j), (3, .int k), (4, .int x), (5, .int y)] := hl
  obtain ⟨hb1, hb2, hb3, hb4⟩ := zc_b hC
  have hbb : nc ≤ 16 ∧ ns ≤ 4 ∧ nt ≤ 12 := ⟨hb2, hb3, hb4⟩
  refine lv_iload_n hx hb dX6_cable_0 rfl (lv_at hl 1 rfl) ?_
  refine lv_aload_n hx hb dX6_cable_1 rfl (lv_at hl 0 rfl) ?_
  refine z_geti M hw (zc_t0 hC) zf_X6_15 dX6_cable_2 ?_
  refine z_topi (y := nI ni) hI.1.1 ?_
  refine z_xcv (z_xrunS (As := [.int i, .int (nI ni)]) (rest := []) M hw.2 zc_X6_61 zn_X6_61 (c_X6_checkIndex l base D cA ad ty I L P hl0 i ni (by omega)) hw.1 rfl rfl ⟨Nat.le_of_ble_eq_true rfl, Nat.le_of_ble_eq_true rfl⟩ ⟨Nat.le_of_ble_eq_true rfl, Nat.le_of_ble_eq_true rfl⟩ hl.1 (Nat.le_of_ble_eq_true rfl) dX6_cable_5) hw.2 (fun c1 ce q H locs hw0 hS hq hv hcl => ?_) (fun c1 H locs hw1 hS => ?_)
  · exact z_xout c1 (by (try unfold zsq); (try first | rw [if_pos c1] | rw [if_neg c1]); (try first | rfl | assumption)) hw0 hS hq hv hcl hout (Nat.le_of_ble_eq_true rfl) (Nat.le_of_ble_eq_true rfl) hlocks
  have hw : zH base D cA s H locs ad ty I L P := ⟨hw1, hS⟩
  have hi := zo1_z c1
  have qi := (zlt_nat hi).2
  rw [(zlt_nat hi).1] at hl
  refine lv_iload_n hx hb dX6_cable_8 rfl (lv_at hl 2 rfl) ?_
  refine lv_aload_n hx hb dX6_cable_9 rfl (lv_at hl 0 rfl) ?_
  refine z_geti M hw (zc_t0 hC) zf_X6_15 dX6_cable_10 ?_
  refine z_topi (y := nI ni) hI.1.1 ?_
  refine z_xcv (z_xrunS (As := [.int j, .int (nI ni)]) (rest := []) M hw.2 zc_X6_61 zn_X6_61 (c_X6_checkIndex l base D cA ad ty I L P hl0 j ni (by omega)) hw.1 rfl rfl ⟨Nat.le_of_ble_eq_true rfl, Nat.le_of_ble_eq_true rfl⟩ ⟨Nat.le_of_ble_eq_true rfl, Nat.le_of_ble_eq_true rfl⟩ hl.1 (Nat.le_of_ble_eq_true rfl) dX6_cable_13) hw.2 (fun c2 ce q H locs hw0 hS hq hv hcl => ?_) (fun c2 H locs hw1 hS => ?_)
  · exact z_xout c2 (by (try unfold zsq); (try first | rw [if_pos c1] | rw [if_neg c1]); (try first | rw [if_pos c2] | rw [if_neg c2]); (try first | rfl | assumption)) hw0 hS hq hv hcl hout (Nat.le_of_ble_eq_true rfl) (Nat.le_of_ble_eq_true rfl) hlocks
  have hw : zH base D cA s H locs ad ty I L P := ⟨hw1, hS⟩
  have hj := zo1_z c2
  have qj := (zlt_nat hj).2
  rw [(zlt_nat hj).1] at hl
  refine lv_iload_n hx hb dX6_cable_16 rfl (lv_at hl 1 rfl) ?_
  refine lv_iload_n hx hb dX6_cable_17 rfl (lv_at hl 2 rfl) ?_
  refine z_xcv (z_xrunS (As := [.int (nI i.toNatClampNeg), .int (nI j.toNatClampNeg)]) (rest := []) M hw.2 zc_X6_64 zn_X6_64 (c_X6_checkUnlike l base D cA ad ty I L P hl0 (nI i.toNatClampNeg) (nI j.toNatClampNeg)) hw.1 rfl rfl ⟨Nat.le_of_ble_eq_true rfl, Nat.le_of_ble_eq_true rfl⟩ ⟨Nat.le_of_ble_eq_true rfl, Nat.le_of_ble_eq_true rfl⟩ hl.1 (Nat.le_of_ble_eq_true rfl) dX6_cable_18) hw.2 (fun c3 ce q H locs hw0 hS hq hv hcl => ?_) (fun c3 H locs hw1 hS => ?_)
  · exact z_xout c3 (by rw [← (zlt_nat hi).1, ← (zlt_nat hj).1] at c3; (try unfold zsq); (try first | rw [if_pos c1] | rw [if_neg c1]); (try first | rw [if_pos c2] | rw [if_neg c2]); (try first | rw [if_pos c3] | rw [if_neg c3]); (rw [← (zlt_nat hi).1, ← (zlt_nat hj).1])) hw0 hS hq hv hcl hout (Nat.le_of_ble_eq_true rfl) (Nat.le_of_ble_eq_true rfl) hlocks
  have hw : zH base D cA s H locs ad ty I L P := ⟨hw1, hS⟩
  rw [← (zlt_nat hi).1, ← (zlt_nat hj).1] at c3
  have zc3 := zoU_z c3
  refine lv_iload_n hx hb dX6_cable_21 rfl (lv_at hl 3 rfl) ?_
  refine lv_iconst (v := 1) hx hb dX6_cable_22 (by decide) ?_
  refine lv_bipush (v := 8) hx hb dX6_cable_23 (by decide) ?_
  refine z_xcv (z_xrunS (As := [.int k, .int 1, .int 8]) (rest := []) M hw.2 zc_X6_51 zn_X6_51 (c_X6_checkRange l base D cA ad ty I L P hl0 k 1 8) hw.1 rfl rfl ⟨Nat.le_of_ble_eq_true rfl, Nat.le_of_ble_eq_true rfl⟩ ⟨Nat.le_of_ble_eq_true rfl, Nat.le_of_ble_eq_true rfl⟩ hl.1 (Nat.le_of_ble_eq_true rfl) dX6_cable_25) hw.2 (fun c4 ce q H locs hw0 hS hq hv hcl => ?_) (fun c4 H locs hw1 hS => ?_)
  · exact z_xout c4 (by (try unfold zsq); (try first | rw [if_pos c1] | rw [if_neg c1]); (try first | rw [if_pos c2] | rw [if_neg c2]); (try first | rw [if_pos c3] | rw [if_neg c3]); (try first | rw [if_pos c4] | rw [if_neg c4]); (try first | rfl | assumption)) hw0 hS hq hv hcl hout (Nat.le_of_ble_eq_true rfl) (Nat.le_of_ble_eq_true rfl) hlocks
  have hw : zH base D cA s H locs ad ty I L P := ⟨hw1, hS⟩
  have zc4 := zo2_z c4
  refine lv_iload hx hb dX6_cable_28 (lv_at hl 4 rfl) ?_
  refine lv_iconst (v := 1) hx hb dX6_cable_30 (by decide) ?_
  refine lv_sipush (v := 500) hx hb dX6_cable_31 (by decide) ?_
  refine z_xcv (z_xrunS (As := [.int x, .int 1, .int 500]) (rest := []) M hw.2 zc_X6_51 zn_X6_51 (c_X6_checkRange l base D cA ad ty I L P hl0 x 1 500) hw.1 rfl rfl ⟨Nat.le_of_ble_eq_true rfl, Nat.le_of_ble_eq_true rfl⟩ ⟨Nat.le_of_ble_eq_true rfl, Nat.le_of_ble_eq_true rfl⟩ hl.1 (Nat.le_of_ble_eq_true rfl) dX6_cable_34) hw.2 (fun c5 ce q H locs hw0 hS hq hv hcl => ?_) (fun c5 H locs hw1 hS => ?_)
  · exact z_xout c5 (by (try unfold zsq); (try first | rw [if_pos c1] | rw [if_neg c1]); (try first | rw [if_pos c2] | rw [if_neg c2]); (try first | rw [if_pos c3] | rw [if_neg c3]); (try first | rw [if_pos c4] | rw [if_neg c4]); (try first | rw [if_pos c5] | rw [if_neg c5]); (try first | rfl | assumption)) hw0 hS hq hv hcl hout (Nat.le_of_ble_eq_true rfl) (Nat.le_of_ble_eq_true rfl) hlocks
  have hw : zH base D cA s H locs ad ty I L P := ⟨hw1, hS⟩
  have zc5 := zo2_z c5
  refine lv_iload hx hb dX6_cable_37 (lv_at hl 5 rfl) ?_
  refine lv_iconst (v := 0) hx hb dX6_cable_39 (by decide) ?_
  refine lv_sipush (v := 9999) hx hb dX6_cable_40 (by decide) ?_
  refine z_xcv (z_xrunS (As := [.int y, .int 0, .int 9999]) (rest := []) M hw.2 zc_X6_51 zn_X6_51 (c_X6_checkRange l base D cA ad ty I L P hl0 y 0 9999) hw.1 rfl rfl ⟨Nat.le_of_ble_eq_true rfl, Nat.le_of_ble_eq_true rfl⟩ ⟨Nat.le_of_ble_eq_true rfl, Nat.le_of_ble_eq_true rfl⟩ hl.1 (Nat.le_of_ble_eq_true rfl) dX6_cable_43) hw.2 (fun c6 ce q H locs hw0 hS hq hv hcl => ?_) (fun c6 H locs hw1 hS => ?_)
  · exact z_xout c6 (by (try unfold zsq); (try first | rw [if_pos c1] | rw [if_neg c1]); (try first | rw [if_pos c2] | rw [if_neg c2]); (try first | rw [if_pos c3] | rw [if_neg c3]); (try first | rw [if_pos c4] | rw [if_neg c4]); (try first | rw [if_pos c5] | rw [if_neg c5]); (try first | rw [if_pos c6] | rw [if_neg c6]); (try first | rfl | assumption)) hw0 hS hq hv hcl hout (Nat.le_of_ble_eq_true rfl) (Nat.le_of_ble_eq_true rfl) hlocks
  have hw : zH base D cA s H locs ad ty I L P := ⟨hw1, hS⟩
  have zc6 := zo2_z c6
  refine lv_aload_n hx hb dX6_cable_46 rfl (lv_at hl 0 rfl) ?_
  refine z_getr M hw (zc_t0 hC) zf_X6_22 (zc_p02 hC) dX6_cable_47 ?_
  refine z_geti M hw (zc_t1 hC) zf_X6_67 dX6_cable_50 ?_
  refine z_topi (y := nI nc) hI.1.2.1 ?_
  refine lv_bipush (v := 16) hx hb dX6_cable_53 (by decide) ?_
  refine z_xcv (z_xrunS (As := [.int (nI nc), .int 16]) (rest := []) M hw.2 zc_X6_55 zn_X6_55 (c_X6_checkRoom l base D cA ad ty I L P hl0 (nI nc) 16) hw.1 rfl rfl ⟨Nat.le_of_ble_eq_true rfl, Nat.le_of_ble_eq_true rfl⟩ ⟨Nat.le_of_ble_eq_true rfl, Nat.le_of_ble_eq_true rfl⟩ hl.1 (Nat.le_of_ble_eq_true rfl) dX6_cable_55) hw.2 (fun c7 ce q H locs hw0 hS hq hv hcl => ?_) (fun c7 H locs hw1 hS => ?_)
  · exact z_xout c7 (by (try unfold zsq); (try first | rw [if_pos c1] | rw [if_neg c1]); (try first | rw [if_pos c2] | rw [if_neg c2]); (try first | rw [if_pos c3] | rw [if_neg c3]); (try first | rw [if_pos c4] | rw [if_neg c4]); (try first | rw [if_pos c5] | rw [if_neg c5]); (try first | rw [if_pos c6] | rw [if_neg c6]); (try first | rw [if_pos c7] | rw [if_neg c7]); (try first | rfl | assumption)) hw0 hS hq hv hcl hout (Nat.le_of_ble_eq_true rfl) (Nat.le_of_ble_eq_true rfl) hlocks
  have hw : zH base D cA s H locs ad ty I L P := ⟨hw1, hS⟩
  have zc7 := zo3_z c7
  have hroom : nc < 16 := z_ltn (show nI nc < nI 16 from zc7) (by omega) (by omega)
  refine lv_aload_n hx hb dX6_cable_58 rfl (lv_at hl 0 rfl) ?_
  refine lv_iconst (v := 1) hx hb dX6_cable_59 (by decide) ?_
  refine z_puti M hw (zc_t0 hC) zf_X6_44 (Or.inl rfl) rfl rfl dX6_cable_60 (fun H locs hw => ?_)
  refine lv_aload_n hx hb dX6_cable_63 rfl (lv_at hl 0 rfl) ?_
  refine z_getr M hw (zc_t0 hC) zf_X6_22 (zc_p02 hC) dX6_cable_64 ?_
  refine z_new (ci := 0) M hw (32 + nc) (hfr hroom) (by decide) (tb 244 (by decide +kernel)) (tb 245 (by decide +kernel)) (tb 10 (by decide +kernel)) (Nat.le_of_ble_eq_true rfl) (Nat.le_of_ble_eq_true rfl) dX6_cable_67 (fun a8 H hw => ?_)
  obtain ⟨ad8, had8⟩ : ∃ z, z = zs ad (32 + nc) a8 := ⟨_, rfl⟩
  rw [← had8] at hw ⊢
  have ea9 : ad 0 = ad8 0 := by rw [had8, zs_ne _ _ (by omega)]
  have ea10 : ad 1 = ad8 1 := by rw [had8, zs_ne _ _ (by omega)]
  rw [ea9] at hl
  refine W.eq (g2 := F0 m 70 ls [.ref (ad8 (32 + nc)), .ref (ad8 1)]) (by rw [ea10]) ?_
  have hag8 : ∀ κ t, ty κ = some t → ad8 κ = ad κ := fun κ t h => (show ad8 κ = ad κ by rw [had8]; exact zs_ne _ _ (fun e => by rw [e] at h; exact absurd (h.symm.trans (hfr hroom)) (by simp)))
  refine lv_dup hx hb dX6_cable_70 rfl ?_
  refine lv_iload_n hx hb dX6_cable_71 rfl (lv_at hl 1 rfl) ?_
  refine lv_iload_n hx hb dX6_cable_72 rfl (lv_at hl 2 rfl) ?_
  refine lv_iload_n hx hb dX6_cable_73 rfl (lv_at hl 3 rfl) ?_
  refine lv_iload hx hb dX6_cable_74 (lv_at hl 4 rfl) ?_
  refine lv_iload hx hb dX6_cable_76 (lv_at hl 5 rfl) ?_
  refine z_cv0 (z_runI (As := [.int (nI i.toNatClampNeg), .int (nI j.toNatClampNeg), .int k, .int x, .int y]) (rest := [.ref (ad8 (32 + nc)), .ref (ad8 1)]) M hw.2 zc_X6_72 (c_X0_init l base D cA ad8 (zs ty (32 + nc) (some (0, 0))) (zs (zu I 0 7 1) (32 + nc) (fun _ => 0)) (zs L (32 + nc) (fun _ => 0)) (zs P (32 + nc) (fun _ => none)) (32 + nc) 0 (zs_self _ _ _) (nI i.toNatClampNeg) (nI j.toNatClampNeg) k x y) hw.1 rfl rfl ⟨Nat.le_of_ble_eq_true rfl, Nat.le_of_ble_eq_true rfl⟩ ⟨Nat.le_of_ble_eq_true rfl, Nat.le_of_ble_eq_true rfl⟩ hl.1 (Nat.le_of_ble_eq_true rfl) dX6_cable_78) hw (fun H locs hw => ?_)
  refine z_ci0 (z_runV (As := [.ref (ad8 (32 + nc))]) (rest := []) M hw ((zs_ne _ _ (by omega)).trans (zc_t1 hC)) zc_X6_75 (c_X2_lay l base D cA ad8 (zs ty (32 + nc) (some (0, 0))) (zu (zu (zu (zu (zu (zu (zs (zu I 0 7 1) (32 + nc) (fun _ => 0)) (32 + nc) 5 0) (32 + nc) 0 (nI i.toNatClampNeg)) (32 + nc) 1 (nI j.toNatClampNeg)) (32 + nc) 2 k) (32 + nc) 3 x) (32 + nc) 4 y) (zs L (32 + nc) (fun _ => 0)) (zs P (32 + nc) (fun _ => none)) ni nc ns nt (zcls_mono (fun κ t h => (zs_ne _ _ (fun e => by rw [e] at h; exact absurd (h.symm.trans (hfr hroom)) (by simp))).trans h) (fun κ t h => zs_ne _ _ (fun e => by rw [e] at h; exact absurd (h.symm.trans (hfr hroom)) (by simp))) hC) (by rw [zu_ne _ _ (by omega), zu_ne _ _ (by omega), zu_ne _ _ (by omega), zu_ne _ _ (by omega), zu_ne _ _ (by omega), zu_ne _ _ (by omega), zs_ne _ _ (by omega), zu_ne _ _ (by omega)]; exact hI.1.2.1) hroom (zs_self _ _ _)) hw.1 rfl rfl ⟨Nat.le_of_ble_eq_true rfl, Nat.le_of_ble_eq_true rfl⟩ ⟨Nat.le_of_ble_eq_true rfl, Nat.le_of_ble_eq_true rfl⟩ hl.1 (Nat.le_of_ble_eq_true rfl) dX6_cable_81) hw (fun H locs hw => ?_)
  exact z_xiret hx hb hr ⟨rfl, (by (try unfold zsq); (try first | rw [if_pos c1] | rw [if_neg c1]); (try first | rw [if_pos c2] | rw [if_neg c2]); (try first | rw [if_pos c3] | rw [if_neg c3]); (try first | rw [if_pos c4] | rw [if_neg c4]); (try first | rw [if_pos c5] | rw [if_neg c5]); (try first | rw [if_pos c6] | rw [if_neg c6]); (try first | rw [if_pos c7] | rw [if_neg c7]); (try first | rfl | assumption))⟩ rfl hw.2 ⟨_, hag8, hw.1⟩ (Nat.le_of_ble_eq_true rfl) (Nat.le_of_ble_eq_true rfl) dX6_cable_84 hlocks
set_option maxHeartbeats 4000000 in
set_option maxRecDepth 100000 in
theorem c_X6_trader (l : Launch) (base : Nat) (D : zDD) (cA : Nat → ClassId) (ad : Nat → Nat) (ty : zTyp) (I : zIt) (L : zLt) (P : zPt) (hl0 : l.stackTraces = false) (ni nc ns nt : Nat) (hC : zcls ni nc ns nt ty P) (hI : zInv ni nc ns nt I) (hfr : nt < 12 → ty (64 + nt) = none) (hfo : nt < 12 → ty (80 + nt) = none) (hfr2 : nt < 12 → ty (96 + nt) = none) (i j k x y w : Int32) : zXi l base D cA yX6_trader cX6_trader 7 .int 7 112 13 84 [.ref (ad 0), .int i, .int j, .int k, .int x, .int y, .int w] (zW base D cA ad ty I L P) (zsq (zo1 i ni) (zsq (zo1 j ni) (zsq (zoU i j) (zsq (zo2 k 1 5000) (zsq (zo2 x 0 9999) (zsq (zo2 y 0 9999) (zsq (zo2 w 0 1000000) (zo3 (nI nt) 12)))))))) (nI nt) (fun H => ∃ ad2, (∀ κ t, ty κ = some t → ad2 κ = ad κ) ∧ zW base D cA ad2 (zs (zs (zs ty (64 + nt) (some (4, 0))) (80 + nt) (some (5, 0))) (96 + nt) (some (8, 9))) (zu (zu (zu (zu (zu (zu (zu (zu (zu (zu (zu (zu (zu (zu (zs (zs (zs I (64 + nt) (fun _ => 0)) (80 + nt) (fun _ => 0)) (96 + nt) (fun _ => 0)) (80 + nt) 1 (-1)) (80 + nt) 2 (-1)) (80 + nt) 3 (-1)) (64 + nt) 8 0) (64 + nt) 9 0) (64 + nt) 10 0) (64 + nt) 0 (nI i.toNatClampNeg)) (64 + nt) 1 (nI j.toNatClampNeg)) (64 + nt) 2 k) (64 + nt) 3 x) (64 + nt) 4 y) (64 + nt) 5 w) 0 6 (nI (nt + 1))) 0 7 1) (zu (zs (zs (zs L (64 + nt) (fun _ => 0)) (80 + nt) (fun _ => 0)) (96 + nt) (fun _ => 0)) (64 + nt) 7 0) (zu (zu (zu (zs (zs (zs P (64 + nt) (fun _ => none)) (80 + nt) (fun _ => none)) (96 + nt) (fun _ => none)) (80 + nt) 0 (some (96 + nt))) (64 + nt) 6 (some (80 + nt))) 5 nt (some (64 + nt))) H) := by
  refine z_xstart (by decide +kernel) (Nat.le_of_ble_eq_true rfl) fun p e s m below meth c ls M hP hS hl hr hlocks hnm hout => ?_
  have M : zM p s m c cX6_trader RX6 7 base D cA := M
  have hw : zH base D cA s s.heap [] ad ty I L P := ⟨hP, hS⟩
  obtain ⟨hx, hb, -⟩ := id M
  have hl : lv_has ls 7 [(0, .ref (ad 0)), (1, .int i), (2, .int j), (3, .int k), (4, .int x), (5, .int y), (6, .int w)] := hl
  obtain ⟨hb1, hb2, hb3, hb4⟩ := zc_b hC
  have hbb : nc ≤ 16 ∧ ns ≤ 4 ∧ nt ≤ 12 := ⟨hb2, hb3, hb4⟩
  refine lv_iload_n hx hb dX6_trader_0 rfl (lv_at hl 1 rfl) ?_
  refine lv_aload_n hx hb dX6_trader_1 rfl (lv_at hl 0 rfl) ?_
  refine z_geti M hw (zc_t0 hC) zf_X6_15 dX6_trader_2 ?_
  refine z_topi (y := nI ni) hI.1.1 ?_
  refine z_xcv (z_xrunS (As := [.int i, .int (nI ni)]) (rest := []) M hw.2 zc_X6_61 zn_X6_61 (c_X6_checkIndex l base D cA ad ty I L P hl0 i ni (by omega)) hw.1 rfl rfl ⟨Nat.le_of_ble_eq_true rfl, Nat.le_of_ble_eq_true rfl⟩ ⟨Nat.le_of_ble_eq_true rfl, Nat.le_of_ble_eq_true rfl⟩ hl.1 (Nat.le_of_ble_eq_true rfl) dX6_trader_5) hw.2 (fun c1 ce q H locs hw0 hS hq hv hcl => ?_) (fun c1 H locs hw1 hS => ?_)
  · exact z_xout c1 (by (try unfold zsq); (try first | rw [if_pos c1] | rw [if_neg c1]); (try first | rfl | assumption)) hw0 hS hq hv hcl hout (Nat.le_of_ble_eq_true rfl) (Nat.le_of_ble_eq_true rfl) hlocks
  have hw : zH base D cA s H locs ad ty I L P := ⟨hw1, hS⟩
  have hi := zo1_z c1
  have qi := (zlt_nat hi).2
  rw [(zlt_nat hi).1] at hl
  refine lv_iload_n hx hb dX6_trader_8 rfl (lv_at hl 2 rfl) ?_
  refine lv_aload_n hx hb dX6_trader_9 rfl (lv_at hl 0 rfl) ?_
  refine z_geti M hw (zc_t0 hC) zf_X6_15 dX6_trader_10 ?_
  refine z_topi (y := nI ni) hI.1.1 ?_
  refine z_xcv (z_xrunS (As := [.int j, .int (nI ni)]) (rest := []) M hw.2 zc_X6_61 zn_X6_61 (c_X6_checkIndex l base D cA ad ty I L P hl0 j ni (by omega)) hw.1 rfl rfl ⟨Nat.le_of_ble_eq_true rfl, Nat.le_of_ble_eq_true rfl⟩ ⟨Nat.le_of_ble_eq_true rfl, Nat.le_of_ble_eq_true rfl⟩ hl.1 (Nat.le_of_ble_eq_true rfl) dX6_trader_13) hw.2 (fun c2 ce q H locs hw0 hS hq hv hcl => ?_) (fun c2 H locs hw1 hS => ?_)
  · exact z_xout c2 (by (try unfold zsq); (try first | rw [if_pos c1] | rw [if_neg c1]); (try first | rw [if_pos c2] | rw [if_neg c2]); (try first | rfl | assumption)) hw0 hS hq hv hcl hout (Nat.le_of_ble_eq_true rfl) (Nat.le_of_ble_eq_true rfl) hlocks
  have hw : zH base D cA s H locs ad ty I L P := ⟨hw1, hS⟩
  have hj := zo1_z c2
  have qj := (zlt_nat hj).2
  rw [(zlt_nat hj).1] at hl
  refine lv_iload_n hx hb dX6_trader_16 rfl (lv_at hl 1 rfl) ?_
  refine lv_iload_n hx hb dX6_trader_17 rfl (lv_at hl 2 rfl) ?_
  refine z_xcv (z_xrunS (As := [.int (nI i.toNatClampNeg), .int (nI j.toNatClampNeg)]) (rest := []) M hw.2 zc_X6_64 zn_X6_64 (c_X6_checkUnlike l base D cA ad ty I L P hl0 (nI i.toNatClampNeg) (nI j.toNatClampNeg)) hw.1 rfl rfl ⟨Nat.le_of_ble_eq_true rfl, Nat.le_of_ble_eq_true rfl⟩ ⟨Nat.le_of_ble_eq_true rfl, Nat.le_of_ble_eq_true rfl⟩ hl.1 (Nat.le_of_ble_eq_true rfl) dX6_trader_18) hw.2 (fun c3 ce q H locs hw0 hS hq hv hcl => ?_) (fun c3 H locs hw1 hS => ?_)
  · exact z_xout c3 (by rw [← (zlt_nat hi).1, ← (zlt_nat hj).1] at c3; (try unfold zsq); (try first | rw [if_pos c1] | rw [if_neg c1]); (try first | rw [if_pos c2] | rw [if_neg c2]); (try first | rw [if_pos c3] | rw [if_neg c3]); (rw [← (zlt_nat hi).1, ← (zlt_nat hj).1])) hw0 hS hq hv hcl hout (Nat.le_of_ble_eq_true rfl) (Nat.le_of_ble_eq_true rfl) hlocks
  have hw : zH base D cA s H locs ad ty I L P := ⟨hw1, hS⟩
  rw [← (zlt_nat hi).1, ← (zlt_nat hj).1] at c3
  have zc3 := zoU_z c3
  refine lv_iload_n hx hb dX6_trader_21 rfl (lv_at hl 3 rfl) ?_
  refine lv_iconst (v := 1) hx hb dX6_trader_22 (by decide) ?_
  refine lv_sipush (v := 5000) hx hb dX6_trader_23 (by decide) ?_
  refine z_xcv (z_xrunS (As := [.int k, .int 1, .int 5000]) (rest := []) M hw.2 zc_X6_51 zn_X6_51 (c_X6_checkRange l base D cA ad ty I L P hl0 k 1 5000) hw.1 rfl rfl ⟨Nat.le_of_ble_eq_true rfl, Nat.le_of_ble_eq_true rfl⟩ ⟨Nat.le_of_ble_eq_true rfl, Nat.le_of_ble_eq_true rfl⟩ hl.1 (Nat.le_of_ble_eq_true rfl) dX6_trader_26) hw.2 (fun c4 ce q H locs hw0 hS hq hv hcl => ?_) (fun c4 H locs hw1 hS => ?_)
  · exact z_xout c4 (by (try unfold zsq); (try first | rw [if_pos c1] | rw [if_neg c1]); (try first | rw [if_pos c2] | rw [if_neg c2]); (try first | rw [if_pos c3] | rw [if_neg c3]); (try first | rw [if_pos c4] | rw [if_neg c4]); (try first | rfl | assumption)) hw0 hS hq hv hcl hout (Nat.le_of_ble_eq_true rfl) (Nat.le_of_ble_eq_true rfl) hlocks
  have hw : zH base D cA s H locs ad ty I L P := ⟨hw1, hS⟩
  have zc4 := zo2_z c4
  refine lv_iload hx hb dX6_trader_29 (lv_at hl 4 rfl) ?_
  refine lv_iconst (v := 0) hx hb dX6_trader_31 (by decide) ?_
  refine lv_sipush (v := 9999) hx hb dX6_trader_32 (by decide) ?_
  refine z_xcv (z_xrunS (As := [.int x, .int 0, .int 9999]) (rest := []) M hw.2 zc_X6_51 zn_X6_51 (c_X6_checkRange l base D cA ad ty I L P hl0 x 0 9999) hw.1 rfl rfl ⟨Nat.le_of_ble_eq_true rfl, Nat.le_of_ble_eq_true rfl⟩ ⟨Nat.le_of_ble_eq_true rfl, Nat.le_of_ble_eq_true rfl⟩ hl.1 (Nat.le_of_ble_eq_true rfl) dX6_trader_35) hw.2 (fun c5 ce q H locs hw0 hS hq hv hcl => ?_) (fun c5 H locs hw1 hS => ?_)
  · exact z_xout c5 (by (try unfold zsq); (try first | rw [if_pos c1] | rw [if_neg c1]); (try first | rw [if_pos c2] | rw [if_neg c2]); (try first | rw [if_pos c3] | rw [if_neg c3]); (try first | rw [if_pos c4] | rw [if_neg c4]); (try first | rw [if_pos c5] | rw [if_neg c5]); (try first | rfl | assumption)) hw0 hS hq hv hcl hout (Nat.le_of_ble_eq_true rfl) (Nat.le_of_ble_eq_true rfl) hlocks
  have hw : zH base D cA s H locs ad ty I L P := ⟨hw1, hS⟩
  have zc5 := zo2_z c5
  refine lv_iload hx hb dX6_trader_38 (lv_at hl 5 rfl) ?_
  refine lv_iconst (v := 0) hx hb dX6_trader_40 (by decide) ?_
  refine lv_sipush (v := 9999) hx hb dX6_trader_41 (by decide) ?_
  refine z_xcv (z_xrunS (As := [.int y, .int 0, .int 9999]) (rest := []) M hw.2 zc_X6_51 zn_X6_51 (c_X6_checkRange l base D cA ad ty I L P hl0 y 0 9999) hw.1 rfl rfl ⟨Nat.le_of_ble_eq_true rfl, Nat.le_of_ble_eq_true rfl⟩ ⟨Nat.le_of_ble_eq_true rfl, Nat.le_of_ble_eq_true rfl⟩ hl.1 (Nat.le_of_ble_eq_true rfl) dX6_trader_44) hw.2 (fun c6 ce q H locs hw0 hS hq hv hcl => ?_) (fun c6 H locs hw1 hS => ?_)
  · exact z_xout c6 (by (try unfold zsq); (try first | rw [if_pos c1] | rw [if_neg c1]); (try first | rw [if_pos c2] | rw [if_neg c2]); (try first | rw [if_pos c3] | rw [if_neg c3]); (try first | rw [if_pos c4] | rw [if_neg c4]); (try first | rw [if_pos c5] | rw [if_neg c5]); (try first | rw [if_pos c6] | rw [if_neg c6]); (try first | rfl | assumption)) hw0 hS hq hv hcl hout (Nat.le_of_ble_eq_true rfl) (Nat.le_of_ble_eq_true rfl) hlocks
  have hw : zH base D cA s H locs ad ty I L P := ⟨hw1, hS⟩
  have zc6 := zo2_z c6
  refine lv_iload hx hb dX6_trader_47 (lv_at hl 6 rfl) ?_
  refine lv_iconst (v := 0) hx hb dX6_trader_49 (by decide) ?_
  refine lv_ldc (v := 1000000) hx hb M.2.2.2.1 (M.2.2.2.2.1.use (tb 414 (by decide +kernel)) rfl) dX6_trader_50 ?_
  refine z_xcv (z_xrunS (As := [.int w, .int 0, .int 1000000]) (rest := []) M hw.2 zc_X6_51 zn_X6_51 (c_X6_checkRange l base D cA ad ty I L P hl0 w 0 1000000) hw.1 rfl rfl ⟨Nat.le_of_ble_eq_true rfl, Nat.le_of_ble_eq_true rfl⟩ ⟨Nat.le_of_ble_eq_true rfl, Nat.le_of_ble_eq_true rfl⟩ hl.1 (Nat.le_of_ble_eq_true rfl) dX6_trader_52) hw.2 (fun c7 ce q H locs hw0 hS hq hv hcl => ?_) (fun c7 H locs hw1 hS => ?_)
  · exact z_xout c7 (by (try unfold zsq); (try first | rw [if_pos c1] | rw [if_neg c1]); (try first | rw [if_pos c2] | rw [if_neg c2]); (try first | rw [if_pos c3] | rw [if_neg c3]); (try first | rw [if_pos c4] | rw [if_neg c4]); (try first | rw [if_pos c5] | rw [if_neg c5]); (try first | rw [if_pos c6] | rw [if_neg c6]); (try first | rw [if_pos c7] | rw [if_neg c7]); (try first | rfl | assumption)) hw0 hS hq hv hcl hout (Nat.le_of_ble_eq_true rfl) (Nat.le_of_ble_eq_true rfl) hlocks
  have hw : zH base D cA s H locs ad ty I L P := ⟨hw1, hS⟩
  have zc7 := zo2_z c7
  refine lv_aload_n hx hb dX6_trader_55 rfl (lv_at hl 0 rfl) ?_
  refine z_geti M hw (zc_t0 hC) zf_X6_41 dX6_trader_56 ?_
  refine z_topi (y := nI nt) hI.1.2.2.2 ?_
  refine lv_bipush (v := 12) hx hb dX6_trader_59 (by decide) ?_
  refine z_xcv (z_xrunS (As := [.int (nI nt), .int 12]) (rest := []) M hw.2 zc_X6_55 zn_X6_55 (c_X6_checkRoom l base D cA ad ty I L P hl0 (nI nt) 12) hw.1 rfl rfl ⟨Nat.le_of_ble_eq_true rfl, Nat.le_of_ble_eq_true rfl⟩ ⟨Nat.le_of_ble_eq_true rfl, Nat.le_of_ble_eq_true rfl⟩ hl.1 (Nat.le_of_ble_eq_true rfl) dX6_trader_61) hw.2 (fun c8 ce q H locs hw0 hS hq hv hcl => ?_) (fun c8 H locs hw1 hS => ?_)
  · exact z_xout c8 (by (try unfold zsq); (try first | rw [if_pos c1] | rw [if_neg c1]); (try first | rw [if_pos c2] | rw [if_neg c2]); (try first | rw [if_pos c3] | rw [if_neg c3]); (try first | rw [if_pos c4] | rw [if_neg c4]); (try first | rw [if_pos c5] | rw [if_neg c5]); (try first | rw [if_pos c6] | rw [if_neg c6]); (try first | rw [if_pos c7] | rw [if_neg c7]); (try first | rw [if_pos c8] | rw [if_neg c8]); (try first | rfl | assumption)) hw0 hS hq hv hcl hout (Nat.le_of_ble_eq_true rfl) (Nat.le_of_ble_eq_true rfl) hlocks
  have hw : zH base D cA s H locs ad ty I L P := ⟨hw1, hS⟩
  have zc8 := zo3_z c8
  have hroom : nt < 12 := z_ltn (show nI nt < nI 12 from zc8) (by omega) (by omega)
  refine lv_aload_n hx hb dX6_trader_64 rfl (lv_at hl 0 rfl) ?_
  refine z_getr M hw (zc_t0 hC) zf_X6_37 (zc_p05 hC) dX6_trader_65 ?_
  refine lv_aload_n hx hb dX6_trader_68 rfl (lv_at hl 0 rfl) ?_
  refine z_geti M hw (zc_t0 hC) zf_X6_41 dX6_trader_69 ?_
  refine z_topi (y := nI nt) hI.1.2.2.2 ?_
  refine z_new (ci := 4) M hw (64 + nt) (hfr hroom) (by decide) (tb 59 (by decide +kernel)) (tb 415 (by decide +kernel)) (tb 13 (by decide +kernel)) (Nat.le_of_ble_eq_true rfl) (Nat.le_of_ble_eq_true rfl) dX6_trader_72 (fun a9 H hw => ?_)
  obtain ⟨ad9, had9⟩ : ∃ z, z = zs ad (64 + nt) a9 := ⟨_, rfl⟩
  rw [← had9] at hw ⊢
  have ea10 : ad 0 = ad9 0 := by rw [had9, zs_ne _ _ (by omega)]
  have ea11 : ad 5 = ad9 5 := by rw [had9, zs_ne _ _ (by omega)]
  rw [ea10] at hl
  refine W.eq (g2 := F0 m 75 ls [.ref (ad9 (64 + nt)), .int (nI nt), .ref (ad9 5)]) (by rw [ea11]) ?_
  have hag9 : ∀ κ t, ty κ = some t → ad9 κ = ad κ := fun κ t h => (show ad9 κ = ad κ by rw [had9]; exact zs_ne _ _ (fun e => by rw [e] at h; exact absurd (h.symm.trans (hfr hroom)) (by simp)))
  refine lv_dup hx hb dX6_trader_75 rfl ?_
  refine lv_iload_n hx hb dX6_trader_76 rfl (lv_at hl 1 rfl) ?_
  refine lv_iload_n hx hb dX6_trader_77 rfl (lv_at hl 2 rfl) ?_
  refine lv_iload_n hx hb dX6_trader_78 rfl (lv_at hl 3 rfl) ?_
  refine lv_iload hx hb dX6_trader_79 (lv_at hl 4 rfl) ?_
  refine lv_iload hx hb dX6_trader_81 (lv_at hl 5 rfl) ?_
  refine lv_iload hx hb dX6_trader_83 (lv_at hl 6 rfl) ?_
  refine z_cv (z_runI (As := [.int (nI i.toNatClampNeg), .int (nI j.toNatClampNeg), .int k, .int x, .int y, .int w]) (rest := [.ref (ad9 (64 + nt)), .int (nI nt), .ref (ad9 5)]) M hw.2 zc_X6_136 (c_X4_init l base D cA ad9 (zs ty (64 + nt) (some (4, 0))) (zs I (64 + nt) (fun _ => 0)) (zs L (64 + nt) (fun _ => 0)) (zs P (64 + nt) (fun _ => none)) (64 + nt) (80 + nt) (96 + nt) 0 (zs_self _ _ _) ((zs_ne _ _ (by omega)).trans (hfo hroom)) ((zs_ne _ _ (by omega)).trans (hfr2 hroom)) (by omega) (by omega) (by omega) (nI i.toNatClampNeg) (nI j.toNatClampNeg) k x y w) hw.1 rfl rfl ⟨Nat.le_of_ble_eq_true rfl, Nat.le_of_ble_eq_true rfl⟩ ⟨Nat.le_of_ble_eq_true rfl, Nat.le_of_ble_eq_true rfl⟩ hl.1 (Nat.le_of_ble_eq_true rfl) dX6_trader_85) hw.2 (fun H locs hw1 hS => ?_)
  obtain ⟨ad12, hagc12, hw2⟩ := hw1
  have ea13 : ad9 0 = ad12 0 := (hagc12 _ _ ((zs_ne _ _ (by omega)).trans (zc_t0 hC))).symm
  have ea14 : ad9 (64 + nt) = ad12 (64 + nt) := (hagc12 _ _ (zs_self _ _ _)).symm
  have ea15 : ad9 5 = ad12 5 := (hagc12 _ _ ((zs_ne _ _ (by omega)).trans (zc_t5 hC))).symm
  rw [ea13] at hl
  have hw : zH base D cA s H locs ad12 (zs (zs (zs ty (64 + nt) (some (4, 0))) (80 + nt) (some (5, 0))) (96 + nt) (some (8, 9))) (zu (zu (zu (zu (zu (zu (zu (zu (zu (zu (zu (zu (zs (zs (zs I (64 + nt) (fun _ => 0)) (80 + nt) (fun _ => 0)) (96 + nt) (fun _ => 0)) (80 + nt) 1 (-1)) (80 + nt) 2 (-1)) (80 + nt) 3 (-1)) (64 + nt) 8 0) (64 + nt) 9 0) (64 + nt) 10 0) (64 + nt) 0 (nI i.toNatClampNeg)) (64 + nt) 1 (nI j.toNatClampNeg)) (64 + nt) 2 k) (64 + nt) 3 x) (64 + nt) 4 y) (64 + nt) 5 w) (zu (zs (zs (zs L (64 + nt) (fun _ => 0)) (80 + nt) (fun _ => 0)) (96 + nt) (fun _ => 0)) (64 + nt) 7 0) (zu (zu (zs (zs (zs P (64 + nt) (fun _ => none)) (80 + nt) (fun _ => none)) (96 + nt) (fun _ => none)) (80 + nt) 0 (some (96 + nt))) (64 + nt) 6 (some (80 + nt))) := ⟨hw2, hS⟩
  refine W.eq (g2 := F0 m _ ls [.ref (ad12 (64 + nt)), .int (nI nt), .ref (ad12 5)]) (by rw [ea14, ea15]) ?_
  have hag12 : ∀ κ t, ty κ = some t → ad12 κ = ad κ := fun κ t h => (hagc12 κ t ((zs_ne _ _ (fun e => by rw [e] at h; exact absurd (h.symm.trans (hfr hroom)) (by simp))).trans h)).trans (hag9 κ t h)
  refine z_aNast M hw (e9 := 6) ((zs_ne _ _ (by omega)).trans ((zs_ne _ _ (by omega)).trans ((zs_ne _ _ (by omega)).trans (zc_t5 hC)))) (by decide) ((zs_ne _ _ (by omega)).trans ((zs_ne _ _ (by omega)).trans (zs_self _ _ _))) ⟨by decide, rfl⟩ rfl ⟨by omega, by omega⟩ dX6_trader_88 (fun H locs hw => ?_)
  refine lv_aload_n hx hb dX6_trader_89 rfl (lv_at hl 0 rfl) ?_
  refine lv_dup hx hb dX6_trader_90 rfl ?_
  refine z_geti M hw ((zs_ne _ _ (by omega)).trans ((zs_ne _ _ (by omega)).trans ((zs_ne _ _ (by omega)).trans (zc_t0 hC)))) zf_X6_41 dX6_trader_91 ?_
  refine z_topi (y := I 0 6) (by rw [zu_ne _ _ (by omega), zu_ne _ _ (by omega), zu_ne _ _ (by omega), zu_ne _ _ (by omega), zu_ne _ _ (by omega), zu_ne _ _ (by omega), zu_ne _ _ (by omega), zu_ne _ _ (by omega), zu_ne _ _ (by omega), zu_ne _ _ (by omega), zu_ne _ _ (by omega), zu_ne _ _ (by omega), zs_ne _ _ (by omega), zs_ne _ _ (by omega), zs_ne _ _ (by omega)]) ?_
  refine z_topi (y := nI nt) hI.1.2.2.2 ?_
  refine lv_iconst (v := 1) hx hb dX6_trader_94 (by decide) ?_
  refine lv_iadd hx hb dX6_trader_95 ?_
  refine z_puti M hw ((zs_ne _ _ (by omega)).trans ((zs_ne _ _ (by omega)).trans ((zs_ne _ _ (by omega)).trans (zc_t0 hC)))) zf_X6_41 (Or.inl rfl) rfl rfl dX6_trader_96 (fun H locs hw => ?_)
  refine lv_aload_n hx hb dX6_trader_99 rfl (lv_at hl 0 rfl) ?_
  refine lv_iconst (v := 1) hx hb dX6_trader_100 (by decide) ?_
  refine z_puti M hw ((zs_ne _ _ (by omega)).trans ((zs_ne _ _ (by omega)).trans ((zs_ne _ _ (by omega)).trans (zc_t0 hC)))) zf_X6_44 (Or.inl rfl) rfl rfl dX6_trader_101 (fun H locs hw => ?_)
  refine lv_aload_n hx hb dX6_trader_104 rfl (lv_at hl 0 rfl) ?_
  refine z_geti M hw ((zs_ne _ _ (by omega)).trans ((zs_ne _ _ (by omega)).trans ((zs_ne _ _ (by omega)).trans (zc_t0 hC)))) zf_X6_41 dX6_trader_105 ?_
  refine z_topi (y := (nI nt) + 1) (by rw [zu_ne _ _ (by omega), zu_self]) ?_
  refine lv_iconst (v := 1) hx hb dX6_trader_108 (by decide) ?_
  refine lv_isub hx hb dX6_trader_109 ?_
  exact z_xiret hx hb hr ⟨(by rw [← nI_succ, nI_pred]), (by (try unfold zsq); (try first | rw [if_pos c1] | rw [if_neg c1]); (try first | rw [if_pos c2] | rw [if_neg c2]); (try first | rw [if_pos c3] | rw [if_neg c3]); (try first | rw [if_pos c4] | rw [if_neg c4]); (try first | rw [if_pos c5] | rw [if_neg c5]); (try first | rw [if_pos c6] | rw [if_neg c6]); (try first | rw [if_pos c7] | rw [if_neg c7]); (try first | rw [if_pos c8] | rw [if_neg c8]); (try first | rfl | assumption))⟩ rfl hw.2 ⟨_, hag12, (by rw [← nI_succ] at hw; exact hw.1)⟩ (Nat.le_of_ble_eq_true rfl) (Nat.le_of_ble_eq_true rfl) dX6_trader_110 hlocks
