set_option maxHeartbeats 4000000 in
set_option maxRecDepth 100000 in
theorem c_X6_home (l : Launch) (base : Nat) (D : zDD) (cA : Nat → ClassId) (ad : Nat → Nat) (ty : zTyp) (I : zIt) (L : zLt) (P : zPt) (hl0 : l.stackTraces = false) (ni nc ns nt : Nat) (hC : zcls ni nc ns nt ty P) (hI : zInv ni nc ns nt I) (i j : Int32) : zXi l base D cA yX6_home cX6_home 3 .int 7 111 3 18 [.ref (ad 0), .int i, .int j] (zW base D cA ad ty I L P) (zoH I ni ns i j) (zHours ((zAim I (48 + i.toNatClampNeg) (-1) (-1)) (48 + i.toNatClampNeg) 1) ((zAim I (48 + i.toNatClampNeg) (-1) (-1)) (48 + i.toNatClampNeg) 2) ((zAim I (48 + i.toNatClampNeg) (-1) (-1)) (48 + i.toNatClampNeg) 0) (I (16 + j.toNatClampNeg) 0) (I (16 + j.toNatClampNeg) 1)) (zW base D cA ad ty (zSet (zAim I (48 + i.toNatClampNeg) (-1) (-1)) (48 + i.toNatClampNeg) (I (16 + j.toNatClampNeg) 0) (I (16 + j.toNatClampNeg) 1)) L P) := by
  refine z_xstart (by decide +kernel) (Nat.le_of_ble_eq_true rfl) fun p e s m below meth c ls M hP hS hl hr hlocks hnm hout => ?_
  have M : zM p s m c cX6_home RX6 3 base D cA := M
  have hw : zH base D cA s s.heap [] ad ty I L P := ⟨hP, hS⟩
  obtain ⟨hx, hb, -⟩ := id M
  have hl : lv_has ls 3 [(0, .ref (ad 0)), (1, .int i), (2, .int j)] := hl
  obtain ⟨hb1, hb2, hb3, hb4⟩ := zc_b hC
  have hbb : nc ≤ 16 ∧ ns ≤ 4 ∧ nt ≤ 12 := ⟨hb2, hb3, hb4⟩
  refine lv_iload_n hx hb dX6_home_0 rfl (lv_at hl 1 rfl) ?_
  refine lv_aload_n hx hb dX6_home_1 rfl (lv_at hl 0 rfl) ?_
  refine z_geti M hw (zc_t0 hC) zf_X6_32 dX6_home_2 ?_
  refine z_topi (y := nI ns) hI.1.2.2.1 ?_
  refine z_xcv (z_xrunS (As := [.int i, .int (nI ns)]) (rest := []) M hw.2 zc_X6_61 zn_X6_61 (c_X6_checkIndex l base D cA ad ty I L P hl0 i ns (by omega)) hw.1 rfl rfl ⟨Nat.le_of_ble_eq_true rfl, Nat.le_of_ble_eq_true rfl⟩ ⟨Nat.le_of_ble_eq_true rfl, Nat.le_of_ble_eq_true rfl⟩ hl.1 (Nat.le_of_ble_eq_true rfl) dX6_home_5) hw.2 (fun c1 ce q H locs hw0 hS hq hv hcl => ?_) (fun c1 H locs hw1 hS => ?_)
  · exact z_xout c1 (by unfold zoH; (try unfold zsq); (try first | rw [if_pos c1] | rw [if_neg c1]); (try first | rfl | assumption)) hw0 hS hq hv hcl hout (Nat.le_of_ble_eq_true rfl) (Nat.le_of_ble_eq_true rfl) hlocks
  have hw : zH base D cA s H locs ad ty I L P := ⟨hw1, hS⟩
  have hi := zo1_z c1
  have qi := (zlt_nat hi).2
  rw [(zlt_nat hi).1] at hl
  refine lv_iload_n hx hb dX6_home_8 rfl (lv_at hl 2 rfl) ?_
  refine lv_aload_n hx hb dX6_home_9 rfl (lv_at hl 0 rfl) ?_
  refine z_geti M hw (zc_t0 hC) zf_X6_15 dX6_home_10 ?_
  refine z_topi (y := nI ni) hI.1.1 ?_
  refine z_xcv (z_xrunS (As := [.int j, .int (nI ni)]) (rest := []) M hw.2 zc_X6_61 zn_X6_61 (c_X6_checkIndex l base D cA ad ty I L P hl0 j ni (by omega)) hw.1 rfl rfl ⟨Nat.le_of_ble_eq_true rfl, Nat.le_of_ble_eq_true rfl⟩ ⟨Nat.le_of_ble_eq_true rfl, Nat.le_of_ble_eq_true rfl⟩ hl.1 (Nat.le_of_ble_eq_true rfl) dX6_home_13) hw.2 (fun c2 ce q H locs hw0 hS hq hv hcl => ?_) (fun c2 H locs hw1 hS => ?_)
  · exact z_xout c2 (by unfold zoH; (try unfold zsq); (try first | rw [if_pos c1] | rw [if_neg c1]); (try first | rw [if_pos c2] | rw [if_neg c2]); (try first | rfl | assumption)) hw0 hS hq hv hcl hout (Nat.le_of_ble_eq_true rfl) (Nat.le_of_ble_eq_true rfl) hlocks
  have hw : zH base D cA s H locs ad ty I L P := ⟨hw1, hS⟩
  have hj := zo1_z c2
  have qj := (zlt_nat hj).2
  rw [(zlt_nat hj).1] at hl
  refine lv_aload_n hx hb dX6_home_16 rfl (lv_at hl 0 rfl) ?_
  refine z_getr M hw (zc_t0 hC) zf_X6_28 (zc_p03 hC) dX6_home_17 ?_
  refine lv_iload_n hx hb dX6_home_20 rfl (lv_at hl 1 rfl) ?_
  refine z_aNald M hw (e9 := 5) (zc_t4 hC) ⟨by decide, rfl⟩ rfl ⟨by omega, by omega⟩ (zc_pS hC (by omega)) dX6_home_21 ?_
  refine z_xcv (z_xrunS (As := [.ref (ad (48 + i.toNatClampNeg))]) (rest := []) M hw.2 zc_X6_112 zn_X6_112 (c_X6_checkIdle l base D cA ad ty I L P hl0 (48 + i.toNatClampNeg) 0 (zc_tS hC (by omega))) hw.1 rfl rfl ⟨Nat.le_of_ble_eq_true rfl, Nat.le_of_ble_eq_true rfl⟩ ⟨Nat.le_of_ble_eq_true rfl, Nat.le_of_ble_eq_true rfl⟩ hl.1 (Nat.le_of_ble_eq_true rfl) dX6_home_22) hw.2 (fun c3 ce q H locs hw0 hS hq hv hcl => ?_) (fun c3 H locs hw1 hS => ?_)
  · exact z_xout c3 (by unfold zoH; (try unfold zsq); (try first | rw [if_pos c1] | rw [if_neg c1]); (try first | rw [if_pos c2] | rw [if_neg c2]); (try first | rw [if_pos c3] | rw [if_neg c3]); (try first | rfl | assumption)) hw0 hS hq hv hcl hout (Nat.le_of_ble_eq_true rfl) (Nat.le_of_ble_eq_true rfl) hlocks
  have hw : zH base D cA s H locs ad ty I L P := ⟨hw1, hS⟩
  have zc3 := zoI_z c3
  refine lv_aload_n hx hb dX6_home_25 rfl (lv_at hl 0 rfl) ?_
  refine z_getr M hw (zc_t0 hC) zf_X6_28 (zc_p03 hC) dX6_home_26 ?_
  refine lv_iload_n hx hb dX6_home_29 rfl (lv_at hl 1 rfl) ?_
  refine z_aNald M hw (e9 := 5) (zc_t4 hC) ⟨by decide, rfl⟩ rfl ⟨by omega, by omega⟩ (zc_pS hC (by omega)) dX6_home_30 ?_
  refine lv_iconst (v := (-1)) hx hb dX6_home_31 (by decide) ?_
  refine lv_iconst (v := (-1)) hx hb dX6_home_32 (by decide) ?_
  refine z_cv0 (z_runV (As := [.int (-1), .int (-1)]) (rest := []) M hw (zc_tS hC (by omega)) zc_X6_124 (c_X3_aimAt l base D cA ad ty I L P (48 + i.toNatClampNeg) 0 (zc_tS hC (by omega)) (-1) (-1)) hw.1 rfl rfl ⟨Nat.le_of_ble_eq_true rfl, Nat.le_of_ble_eq_true rfl⟩ ⟨Nat.le_of_ble_eq_true rfl, Nat.le_of_ble_eq_true rfl⟩ hl.1 (Nat.le_of_ble_eq_true rfl) dX6_home_33) hw (fun H locs hw => ?_)
  have hw : zH base D cA s H locs ad ty (zAim I (48 + i.toNatClampNeg) (-1) (-1)) L P := hw
  refine lv_aload_n hx hb dX6_home_36 rfl (lv_at hl 0 rfl) ?_
  refine lv_aload_n hx hb dX6_home_37 rfl (lv_at hl 0 rfl) ?_
  refine z_getr M hw (zc_t0 hC) zf_X6_28 (zc_p03 hC) dX6_home_38 ?_
  refine lv_iload_n hx hb dX6_home_41 rfl (lv_at hl 1 rfl) ?_
  refine z_aNald M hw (e9 := 5) (zc_t4 hC) ⟨by decide, rfl⟩ rfl ⟨by omega, by omega⟩ (zc_pS hC (by omega)) dX6_home_42 ?_
  refine lv_aload_n hx hb dX6_home_43 rfl (lv_at hl 0 rfl) ?_
  refine z_getr M hw (zc_t0 hC) zf_X6_11 (zc_p00 hC) dX6_home_44 ?_
  refine lv_iload_n hx hb dX6_home_47 rfl (lv_at hl 2 rfl) ?_
  refine z_aNald M hw (e9 := 4) (zc_t2 hC) ⟨by decide, rfl⟩ rfl ⟨by omega, by omega⟩ (zc_pI hC (by omega)) dX6_home_48 ?_
  refine z_geti M hw (zc_tI hC (by omega)) zf_X6_104 dX6_home_49 ?_
  refine z_topi (y := I (16 + j.toNatClampNeg) 0) (by rw [zAim_ne (by omega)]) ?_
  refine lv_aload_n hx hb dX6_home_52 rfl (lv_at hl 0 rfl) ?_
  refine z_getr M hw (zc_t0 hC) zf_X6_11 (zc_p00 hC) dX6_home_53 ?_
  refine lv_iload_n hx hb dX6_home_56 rfl (lv_at hl 2 rfl) ?_
  refine z_aNald M hw (e9 := 4) (zc_t2 hC) ⟨by decide, rfl⟩ rfl ⟨by omega, by omega⟩ (zc_pI hC (by omega)) dX6_home_57 ?_
  refine z_geti M hw (zc_tI hC (by omega)) zf_X6_107 dX6_home_58 ?_
  refine z_topi (y := I (16 + j.toNatClampNeg) 1) (by rw [zAim_ne (by omega)]) ?_
  refine z_ci0 (z_runV (As := [.ref (ad (48 + i.toNatClampNeg)), .int (I (16 + j.toNatClampNeg) 0), .int (I (16 + j.toNatClampNeg) 1)]) (rest := []) M hw (zc_t0 hC) zc_X6_131 (c_X6_setOff l base D cA ad ty (zAim I (48 + i.toNatClampNeg) (-1) (-1)) L P ni nc ns nt hC i.toNatClampNeg qi (Or.inl zAim_5) (zNfo_c (zAim_ne (by omega)) hI.2.1).1 (zNfo_c (zAim_ne (by omega)) hI.2.1).2 (I (16 + j.toNatClampNeg) 0) (I (16 + j.toNatClampNeg) 1) (by rw [zAim_ne (by omega)]; exact zsp0 hI qi)) hw.1 rfl rfl ⟨Nat.le_of_ble_eq_true rfl, Nat.le_of_ble_eq_true rfl⟩ ⟨Nat.le_of_ble_eq_true rfl, Nat.le_of_ble_eq_true rfl⟩ hl.1 (Nat.le_of_ble_eq_true rfl) dX6_home_61) hw (fun H locs hw => ?_)
  exact z_xiret hx hb hr ⟨rfl, (by unfold zoH; (try unfold zsq); (try first | rw [if_pos c1] | rw [if_neg c1]); (try first | rw [if_pos c2] | rw [if_neg c2]); (try first | rw [if_pos c3] | rw [if_neg c3]); (try first | rfl | assumption))⟩ rfl hw.2 hw.1 (Nat.le_of_ble_eq_true rfl) (Nat.le_of_ble_eq_true rfl) dX6_home_64 hlocks
set_option maxHeartbeats 4000000 in
set_option maxRecDepth 100000 in
theorem c_X6_send (l : Launch) (base : Nat) (D : zDD) (cA : Nat → ClassId) (ad : Nat → Nat) (ty : zTyp) (I : zIt) (L : zLt) (P : zPt) (hl0 : l.stackTraces = false) (ni nc ns nt : Nat) (hC : zcls ni nc ns nt ty P) (hI : zInv ni nc ns nt I) (i j k : Int32) (a b : Nat) (ha : zlt j nc → a < ni) (hb0 : zlt j nc → b < ni) (ea : zlt j nc → I (32 + j.toNatClampNeg) 0 = nI a) (eb : zlt j nc → I (32 + j.toNatClampNeg) 1 = nI b) : zXi l base D cA yX6_send cX6_send 7 .int 8 133 5 30 [.ref (ad 0), .int i, .int j, .int k] (zW base D cA ad ty I L P) (zoD I nc ns i j k) (zHours ((zAim I (48 + i.toNatClampNeg) (nI j.toNatClampNeg) k) (48 + i.toNatClampNeg) 1) ((zAim I (48 + i.toNatClampNeg) (nI j.toNatClampNeg) k) (48 + i.toNatClampNeg) 2) ((zAim I (48 + i.toNatClampNeg) (nI j.toNatClampNeg) k) (48 + i.toNatClampNeg) 0) (zPlace k (I (16 + a) 0) (I (16 + b) 0) (I (32 + j.toNatClampNeg) 2)) (zPlace k (I (16 + a) 1) (I (16 + b) 1) (I (32 + j.toNatClampNeg) 2))) (zW base D cA ad ty (zSet (zAim I (48 + i.toNatClampNeg) (nI j.toNatClampNeg) k) (48 + i.toNatClampNeg) (zPlace k (I (16 + a) 0) (I (16 + b) 0) (I (32 + j.toNatClampNeg) 2)) (zPlace k (I (16 + a) 1) (I (16 + b) 1) (I (32 + j.toNatClampNeg) 2))) L P) := by
  refine z_xstart (by decide +kernel) (Nat.le_of_ble_eq_true rfl) fun p e s m below meth c ls M hP hS hl hr hlocks hnm hout => ?_
  have M : zM p s m c cX6_send RX6 7 base D cA := M
  have hw : zH base D cA s s.heap [] ad ty I L P := ⟨hP, hS⟩
  obtain ⟨hx, hb, -⟩ := id M
  have hl : lv_has ls 7 [(0, .ref (ad 0)), (1, .int i), (2, .int j), (3, .int k)] := hl
  obtain ⟨hb1, hb2, hb3, hb4⟩ := zc_b hC
  have hbb : nc ≤ 16 ∧ ns ≤ 4 ∧ nt ≤ 12 := ⟨hb2, hb3, hb4⟩
  refine lv_iload_n hx hb dX6_send_0 rfl (lv_at hl 1 rfl) ?_
  refine lv_aload_n hx hb dX6_send_1 rfl (lv_at hl 0 rfl) ?_
  refine z_geti M hw (zc_t0 hC) zf_X6_32 dX6_send_2 ?_
  refine z_topi (y := nI ns) hI.1.2.2.1 ?_
  refine z_xcv (z_xrunS (As := [.int i, .int (nI ns)]) (rest := []) M hw.2 zc_X6_61 zn_X6_61 (c_X6_checkIndex l base D cA ad ty I L P hl0 i ns (by omega)) hw.1 rfl rfl ⟨Nat.le_of_ble_eq_true rfl, Nat.le_of_ble_eq_true rfl⟩ ⟨Nat.le_of_ble_eq_true rfl, Nat.le_of_ble_eq_true rfl⟩ hl.1 (Nat.le_of_ble_eq_true rfl) dX6_send_5) hw.2 (fun c1 ce q H locs hw0 hS hq hv hcl => ?_) (fun c1 H locs hw1 hS => ?_)
  · exact z_xout c1 (by unfold zoD; (try unfold zsq); (try first | rw [if_pos c1] | rw [if_neg c1]); (try first | rfl | assumption)) hw0 hS hq hv hcl hout (Nat.le_of_ble_eq_true rfl) (Nat.le_of_ble_eq_true rfl) hlocks
  have hw : zH base D cA s H locs ad ty I L P := ⟨hw1, hS⟩
  have hi := zo1_z c1
  have qi := (zlt_nat hi).2
  rw [(zlt_nat hi).1] at hl
  refine lv_aload_n hx hb dX6_send_8 rfl (lv_at hl 0 rfl) ?_
  refine lv_iload_n hx hb dX6_send_9 rfl (lv_at hl 2 rfl) ?_
  refine lv_iload_n hx hb dX6_send_10 rfl (lv_at hl 3 rfl) ?_
  refine z_xcv (z_xrunV (As := [.int j, .int k]) (rest := []) M hw (zc_t0 hC) zc_X6_86 zn_X6_86 (c_X6_checkSpan l base D cA ad ty I L P hl0 ni nc ns nt hC hI.1.2.1 (zInv_span hI) j k) hw.1 rfl rfl ⟨Nat.le_of_ble_eq_true rfl, Nat.le_of_ble_eq_true rfl⟩ ⟨Nat.le_of_ble_eq_true rfl, Nat.le_of_ble_eq_true rfl⟩ hl.1 (Nat.le_of_ble_eq_true rfl) dX6_send_11) hw.2 (fun c2 ce q H locs hw0 hS hq hv hcl => ?_) (fun c2 H locs hw1 hS => ?_)
  · exact z_xout c2 (by unfold zoD; (try unfold zsq); (try first | rw [if_pos c1] | rw [if_neg c1]); (try first | rw [if_pos c2] | rw [if_neg c2]); (try first | rfl | assumption)) hw0 hS hq hv hcl hout (Nat.le_of_ble_eq_true rfl) (Nat.le_of_ble_eq_true rfl) hlocks
  have hw : zH base D cA s H locs ad ty I L P := ⟨hw1, hS⟩
  have hj := (zoS_z c2).1
  have qj := (zlt_nat hj).2
  have hk := (zoS_z c2).2
  rw [(zlt_nat hj).1] at hl
  refine lv_aload_n hx hb dX6_send_14 rfl (lv_at hl 0 rfl) ?_
  refine z_getr M hw (zc_t0 hC) zf_X6_28 (zc_p03 hC) dX6_send_15 ?_
  refine lv_iload_n hx hb dX6_send_18 rfl (lv_at hl 1 rfl) ?_
  refine z_aNald M hw (e9 := 5) (zc_t4 hC) ⟨by decide, rfl⟩ rfl ⟨by omega, by omega⟩ (zc_pS hC (by omega)) dX6_send_19 ?_
  refine z_xcv (z_xrunS (As := [.ref (ad (48 + i.toNatClampNeg))]) (rest := []) M hw.2 zc_X6_112 zn_X6_112 (c_X6_checkIdle l base D cA ad ty I L P hl0 (48 + i.toNatClampNeg) 0 (zc_tS hC (by omega))) hw.1 rfl rfl ⟨Nat.le_of_ble_eq_true rfl, Nat.le_of_ble_eq_true rfl⟩ ⟨Nat.le_of_ble_eq_true rfl, Nat.le_of_ble_eq_true rfl⟩ hl.1 (Nat.le_of_ble_eq_true rfl) dX6_send_20) hw.2 (fun c3 ce q H locs hw0 hS hq hv hcl => ?_) (fun c3 H locs hw1 hS => ?_)
  · exact z_xout c3 (by unfold zoD; (try unfold zsq); (try first | rw [if_pos c1] | rw [if_neg c1]); (try first | rw [if_pos c2] | rw [if_neg c2]); (try first | rw [if_pos c3] | rw [if_neg c3]); (try first | rfl | assumption)) hw0 hS hq hv hcl hout (Nat.le_of_ble_eq_true rfl) (Nat.le_of_ble_eq_true rfl) hlocks
  have hw : zH base D cA s H locs ad ty I L P := ⟨hw1, hS⟩
  have zc3 := zoI_z c3
  refine lv_aload_n hx hb dX6_send_23 rfl (lv_at hl 0 rfl) ?_
  refine z_getr M hw (zc_t0 hC) zf_X6_22 (zc_p02 hC) dX6_send_24 ?_
  refine z_getr M hw (zc_t1 hC) zf_X6_79 (zc_p10 hC) dX6_send_27 ?_
  refine lv_iload_n hx hb dX6_send_30 rfl (lv_at hl 2 rfl) ?_
  refine z_aNald M hw (e9 := 3) (zc_t3 hC) ⟨by decide, rfl⟩ rfl ⟨by omega, by omega⟩ (zc_pC hC (by omega)) dX6_send_31 ?_
  refine lv_astore (lv' := [(4, .ref (ad (32 + j.toNatClampNeg))), (0, .ref (ad 0)), (1, .int (nI i.toNatClampNeg)), (2, .int (nI j.toNatClampNeg)), (3, .int k)]) hx hb dX6_send_32 hl (by decide) rfl (fun ls hl => ?_)
  refine lv_aload hx hb dX6_send_34 (lv_at hl 0 rfl) ?_
  refine lv_iload_n hx hb dX6_send_36 rfl (lv_at hl 4 rfl) ?_
  refine z_ci0 (z_runV (As := [.int k]) (rest := []) M hw (zc_tC hC (by omega)) zc_X6_89 (c_X0_hasFaultAt l base D cA ad ty I L P (32 + j.toNatClampNeg) 0 (zc_tC hC (by omega)) k) hw.1 rfl rfl ⟨Nat.le_of_ble_eq_true rfl, Nat.le_of_ble_eq_true rfl⟩ ⟨Nat.le_of_ble_eq_true rfl, Nat.le_of_ble_eq_true rfl⟩ hl.1 (Nat.le_of_ble_eq_true rfl) dX6_send_37) hw (fun H locs hw => ?_)
  refine lv_if_ne (tgt := 53) hx hb dX6_send_40 (by decide) (fun c4 => ?_) (fun c4 => ?_)
  · skip
    have c4 := zb_ne0.mp c4
    have ha9 := ha hj
    have hb9 := hb0 hj
    refine lv_aload_n hx hb dX6_send_53 rfl (lv_at hl 1 rfl) ?_
    refine z_getr M hw (zc_t0 hC) zf_X6_11 (zc_p00 hC) dX6_send_54 ?_
    refine lv_aload hx hb dX6_send_57 (lv_at hl 0 rfl) ?_
    refine z_geti M hw (zc_tC hC (by omega)) zf_X6_118 dX6_send_59 ?_
    refine z_topi (y := nI a) (ea hj) ?_
    refine z_aNald M hw (e9 := 4) (zc_t2 hC) ⟨by decide, rfl⟩ rfl ⟨by omega, by omega⟩ (zc_pI hC (by omega)) dX6_send_62 ?_
    refine lv_astore (lv' := [(5, .ref (ad (16 + a))), (4, .ref (ad (32 + j.toNatClampNeg))), (0, .ref (ad 0)), (1, .int (nI i.toNatClampNeg)), (2, .int (nI j.toNatClampNeg)), (3, .int k)]) hx hb dX6_send_63 hl (by decide) rfl (fun ls hl => ?_)
    refine lv_aload_n hx hb dX6_send_65 rfl (lv_at hl 2 rfl) ?_
    refine z_getr M hw (zc_t0 hC) zf_X6_11 (zc_p00 hC) dX6_send_66 ?_
    refine lv_aload hx hb dX6_send_69 (lv_at hl 1 rfl) ?_
    refine z_geti M hw (zc_tC hC (by omega)) zf_X6_121 dX6_send_71 ?_
    refine z_topi (y := nI b) (eb hj) ?_
    refine z_aNald M hw (e9 := 4) (zc_t2 hC) ⟨by decide, rfl⟩ rfl ⟨by omega, by omega⟩ (zc_pI hC (by omega)) dX6_send_74 ?_
    refine lv_astore (lv' := [(6, .ref (ad (16 + b))), (5, .ref (ad (16 + a))), (4, .ref (ad (32 + j.toNatClampNeg))), (0, .ref (ad 0)), (1, .int (nI i.toNatClampNeg)), (2, .int (nI j.toNatClampNeg)), (3, .int k)]) hx hb dX6_send_75 hl (by decide) rfl (fun ls hl => ?_)
    refine lv_aload_n hx hb dX6_send_77 rfl (lv_at hl 3 rfl) ?_
    refine z_getr M hw (zc_t0 hC) zf_X6_28 (zc_p03 hC) dX6_send_78 ?_
    refine lv_iload_n hx hb dX6_send_81 rfl (lv_at hl 4 rfl) ?_
    refine z_aNald M hw (e9 := 5) (zc_t4 hC) ⟨by decide, rfl⟩ rfl ⟨by omega, by omega⟩ (zc_pS hC (by omega)) dX6_send_82 ?_
    refine lv_iload_n hx hb dX6_send_83 rfl (lv_at hl 5 rfl) ?_
    refine lv_iload_n hx hb dX6_send_84 rfl (lv_at hl 6 rfl) ?_
    refine z_cv0 (z_runV (As := [.int (nI j.toNatClampNeg), .int k]) (rest := []) M hw (zc_tS hC (by omega)) zc_X6_124 (c_X3_aimAt l base D cA ad ty I L P (48 + i.toNatClampNeg) 0 (zc_tS hC (by omega)) (nI j.toNatClampNeg) k) hw.1 rfl rfl ⟨Nat.le_of_ble_eq_true rfl, Nat.le_of_ble_eq_true rfl⟩ ⟨Nat.le_of_ble_eq_true rfl, Nat.le_of_ble_eq_true rfl⟩ hl.1 (Nat.le_of_ble_eq_true rfl) dX6_send_85) hw (fun H locs hw => ?_)
    have hw : zH base D cA s H locs ad ty (zAim I (48 + i.toNatClampNeg) (nI j.toNatClampNeg) k) L P := hw
    refine lv_aload_n hx hb dX6_send_88 rfl (lv_at hl 3 rfl) ?_
    refine lv_aload_n hx hb dX6_send_89 rfl (lv_at hl 3 rfl) ?_
    refine z_getr M hw (zc_t0 hC) zf_X6_28 (zc_p03 hC) dX6_send_90 ?_
    refine lv_iload_n hx hb dX6_send_93 rfl (lv_at hl 4 rfl) ?_
    refine z_aNald M hw (e9 := 5) (zc_t4 hC) ⟨by decide, rfl⟩ rfl ⟨by omega, by omega⟩ (zc_pS hC (by omega)) dX6_send_94 ?_
    refine lv_aload hx hb dX6_send_95 (lv_at hl 2 rfl) ?_
    refine lv_iload_n hx hb dX6_send_97 rfl (lv_at hl 6 rfl) ?_
    refine lv_aload hx hb dX6_send_98 (lv_at hl 1 rfl) ?_
    refine z_geti M hw (zc_tI hC (by omega)) zf_X6_104 dX6_send_100 ?_
    refine z_topi (y := I (16 + a) 0) (by rw [zAim_ne (by omega)]) ?_
    refine lv_aload hx hb dX6_send_103 (lv_at hl 0 rfl) ?_
    refine z_geti M hw (zc_tI hC (by omega)) zf_X6_104 dX6_send_105 ?_
    refine z_topi (y := I (16 + b) 0) (by rw [zAim_ne (by omega)]) ?_
    refine z_ci0 (z_runV (As := [.int k, .int (I (16 + a) 0), .int (I (16 + b) 0)]) (rest := [.ref (ad (48 + i.toNatClampNeg)), .ref (ad 0)]) M hw (zc_tC hC (by omega)) zc_X6_127 (c_X0_placeOfSpan l base D cA ad ty (zAim I (48 + i.toNatClampNeg) (nI j.toNatClampNeg) k) L P (32 + j.toNatClampNeg) 0 (zc_tC hC (by omega)) k (I (16 + a) 0) (I (16 + b) 0) (by rw [zAim_ne (by omega)]; exact z2n hI qj)) hw.1 rfl rfl ⟨Nat.le_of_ble_eq_true rfl, Nat.le_of_ble_eq_true rfl⟩ ⟨Nat.le_of_ble_eq_true rfl, Nat.le_of_ble_eq_true rfl⟩ hl.1 (Nat.le_of_ble_eq_true rfl) dX6_send_108) hw (fun H locs hw => ?_)
    rw [zAim_ne (κ' := 32 + j.toNatClampNeg) (by omega)]
    refine lv_aload hx hb dX6_send_111 (lv_at hl 2 rfl) ?_
    refine lv_iload_n hx hb dX6_send_113 rfl (lv_at hl 6 rfl) ?_
    refine lv_aload hx hb dX6_send_114 (lv_at hl 1 rfl) ?_
    refine z_geti M hw (zc_tI hC (by omega)) zf_X6_107 dX6_send_116 ?_
    refine z_topi (y := I (16 + a) 1) (by rw [zAim_ne (by omega)]) ?_
    refine lv_aload hx hb dX6_send_119 (lv_at hl 0 rfl) ?_
    refine z_geti M hw (zc_tI hC (by omega)) zf_X6_107 dX6_send_121 ?_
    refine z_topi (y := I (16 + b) 1) (by rw [zAim_ne (by omega)]) ?_
    refine z_ci0 (z_runV (As := [.int k, .int (I (16 + a) 1), .int (I (16 + b) 1)]) (rest := [.int (zPlace k (I (16 + a) 0) (I (16 + b) 0) (I (32 + j.toNatClampNeg) 2)), .ref (ad (48 + i.toNatClampNeg)), .ref (ad 0)]) M hw (zc_tC hC (by omega)) zc_X6_127 (c_X0_placeOfSpan l base D cA ad ty (zAim I (48 + i.toNatClampNeg) (nI j.toNatClampNeg) k) L P (32 + j.toNatClampNeg) 0 (zc_tC hC (by omega)) k (I (16 + a) 1) (I (16 + b) 1) (by rw [zAim_ne (by omega)]; exact z2n hI qj)) hw.1 rfl rfl ⟨Nat.le_of_ble_eq_true rfl, Nat.le_of_ble_eq_true rfl⟩ ⟨Nat.le_of_ble_eq_true rfl, Nat.le_of_ble_eq_true rfl⟩ hl.1 (Nat.le_of_ble_eq_true rfl) dX6_send_124) hw (fun H locs hw => ?_)
    rw [zAim_ne (κ' := 32 + j.toNatClampNeg) (by omega)]
    refine z_ci0 (z_runV (As := [.ref (ad (48 + i.toNatClampNeg)), .int (zPlace k (I (16 + a) 0) (I (16 + b) 0) (I (32 + j.toNatClampNeg) 2)), .int (zPlace k (I (16 + a) 1) (I (16 + b) 1) (I (32 + j.toNatClampNeg) 2))]) (rest := []) M hw (zc_t0 hC) zc_X6_131 (c_X6_setOff l base D cA ad ty (zAim I (48 + i.toNatClampNeg) (nI j.toNatClampNeg) k) L P ni nc ns nt hC i.toNatClampNeg qi (Or.inr (by rw [zAim_5, nI_clamp (by omega)]; exact ⟨rfl, qj⟩)) (zNfo_c (zAim_ne (by omega)) hI.2.1).1 (zNfo_c (zAim_ne (by omega)) hI.2.1).2 (zPlace k (I (16 + a) 0) (I (16 + b) 0) (I (32 + j.toNatClampNeg) 2)) (zPlace k (I (16 + a) 1) (I (16 + b) 1) (I (32 + j.toNatClampNeg) 2)) (by rw [zAim_ne (by omega)]; exact zsp0 hI qi)) hw.1 rfl rfl ⟨Nat.le_of_ble_eq_true rfl, Nat.le_of_ble_eq_true rfl⟩ ⟨Nat.le_of_ble_eq_true rfl, Nat.le_of_ble_eq_true rfl⟩ hl.1 (Nat.le_of_ble_eq_true rfl) dX6_send_127) hw (fun H locs hw => ?_)
    exact z_xiret hx hb hr ⟨rfl, (by unfold zoD; (try unfold zsq); (try first | rw [if_pos c1] | rw [if_neg c1]); (try first | rw [if_pos c2] | rw [if_neg c2]); (try first | rw [if_pos c3] | rw [if_neg c3]); (try first | rw [if_pos c4] | rw [if_neg c4]); (try first | rfl | assumption))⟩ rfl hw.2 hw.1 (Nat.le_of_ble_eq_true rfl) (Nat.le_of_ble_eq_true rfl) dX6_send_130 hlocks
  · skip
    have c4 := zb_eq0.mp c4
    refine z_throw_at (oc0 := 3) (text := "the span has no fault") (by unfold zoD zsq; (try first | rw [if_pos c1] | rw [if_neg c1]); (try first | rw [if_pos c2] | rw [if_neg c2]); (try first | rw [if_pos c3] | rw [if_neg c3]); (try first | rw [if_pos c4] | rw [if_neg c4])) hl0 M hw (by decide) (by decide +kernel) zth_3 hl.1 dX6_send_43 dX6_send_46 dX6_send_47 dX6_send_49 dX6_send_52 hout ⟨Nat.le_of_ble_eq_true rfl, Nat.le_of_ble_eq_true rfl, Nat.le_of_ble_eq_true rfl, Nat.le_of_ble_eq_true rfl⟩ (Nat.le_of_ble_eq_true rfl) (Nat.le_of_ble_eq_true rfl) hlocks
set_option maxHeartbeats 4000000 in
set_option maxRecDepth 100000 in
theorem c_X6_pass (l : Launch) (base : Nat) (D : zDD) (cA : Nat → ClassId) (ad : Nat → Nat) (ty : zTyp) (I : zIt) (L : zLt) (P : zPt) (hl0 : l.stackTraces = false) (ni nc ns nt : Nat) (hC : zcls ni nc ns nt ty P) (hI : zInv ni nc ns nt I) (hfin : zFin nc) (x : Int32) : zXi l base D cA yX6_pass cX6_pass 3 .int 7 138 1 6 [.ref (ad 0), .int x] (zW base D cA ad ty I L P) (zo2 x 1 500) ((zHrs nc ns nt (I, L) x.toNatClampNeg).1 0 8) (zW base D cA ad ty (zHrs nc ns nt (I, L) x.toNatClampNeg).1 (zHrs nc ns nt (I, L) x.toNatClampNeg).2 P) := by
  refine z_xstart (by decide +kernel) (Nat.le_of_ble_eq_true rfl) fun p e s m below meth c ls M hP hS hl hr hlocks hnm hout => ?_
  have M : zM p s m c cX6_pass RX6 3 base D cA := M
  have hw : zH base D cA s s.heap [] ad ty I L P := ⟨hP, hS⟩
  obtain ⟨hx, hb, -⟩ := id M
  have hl : lv_has ls 3 [(0, .ref (ad 0)), (1, .int x)] := hl
  obtain ⟨hb1, hb2, hb3, hb4⟩ := zc_b hC
  have hbb : nc ≤ 16 ∧ ns ≤ 4 ∧ nt ≤ 12 := ⟨hb2, hb3, hb4⟩
  refine lv_iload_n hx hb dX6_pass_0 rfl (lv_at hl 1 rfl) ?_
  refine lv_iconst (v := 1) hx hb dX6_pass_1 (by decide) ?_
  refine lv_sipush (v := 500) hx hb dX6_pass_2 (by decide) ?_
  refine z_xcv (z_xrunS (As := [.int x, .int 1, .int 500]) (rest := []) M hw.2 zc_X6_51 zn_X6_51 (c_X6_checkRange l base D cA ad ty I L P hl0 x 1 500) hw.1 rfl rfl ⟨Nat.le_of_ble_eq_true rfl, Nat.le_of_ble_eq_true rfl⟩ ⟨Nat.le_of_ble_eq_true rfl, Nat.le_of_ble_eq_true rfl⟩ hl.1 (Nat.le_of_ble_eq_true rfl) dX6_pass_5) hw.2 (fun c1 ce q H locs hw0 hS hq hv hcl => ?_) (fun c1 H locs hw1 hS => ?_)
  · exact z_xout c1 (by (try unfold zsq); (try first | rw [if_pos c1] | rw [if_neg c1]); (try first | rfl | assumption)) hw0 hS hq hv hcl hout (Nat.le_of_ble_eq_true rfl) (Nat.le_of_ble_eq_true rfl) hlocks
  have hw : zH base D cA s H locs ad ty I L P := ⟨hw1, hS⟩
  have zc1 := zo2_z c1
  refine lv_iconst (v := 0) hx hb dX6_pass_8 (by decide) ?_
  refine lv_istore_n (lv' := [(2, .int 0), (0, .ref (ad 0)), (1, .int x)]) hx hb dX6_pass_9 rfl hl (by decide) rfl (fun ls hl => ?_)
  obtain ⟨h, hh, rfl⟩ : ∃ h, h < 501 ∧ x = nI h := by
    have h1 := zc1.1; have h2 := zc1.2
    rw [Int32.le_iff_toInt_le] at h1 h2
    have e1 : (1 : Int32).toInt = 1 := by decide
    have e5 : (500 : Int32).toInt = 500 := by decide
    have hc9 : x.toNatClampNeg = x.toInt.toNat := rfl
    exact ⟨x.toNatClampNeg, by omega, Int32.toInt_inj.mp (by rw [nI_toInt (by omega)]; omega)⟩
  rw [nI_clamp (by omega)]
  refine z_loop (h) (fun (k : Nat) H locs ls => zH base D cA s H locs ad ty ((zHrs nc ns nt (I, L) k).1) ((zHrs nc ns nt (I, L) k).2) P ∧ lv_has ls 3 [(0, .ref (ad 0)), (1, .int (nI h)), (2, .int (nI k))]) 0 ⟨hw, lv_sub hl [1, 2, 0] rfl⟩ (by omega) (fun k hk_k ih_k H locs ls hI => ?_)
  obtain ⟨hw, hl⟩ := hI
  refine lv_iload_n hx hb dX6_pass_10 rfl (lv_at hl 2 rfl) ?_
  refine lv_iload_n hx hb dX6_pass_11 rfl (lv_at hl 1 rfl) ?_
  refine lv_icmp_ge (tgt := 25) hx hb dX6_pass_12 (by decide) (fun c2 => ?_) (fun c2 => ?_)
  · skip
    have hge : h = k := Nat.le_antisymm (z_ge (show nI h ≤ nI k from c2) (by omega) (by omega)) (by omega)
    rw [← hge] at hw
    refine lv_aload_n hx hb dX6_pass_25 rfl (lv_at hl 0 rfl) ?_
    refine z_geti M hw (zc_t0 hC) zf_X6_48 dX6_pass_26 ?_
    exact z_xiret hx hb hr ⟨by rw [hge], c1⟩ rfl hw.2 hw.1 (Nat.le_of_ble_eq_true rfl) (Nat.le_of_ble_eq_true rfl) dX6_pass_29 hlocks
  · skip
    have hlt : k < h := z_lt (show ¬ nI h ≤ nI k from c2) (by omega)
    refine lv_aload_n hx hb dX6_pass_15 rfl (lv_at hl 0 rfl) ?_
    refine z_cv0 (z_runV (As := []) (rest := []) M hw (zc_t0 hC) zc_X6_139 (c_X6_passHour l base D cA ad ty (zHrs nc ns nt (I, L) k).1 (zHrs nc ns nt (I, L) k).2 P ni nc ns nt hC (zInv_zHrs hbb (I, L) hI k) hfin) hw.1 rfl rfl ⟨Nat.le_of_ble_eq_true rfl, Nat.le_of_ble_eq_true rfl⟩ ⟨Nat.le_of_ble_eq_true rfl, Nat.le_of_ble_eq_true rfl⟩ hl.1 (Nat.le_of_ble_eq_true rfl) dX6_pass_16) hw (fun H locs hw => ?_)
    refine lv_iinc (v := nI (k + 1)) (lv' := [(2, .int (nI (k + 1))), (0, .ref (ad 0)), (1, .int (nI h))]) hx hb dX6_pass_19 hl (k := 2) rfl (nI_succ _).symm (by decide) rfl (fun ls hl => ?_)
    refine lv_goto (tgt := 10) hx hb dX6_pass_22 (by decide) ?_
    exact ih_k hlt _ _ _ ⟨hw, lv_sub hl [1, 2, 0] rfl⟩
