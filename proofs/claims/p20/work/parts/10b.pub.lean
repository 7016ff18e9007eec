set_option maxHeartbeats 4000000 in
set_option maxRecDepth 100000 in
theorem c_X6_price (l : Launch) (base : Nat) (D : zDD) (cA : Nat → ClassId) (ad : Nat → Nat) (ty : zTyp) (I : zIt) (L : zLt) (P : zPt) (hl0 : l.stackTraces = false) (ni nc ns nt : Nat) (hC : zcls ni nc ns nt ty P) (hI : zInv ni nc ns nt I) (i x : Int32) : zXi l base D cA yX6_price cX6_price 4 .int 7 112 2 12 [.ref (ad 0), .int i, .int x] (zW base D cA ad ty I L P) (zsq (zo1 i nc) (zo2 x 0 9999)) (I (32 + i.toNatClampNeg) 4) (zW base D cA ad ty (zu (zu I (32 + i.toNatClampNeg) 4 x) 0 7 1) L P) := by
  refine z_xstart (by decide +kernel) (Nat.le_of_ble_eq_true rfl) fun p e s m below meth c ls M hP hS hl hr hlocks hnm hout => ?_
  have M : zM p s m c cX6_price RX6 4 base D cA := M
  have hw : zH base D cA s s.heap [] ad ty I L P := ⟨hP, hS⟩
  obtain ⟨hx, hb, -⟩ := id M
  have hl : lv_has ls 4 [(0, .ref (ad 0)), (1, .int i), (2, .int x)] := hl
  obtain ⟨hb1, hb2, hb3, hb4⟩ := zc_b hC
  have hbb : nc ≤ 16 ∧ ns ≤ 4 ∧ nt ≤ 12 := ⟨hb2, hb3, hb4⟩
  refine lv_iload_n hx hb dX6_price_0 rfl (lv_at hl 1 rfl) ?_
  refine lv_aload_n hx hb dX6_price_1 rfl (lv_at hl 0 rfl) ?_
  refine z_getr M hw (zc_t0 hC) zf_X6_22 (zc_p02 hC) dX6_price_2 ?_
  refine z_geti M hw (zc_t1 hC) zf_X6_67 dX6_price_5 ?_
  refine z_topi (y := nI nc) hI.1.2.1 ?_
  refine z_xcv (z_xrunS (As := [.int i, .int (nI nc)]) (rest := []) M hw.2 zc_X6_61 zn_X6_61 (c_X6_checkIndex l base D cA ad ty I L P hl0 i nc (by omega)) hw.1 rfl rfl ⟨Nat.le_of_ble_eq_true rfl, Nat.le_of_ble_eq_true rfl⟩ ⟨Nat.le_of_ble_eq_true rfl, Nat.le_of_ble_eq_true rfl⟩ hl.1 (Nat.le_of_ble_eq_true rfl) dX6_price_8) hw.2 (fun c1 ce q H locs hw0 hS hq hv hcl => ?_) (fun c1 H locs hw1 hS => ?_)
  · exact z_xout c1 (by (try unfold zsq); (try first | rw [if_pos c1] | rw [if_neg c1]); (try first | rfl | assumption)) hw0 hS hq hv hcl hout (Nat.le_of_ble_eq_true rfl) (Nat.le_of_ble_eq_true rfl) hlocks
  have hw : zH base D cA s H locs ad ty I L P := ⟨hw1, hS⟩
  have hi := zo1_z c1
  have qi := (zlt_nat hi).2
  rw [(zlt_nat hi).1] at hl
  refine lv_iload_n hx hb dX6_price_11 rfl (lv_at hl 2 rfl) ?_
  refine lv_iconst (v := 0) hx hb dX6_price_12 (by decide) ?_
  refine lv_sipush (v := 9999) hx hb dX6_price_13 (by decide) ?_
  refine z_xcv (z_xrunS (As := [.int x, .int 0, .int 9999]) (rest := []) M hw.2 zc_X6_51 zn_X6_51 (c_X6_checkRange l base D cA ad ty I L P hl0 x 0 9999) hw.1 rfl rfl ⟨Nat.le_of_ble_eq_true rfl, Nat.le_of_ble_eq_true rfl⟩ ⟨Nat.le_of_ble_eq_true rfl, Nat.le_of_ble_eq_true rfl⟩ hl.1 (Nat.le_of_ble_eq_true rfl) dX6_price_16) hw.2 (fun c2 ce q H locs hw0 hS hq hv hcl => ?_) (fun c2 H locs hw1 hS => ?_)
  · exact z_xout c2 (by (try unfold zsq); (try first | rw [if_pos c1] | rw [if_neg c1]); (try first | rw [if_pos c2] | rw [if_neg c2]); (try first | rfl | assumption)) hw0 hS hq hv hcl hout (Nat.le_of_ble_eq_true rfl) (Nat.le_of_ble_eq_true rfl) hlocks
  have hw : zH base D cA s H locs ad ty I L P := ⟨hw1, hS⟩
  have zc2 := zo2_z c2
  refine lv_aload_n hx hb dX6_price_19 rfl (lv_at hl 0 rfl) ?_
  refine z_getr M hw (zc_t0 hC) zf_X6_22 (zc_p02 hC) dX6_price_20 ?_
  refine z_getr M hw (zc_t1 hC) zf_X6_79 (zc_p10 hC) dX6_price_23 ?_
  refine lv_iload_n hx hb dX6_price_26 rfl (lv_at hl 1 rfl) ?_
  refine z_aNald M hw (e9 := 3) (zc_t3 hC) ⟨by decide, rfl⟩ rfl ⟨by omega, by omega⟩ (zc_pC hC (by omega)) dX6_price_27 ?_
  refine z_geti M hw (zc_tC hC (by omega)) zf_X6_83 dX6_price_28 ?_
  refine lv_topi (fun x3 ex3 => ?_)
  refine lv_istore_n (lv' := [(3, .int x3), (0, .ref (ad 0)), (1, .int (nI i.toNatClampNeg)), (2, .int x)]) hx hb dX6_price_31 rfl hl (by decide) rfl (fun ls hl => ?_)
  refine lv_aload_n hx hb dX6_price_32 rfl (lv_at hl 1 rfl) ?_
  refine z_getr M hw (zc_t0 hC) zf_X6_22 (zc_p02 hC) dX6_price_33 ?_
  refine z_getr M hw (zc_t1 hC) zf_X6_79 (zc_p10 hC) dX6_price_36 ?_
  refine lv_iload_n hx hb dX6_price_39 rfl (lv_at hl 2 rfl) ?_
  refine z_aNald M hw (e9 := 3) (zc_t3 hC) ⟨by decide, rfl⟩ rfl ⟨by omega, by omega⟩ (zc_pC hC (by omega)) dX6_price_40 ?_
  refine lv_iload_n hx hb dX6_price_41 rfl (lv_at hl 3 rfl) ?_
  refine z_puti M hw (zc_tC hC (by omega)) zf_X6_83 (Or.inl rfl) rfl rfl dX6_price_42 (fun H locs hw => ?_)
  refine lv_aload_n hx hb dX6_price_45 rfl (lv_at hl 1 rfl) ?_
  refine lv_iconst (v := 1) hx hb dX6_price_46 (by decide) ?_
  refine z_puti M hw (zc_t0 hC) zf_X6_44 (Or.inl rfl) rfl rfl dX6_price_47 (fun H locs hw => ?_)
  refine lv_iload_n hx hb dX6_price_50 rfl (lv_at hl 0 rfl) ?_
  exact z_xiret hx hb hr ⟨(by first | rfl | assumption), (by (try unfold zsq); (try first | rw [if_pos c1] | rw [if_neg c1]); (try first | rw [if_pos c2] | rw [if_neg c2]); (try first | rfl | assumption))⟩ rfl hw.2 hw.1 (Nat.le_of_ble_eq_true rfl) (Nat.le_of_ble_eq_true rfl) dX6_price_51 hlocks
set_option maxHeartbeats 4000000 in
set_option maxRecDepth 100000 in
theorem c_X6_works (l : Launch) (base : Nat) (D : zDD) (cA : Nat → ClassId) (ad : Nat → Nat) (ty : zTyp) (I : zIt) (L : zLt) (P : zPt) (hl0 : l.stackTraces = false) (ni nc ns nt : Nat) (hC : zcls ni nc ns nt ty P) (hI : zInv ni nc ns nt I) (i : Int32) : zXi l base D cA yX6_works cX6_works 2 .boolean 7 111 1 6 [.ref (ad 0), .int i] (zW base D cA ad ty I L P) (zo1 i nc) (zb (I (32 + i.toNatClampNeg) 5 = 0)) (zW base D cA ad ty I L P) := by
  refine z_xstart (by decide +kernel) (Nat.le_of_ble_eq_true rfl) fun p e s m below meth c ls M hP hS hl hr hlocks hnm hout => ?_
  have M : zM p s m c cX6_works RX6 2 base D cA := M
  have hw : zH base D cA s s.heap [] ad ty I L P := ⟨hP, hS⟩
  obtain ⟨hx, hb, -⟩ := id M
  have hl : lv_has ls 2 [(0, .ref (ad 0)), (1, .int i)] := hl
  obtain ⟨hb1, hb2, hb3, hb4⟩ := zc_b hC
  have hbb : nc ≤ 16 ∧ ns ≤ 4 ∧ nt ≤ 12 := ⟨hb2, hb3, hb4⟩
  refine lv_iload_n hx hb dX6_works_0 rfl (lv_at hl 1 rfl) ?_
  refine lv_aload_n hx hb dX6_works_1 rfl (lv_at hl 0 rfl) ?_
  refine z_getr M hw (zc_t0 hC) zf_X6_22 (zc_p02 hC) dX6_works_2 ?_
  refine z_geti M hw (zc_t1 hC) zf_X6_67 dX6_works_5 ?_
  refine z_topi (y := nI nc) hI.1.2.1 ?_
  refine z_xcv (z_xrunS (As := [.int i, .int (nI nc)]) (rest := []) M hw.2 zc_X6_61 zn_X6_61 (c_X6_checkIndex l base D cA ad ty I L P hl0 i nc (by omega)) hw.1 rfl rfl ⟨Nat.le_of_ble_eq_true rfl, Nat.le_of_ble_eq_true rfl⟩ ⟨Nat.le_of_ble_eq_true rfl, Nat.le_of_ble_eq_true rfl⟩ hl.1 (Nat.le_of_ble_eq_true rfl) dX6_works_8) hw.2 (fun c1 ce q H locs hw0 hS hq hv hcl => ?_) (fun c1 H locs hw1 hS => ?_)
  · exact z_xout c1 (by (try unfold zsq); (try first | rw [if_pos c1] | rw [if_neg c1]); (try first | rfl | assumption)) hw0 hS hq hv hcl hout (Nat.le_of_ble_eq_true rfl) (Nat.le_of_ble_eq_true rfl) hlocks
  have hw : zH base D cA s H locs ad ty I L P := ⟨hw1, hS⟩
  have hi := zo1_z c1
  have qi := (zlt_nat hi).2
  rw [(zlt_nat hi).1] at hl
  refine lv_aload_n hx hb dX6_works_11 rfl (lv_at hl 0 rfl) ?_
  refine z_getr M hw (zc_t0 hC) zf_X6_22 (zc_p02 hC) dX6_works_12 ?_
  refine z_getr M hw (zc_t1 hC) zf_X6_79 (zc_p10 hC) dX6_works_15 ?_
  refine lv_iload_n hx hb dX6_works_18 rfl (lv_at hl 1 rfl) ?_
  refine z_aNald M hw (e9 := 3) (zc_t3 hC) ⟨by decide, rfl⟩ rfl ⟨by omega, by omega⟩ (zc_pC hC (by omega)) dX6_works_19 ?_
  refine z_ci0 (z_runV (As := []) (rest := []) M hw (zc_tC hC (by omega)) zc_X6_142 (c_X0_isWorking l base D cA ad ty I L P (32 + i.toNatClampNeg) 0 (zc_tC hC (by omega))) hw.1 rfl rfl ⟨Nat.le_of_ble_eq_true rfl, Nat.le_of_ble_eq_true rfl⟩ ⟨Nat.le_of_ble_eq_true rfl, Nat.le_of_ble_eq_true rfl⟩ hl.1 (Nat.le_of_ble_eq_true rfl) dX6_works_20) hw (fun H locs hw => ?_)
  exact z_xiret hx hb hr ⟨rfl, (by (try unfold zsq); (try first | rw [if_pos c1] | rw [if_neg c1]); (try first | rfl | assumption))⟩ (zb_nb _) hw.2 hw.1 (Nat.le_of_ble_eq_true rfl) (Nat.le_of_ble_eq_true rfl) dX6_works_23 hlocks
set_option maxHeartbeats 4000000 in
set_option maxRecDepth 100000 in
theorem c_X6_fault (l : Launch) (base : Nat) (D : zDD) (cA : Nat → ClassId) (ad : Nat → Nat) (ty : zTyp) (I : zIt) (L : zLt) (P : zPt) (hl0 : l.stackTraces = false) (ni nc ns nt : Nat) (hC : zcls ni nc ns nt ty P) (hI : zInv ni nc ns nt I) (j k : Int32) (hroom : zsq (zoS I nc j k) (if zHasF I (32 + j.toNatClampNeg) k then 3 else 0) = 0 → zNf I < 128) : zXi l base D cA yX6_fault cX6_fault 3 .int 8 133 3 18 [.ref (ad 0), .int j, .int k] (zW base D cA ad ty I L P) (zsq (zoS I nc j k) (if zHasF I (32 + j.toNatClampNeg) k then 3 else 0)) (nI (zNf I + 1)) (zW base D cA ad ty (zAddF (zu I 0 7 1) j.toNatClampNeg k) L P) := by
  refine z_xstart (by decide +kernel) (Nat.le_of_ble_eq_true rfl) fun p e s m below meth c ls M hP hS hl hr hlocks hnm hout => ?_
  have M : zM p s m c cX6_fault RX6 3 base D cA := M
  have hw : zH base D cA s s.heap [] ad ty I L P := ⟨hP, hS⟩
  obtain ⟨hx, hb, -⟩ := id M
  have hl : lv_has ls 3 [(0, .ref (ad 0)), (1, .int j), (2, .int k)] := hl
  obtain ⟨hb1, hb2, hb3, hb4⟩ := zc_b hC
  have hbb : nc ≤ 16 ∧ ns ≤ 4 ∧ nt ≤ 12 := ⟨hb2, hb3, hb4⟩
  refine lv_aload_n hx hb dX6_fault_0 rfl (lv_at hl 0 rfl) ?_
  refine lv_iload_n hx hb dX6_fault_1 rfl (lv_at hl 1 rfl) ?_
  refine lv_iload_n hx hb dX6_fault_2 rfl (lv_at hl 2 rfl) ?_
  refine z_xcv (z_xrunV (As := [.int j, .int k]) (rest := []) M hw (zc_t0 hC) zc_X6_86 zn_X6_86 (c_X6_checkSpan l base D cA ad ty I L P hl0 ni nc ns nt hC hI.1.2.1 (zInv_span hI) j k) hw.1 rfl rfl ⟨Nat.le_of_ble_eq_true rfl, Nat.le_of_ble_eq_true rfl⟩ ⟨Nat.le_of_ble_eq_true rfl, Nat.le_of_ble_eq_true rfl⟩ hl.1 (Nat.le_of_ble_eq_true rfl) dX6_fault_3) hw.2 (fun c1 ce q H locs hw0 hS hq hv hcl => ?_) (fun c1 H locs hw1 hS => ?_)
  · exact z_xout c1 (by (try unfold zsq); (try first | rw [if_pos c1] | rw [if_neg c1]); (try first | rfl | assumption)) hw0 hS hq hv hcl hout (Nat.le_of_ble_eq_true rfl) (Nat.le_of_ble_eq_true rfl) hlocks
  have hw : zH base D cA s H locs ad ty I L P := ⟨hw1, hS⟩
  have hj := (zoS_z c1).1
  have qj := (zlt_nat hj).2
  have hk := (zoS_z c1).2
  rw [(zlt_nat hj).1] at hl
  refine lv_aload_n hx hb dX6_fault_6 rfl (lv_at hl 0 rfl) ?_
  refine z_getr M hw (zc_t0 hC) zf_X6_22 (zc_p02 hC) dX6_fault_7 ?_
  refine z_getr M hw (zc_t1 hC) zf_X6_79 (zc_p10 hC) dX6_fault_10 ?_
  refine lv_iload_n hx hb dX6_fault_13 rfl (lv_at hl 1 rfl) ?_
  refine z_aNald M hw (e9 := 3) (zc_t3 hC) ⟨by decide, rfl⟩ rfl ⟨by omega, by omega⟩ (zc_pC hC (by omega)) dX6_fault_14 ?_
  refine lv_iload_n hx hb dX6_fault_15 rfl (lv_at hl 2 rfl) ?_
  refine z_ci0 (z_runV (As := [.int k]) (rest := []) M hw (zc_tC hC (by omega)) zc_X6_89 (c_X0_hasFaultAt l base D cA ad ty I L P (32 + j.toNatClampNeg) 0 (zc_tC hC (by omega)) k) hw.1 rfl rfl ⟨Nat.le_of_ble_eq_true rfl, Nat.le_of_ble_eq_true rfl⟩ ⟨Nat.le_of_ble_eq_true rfl, Nat.le_of_ble_eq_true rfl⟩ hl.1 (Nat.le_of_ble_eq_true rfl) dX6_fault_16) hw (fun H locs hw => ?_)
  refine lv_if_eq (tgt := 32) hx hb dX6_fault_19 (by decide) (fun c2 => ?_) (fun c2 => ?_)
  · skip
    have c2 := zb_eq0.mp c2
    refine lv_aload_n hx hb dX6_fault_32 rfl (lv_at hl 0 rfl) ?_
    refine lv_iconst (v := 1) hx hb dX6_fault_33 (by decide) ?_
    refine z_puti M hw (zc_t0 hC) zf_X6_44 (Or.inl rfl) rfl rfl dX6_fault_34 (fun H locs hw => ?_)
    refine lv_aload_n hx hb dX6_fault_37 rfl (lv_at hl 0 rfl) ?_
    refine z_getr M hw (zc_t0 hC) zf_X6_22 (zc_p02 hC) dX6_fault_38 ?_
    refine lv_iload_n hx hb dX6_fault_41 rfl (lv_at hl 1 rfl) ?_
    refine lv_iload_n hx hb dX6_fault_42 rfl (lv_at hl 2 rfl) ?_
    refine z_ci0 (z_runV (As := [.int (nI j.toNatClampNeg), .int k]) (rest := []) M hw (zc_t1 hC) zc_X6_100 (c_X2_addFault l base D cA ad ty (zu I 0 7 1) L P ni nc ns nt hC (zInv_zu hbb (by unfold zHl; omega) hI).2.1.1 (by rw [zNf_eq (zu_ne _ _ (by omega))]; exact hroom (by unfold zsq; rw [if_pos c1, if_neg c2])) j.toNatClampNeg qj k) hw.1 rfl rfl ⟨Nat.le_of_ble_eq_true rfl, Nat.le_of_ble_eq_true rfl⟩ ⟨Nat.le_of_ble_eq_true rfl, Nat.le_of_ble_eq_true rfl⟩ hl.1 (Nat.le_of_ble_eq_true rfl) dX6_fault_43) hw (fun H locs hw => ?_)
    rw [zNf_eq (zu_ne _ _ (by omega))]
    exact z_xiret hx hb hr ⟨rfl, (by (try unfold zsq); (try first | rw [if_pos c1] | rw [if_neg c1]); (try first | rw [if_pos c2] | rw [if_neg c2]); (try first | rfl | assumption))⟩ rfl hw.2 hw.1 (Nat.le_of_ble_eq_true rfl) (Nat.le_of_ble_eq_true rfl) dX6_fault_46 hlocks
  · skip
    have c2 := zb_ne0.mp c2
    refine z_throw_at (oc0 := 3) (text := "the span has a fault") (by (try unfold zsq); (try first | rw [if_pos c1] | rw [if_neg c1]); (try first | rw [if_pos c2] | rw [if_neg c2])) hl0 M hw (by decide) (by decide +kernel) zth_3 hl.1 dX6_fault_22 dX6_fault_25 dX6_fault_26 dX6_fault_28 dX6_fault_31 hout ⟨Nat.le_of_ble_eq_true rfl, Nat.le_of_ble_eq_true rfl, Nat.le_of_ble_eq_true rfl, Nat.le_of_ble_eq_true rfl⟩ (Nat.le_of_ble_eq_true rfl) (Nat.le_of_ble_eq_true rfl) hlocks
set_option maxHeartbeats 4000000 in
set_option maxRecDepth 100000 in
theorem c_X6_faultAt (l : Launch) (base : Nat) (D : zDD) (cA : Nat → ClassId) (ad : Nat → Nat) (ty : zTyp) (I : zIt) (L : zLt) (P : zPt) (hl0 : l.stackTraces = false) (ni nc ns nt : Nat) (hC : zcls ni nc ns nt ty P) (hI : zInv ni nc ns nt I) (i : Int32) : zXi l base D cA yX6_faultAt cX6_faultAt 2 .int 6 90 1 6 [.ref (ad 0), .int i] (zW base D cA ad ty I L P) (if i < 0 then 1 else 0) (if i.toNatClampNeg < zNf I then I 6 i.toNatClampNeg else -1) (zW base D cA ad ty I L P) := by
  refine z_xstart (by decide +kernel) (Nat.le_of_ble_eq_true rfl) fun p e s m below meth c ls M hP hS hl hr hlocks hnm hout => ?_
  have M : zM p s m c cX6_faultAt RX6 2 base D cA := M
  have hw : zH base D cA s s.heap [] ad ty I L P := ⟨hP, hS⟩
  obtain ⟨hx, hb, -⟩ := id M
  have hl : lv_has ls 2 [(0, .ref (ad 0)), (1, .int i)] := hl
  obtain ⟨hb1, hb2, hb3, hb4⟩ := zc_b hC
  have hbb : nc ≤ 16 ∧ ns ≤ 4 ∧ nt ≤ 12 := ⟨hb2, hb3, hb4⟩
  refine lv_iload_n hx hb dX6_faultAt_0 rfl (lv_at hl 1 rfl) ?_
  refine lv_if_ge (tgt := 14) hx hb dX6_faultAt_1 (by decide) (fun c1 => ?_) (fun c1 => ?_)
  · skip
    have hneg : ¬ i < 0 := Int32.not_lt.mpr c1
    rw [(zge0 hneg).1] at hl
    refine lv_aload_n hx hb dX6_faultAt_14 rfl (lv_at hl 0 rfl) ?_
    refine z_getr M hw (zc_t0 hC) zf_X6_22 (zc_p02 hC) dX6_faultAt_15 ?_
    refine lv_iload_n hx hb dX6_faultAt_18 rfl (lv_at hl 1 rfl) ?_
    refine z_ci0 (z_runV (As := [.int (nI i.toNatClampNeg)]) (rest := []) M hw (zc_t1 hC) zc_X6_151 (c_X2_faultRanked l base D cA ad ty I L P ni nc ns nt hC hI.2.1.1 hI.2.1.2 i.toNatClampNeg (zge0 hneg).2) hw.1 rfl rfl ⟨Nat.le_of_ble_eq_true rfl, Nat.le_of_ble_eq_true rfl⟩ ⟨Nat.le_of_ble_eq_true rfl, Nat.le_of_ble_eq_true rfl⟩ hl.1 (Nat.le_of_ble_eq_true rfl) dX6_faultAt_19) hw (fun H locs hw => ?_)
    exact z_xiret hx hb hr ⟨rfl, (by rw [if_neg hneg])⟩ rfl hw.2 hw.1 (Nat.le_of_ble_eq_true rfl) (Nat.le_of_ble_eq_true rfl) dX6_faultAt_22 hlocks
  · skip
    have c1 : i < 0 := Int32.not_le.mp c1
    refine z_throw_at (oc0 := 1) (text := "a rank is not below 0") (by rw [if_pos c1]) hl0 M hw (by decide) (by decide +kernel) zth_1 hl.1 dX6_faultAt_4 dX6_faultAt_7 dX6_faultAt_8 dX6_faultAt_10 dX6_faultAt_13 hout ⟨Nat.le_of_ble_eq_true rfl, Nat.le_of_ble_eq_true rfl, Nat.le_of_ble_eq_true rfl, Nat.le_of_ble_eq_true rfl⟩ (Nat.le_of_ble_eq_true rfl) (Nat.le_of_ble_eq_true rfl) hlocks
set_option maxHeartbeats 4000000 in
set_option maxRecDepth 100000 in
theorem c_X6_shipOf (l : Launch) (base : Nat) (D : zDD) (cA : Nat → ClassId) (ad : Nat → Nat) (ty : zTyp) (I : zIt) (L : zLt) (P : zPt) (hl0 : l.stackTraces = false) (ni nc ns nt : Nat) (hC : zcls ni nc ns nt ty P) (hI : zInv ni nc ns nt I) (i x : Int32) : zXi l base D cA yX6_shipOf cX6_shipOf 4 .int 7 112 2 12 [.ref (ad 0), .int i, .int x] (zW base D cA ad ty I L P) (zsq (zo1 i ns) (zo2 x 0 4)) (if x = 0 then I (48 + i.toNatClampNeg) 3 else if x = 1 then I (48 + i.toNatClampNeg) 1 else if x = 2 then I (48 + i.toNatClampNeg) 2 else if x = 3 then I (48 + i.toNatClampNeg) 4 else I (48 + i.toNatClampNeg) 7) (zW base D cA ad ty I L P) := by
  refine z_xstart (by decide +kernel) (Nat.le_of_ble_eq_true rfl) fun p e s m below meth c ls M hP hS hl hr hlocks hnm hout => ?_
  have M : zM p s m c cX6_shipOf RX6 4 base D cA := M
  have hw : zH base D cA s s.heap [] ad ty I L P := ⟨hP, hS⟩
  obtain ⟨hx, hb, -⟩ := id M
  have hl : lv_has ls 4 [(0, .ref (ad 0)), (1, .int i), (2, .int x)] := hl
  obtain ⟨hb1, hb2, hb3, hb4⟩ := zc_b hC
  have hbb : nc ≤ 16 ∧ ns ≤ 4 ∧ nt ≤ 12 := ⟨hb2, hb3, hb4⟩
  refine lv_iload_n hx hb dX6_shipOf_0 rfl (lv_at hl 1 rfl) ?_
  refine lv_aload_n hx hb dX6_shipOf_1 rfl (lv_at hl 0 rfl) ?_
  refine z_geti M hw (zc_t0 hC) zf_X6_32 dX6_shipOf_2 ?_
  refine z_topi (y := nI ns) hI.1.2.2.1 ?_
  refine z_xcv (z_xrunS (As := [.int i, .int (nI ns)]) (rest := []) M hw.2 zc_X6_61 zn_X6_61 (c_X6_checkIndex l base D cA ad ty I L P hl0 i ns (by omega)) hw.1 rfl rfl ⟨Nat.le_of_ble_eq_true rfl, Nat.le_of_ble_eq_true rfl⟩ ⟨Nat.le_of_ble_eq_true rfl, Nat.le_of_ble_eq_true rfl⟩ hl.1 (Nat.le_of_ble_eq_true rfl) dX6_shipOf_5) hw.2 (fun c1 ce q H locs hw0 hS hq hv hcl => ?_) (fun c1 H locs hw1 hS => ?_)
  · exact z_xout c1 (by (try unfold zsq); (try first | rw [if_pos c1] | rw [if_neg c1]); (try first | rfl | assumption)) hw0 hS hq hv hcl hout (Nat.le_of_ble_eq_true rfl) (Nat.le_of_ble_eq_true rfl) hlocks
  have hw : zH base D cA s H locs ad ty I L P := ⟨hw1, hS⟩
  have hi := zo1_z c1
  have qi := (zlt_nat hi).2
  rw [(zlt_nat hi).1] at hl
  refine lv_iload_n hx hb dX6_shipOf_8 rfl (lv_at hl 2 rfl) ?_
  refine lv_iconst (v := 0) hx hb dX6_shipOf_9 (by decide) ?_
  refine lv_iconst (v := 4) hx hb dX6_shipOf_10 (by decide) ?_
  refine z_xcv (z_xrunS (As := [.int x, .int 0, .int 4]) (rest := []) M hw.2 zc_X6_51 zn_X6_51 (c_X6_checkRange l base D cA ad ty I L P hl0 x 0 4) hw.1 rfl rfl ⟨Nat.le_of_ble_eq_true rfl, Nat.le_of_ble_eq_true rfl⟩ ⟨Nat.le_of_ble_eq_true rfl, Nat.le_of_ble_eq_true rfl⟩ hl.1 (Nat.le_of_ble_eq_true rfl) dX6_shipOf_11) hw.2 (fun c2 ce q H locs hw0 hS hq hv hcl => ?_) (fun c2 H locs hw1 hS => ?_)
  · exact z_xout c2 (by (try unfold zsq); (try first | rw [if_pos c1] | rw [if_neg c1]); (try first | rw [if_pos c2] | rw [if_neg c2]); (try first | rfl | assumption)) hw0 hS hq hv hcl hout (Nat.le_of_ble_eq_true rfl) (Nat.le_of_ble_eq_true rfl) hlocks
  have hw : zH base D cA s H locs ad ty I L P := ⟨hw1, hS⟩
  have zc2 := zo2_z c2
  refine lv_aload_n hx hb dX6_shipOf_14 rfl (lv_at hl 0 rfl) ?_
  refine z_getr M hw (zc_t0 hC) zf_X6_28 (zc_p03 hC) dX6_shipOf_15 ?_
  refine lv_iload_n hx hb dX6_shipOf_18 rfl (lv_at hl 1 rfl) ?_
  refine z_aNald M hw (e9 := 5) (zc_t4 hC) ⟨by decide, rfl⟩ rfl ⟨by omega, by omega⟩ (zc_pS hC (by omega)) dX6_shipOf_19 ?_
  refine lv_astore_n (lv' := [(3, .ref (ad (48 + i.toNatClampNeg))), (0, .ref (ad 0)), (1, .int (nI i.toNatClampNeg)), (2, .int x)]) hx hb dX6_shipOf_20 rfl hl (by decide) rfl (fun ls hl => ?_)
  refine lv_iload_n hx hb dX6_shipOf_21 rfl (lv_at hl 3 rfl) ?_
  by_cases h3 : x = 0
  · refine z_topi (y := 0) h3 ?_
    refine lv_tableIn (off := 30) (tgt := 52) hx hb dX6_shipOf_22 (by decide) (by decide) (by decide) (by decide) ?_
    refine lv_aload_n hx hb dX6_shipOf_52 rfl (lv_at hl 0 rfl) ?_
    refine z_geti M hw (zc_tS hC (by omega)) zf_X6_155 dX6_shipOf_53 ?_
    exact z_xiret hx hb hr ⟨(by (try first | rw [if_pos h3] | rw [if_neg h3])), (by (try unfold zsq); (try first | rw [if_pos c1] | rw [if_neg c1]); (try first | rw [if_pos c2] | rw [if_neg c2]); (try first | rw [if_pos h3] | rw [if_neg h3]); (try first | rfl | assumption))⟩ rfl hw.2 hw.1 (Nat.le_of_ble_eq_true rfl) (Nat.le_of_ble_eq_true rfl) dX6_shipOf_56 hlocks
  by_cases h4 : x = 1
  · refine z_topi (y := 1) h4 ?_
    refine lv_tableIn (off := 35) (tgt := 57) hx hb dX6_shipOf_22 (by decide) (by decide) (by decide) (by decide) ?_
    refine lv_aload_n hx hb dX6_shipOf_57 rfl (lv_at hl 0 rfl) ?_
    refine z_geti M hw (zc_tS hC (by omega)) zf_X6_158 dX6_shipOf_58 ?_
    exact z_xiret hx hb hr ⟨(by (try first | rw [if_pos h3] | rw [if_neg h3]); (try first | rw [if_pos h4] | rw [if_neg h4])), (by (try unfold zsq); (try first | rw [if_pos c1] | rw [if_neg c1]); (try first | rw [if_pos c2] | rw [if_neg c2]); (try first | rw [if_pos h3] | rw [if_neg h3]); (try first | rw [if_pos h4] | rw [if_neg h4]); (try first | rfl | assumption))⟩ rfl hw.2 hw.1 (Nat.le_of_ble_eq_true rfl) (Nat.le_of_ble_eq_true rfl) dX6_shipOf_61 hlocks
  by_cases h5 : x = 2
  · refine z_topi (y := 2) h5 ?_
    refine lv_tableIn (off := 40) (tgt := 62) hx hb dX6_shipOf_22 (by decide) (by decide) (by decide) (by decide) ?_
    refine lv_aload_n hx hb dX6_shipOf_62 rfl (lv_at hl 0 rfl) ?_
    refine z_geti M hw (zc_tS hC (by omega)) zf_X6_159 dX6_shipOf_63 ?_
    exact z_xiret hx hb hr ⟨(by (try first | rw [if_pos h3] | rw [if_neg h3]); (try first | rw [if_pos h4] | rw [if_neg h4]); (try first | rw [if_pos h5] | rw [if_neg h5])), (by (try unfold zsq); (try first | rw [if_pos c1] | rw [if_neg c1]); (try first | rw [if_pos c2] | rw [if_neg c2]); (try first | rw [if_pos h3] | rw [if_neg h3]); (try first | rw [if_pos h4] | rw [if_neg h4]); (try first | rw [if_pos h5] | rw [if_neg h5]); (try first | rfl | assumption))⟩ rfl hw.2 hw.1 (Nat.le_of_ble_eq_true rfl) (Nat.le_of_ble_eq_true rfl) dX6_shipOf_66 hlocks
  by_cases h6 : x = 3
  · refine z_topi (y := 3) h6 ?_
    refine lv_tableIn (off := 45) (tgt := 67) hx hb dX6_shipOf_22 (by decide) (by decide) (by decide) (by decide) ?_
    refine lv_aload_n hx hb dX6_shipOf_67 rfl (lv_at hl 0 rfl) ?_
    refine z_geti M hw (zc_tS hC (by omega)) zf_X6_160 dX6_shipOf_68 ?_
    exact z_xiret hx hb hr ⟨(by (try first | rw [if_pos h3] | rw [if_neg h3]); (try first | rw [if_pos h4] | rw [if_neg h4]); (try first | rw [if_pos h5] | rw [if_neg h5]); (try first | rw [if_pos h6] | rw [if_neg h6])), (by (try unfold zsq); (try first | rw [if_pos c1] | rw [if_neg c1]); (try first | rw [if_pos c2] | rw [if_neg c2]); (try first | rw [if_pos h3] | rw [if_neg h3]); (try first | rw [if_pos h4] | rw [if_neg h4]); (try first | rw [if_pos h5] | rw [if_neg h5]); (try first | rw [if_pos h6] | rw [if_neg h6]); (try first | rfl | assumption))⟩ rfl hw.2 hw.1 (Nat.le_of_ble_eq_true rfl) (Nat.le_of_ble_eq_true rfl) dX6_shipOf_71 hlocks
  refine lv_tableOut (tgt := 72) hx hb dX6_shipOf_22 (by have q0 := z_t1 0 rfl h3; have q1 := z_t1 1 rfl h4; have q2 := z_t1 2 rfl h5; have q3 := z_t1 3 rfl h6; omega) (by decide) ?_
  refine lv_aload_n hx hb dX6_shipOf_72 rfl (lv_at hl 0 rfl) ?_
  refine z_geti M hw (zc_tS hC (by omega)) zf_X6_163 dX6_shipOf_73 ?_
  exact z_xiret hx hb hr ⟨(by (try first | rw [if_pos h3] | rw [if_neg h3]); (try first | rw [if_pos h4] | rw [if_neg h4]); (try first | rw [if_pos h5] | rw [if_neg h5]); (try first | rw [if_pos h6] | rw [if_neg h6])), (by (try unfold zsq); (try first | rw [if_pos c1] | rw [if_neg c1]); (try first | rw [if_pos c2] | rw [if_neg c2]); (try first | rw [if_pos h3] | rw [if_neg h3]); (try first | rw [if_pos h4] | rw [if_neg h4]); (try first | rw [if_pos h5] | rw [if_neg h5]); (try first | rw [if_pos h6] | rw [if_neg h6]); (try first | rfl | assumption))⟩ rfl hw.2 hw.1 (Nat.le_of_ble_eq_true rfl) (Nat.le_of_ble_eq_true rfl) dX6_shipOf_76 hlocks
set_option maxHeartbeats 4000000 in
set_option maxRecDepth 100000 in
theorem c_X6_way (l : Launch) (base : Nat) (D : zDD) (cA : Nat → ClassId) (ad : Nat → Nat) (ty : zTyp) (I : zIt) (L : zLt) (P : zPt) (hl0 : l.stackTraces = false) (ni nc ns nt : Nat) (hC : zcls ni nc ns nt ty P) (hI : zInv ni nc ns nt I) (hfin : zFin nc) (hwl : zWl nt I) (i x : Int32) : zXi l base D cA yX6_way cX6_way 3 .int 7 117 2 12 [.ref (ad 0), .int i, .int x] (zW base D cA ad ty I L P) (zsq (zo1 i nt) (if x < 0 then 1 else 0)) (if x < (zStale nc nt (I, L)).1 (80 + i.toNatClampNeg) 1 then (zStale nc nt (I, L)).1 (96 + i.toNatClampNeg) x.toNatClampNeg else -1) (zW base D cA ad ty (zStale nc nt (I, L)).1 (zStale nc nt (I, L)).2 P) := by
  refine z_xstart (by decide +kernel) (Nat.le_of_ble_eq_true rfl) fun p e s m below meth c ls M hP hS hl hr hlocks hnm hout => ?_
  have M : zM p s m c cX6_way RX6 3 base D cA := M
  have hw : zH base D cA s s.heap [] ad ty I L P := ⟨hP, hS⟩
  obtain ⟨hx, hb, -⟩ := id M
  have hl : lv_has ls 3 [(0, .ref (ad 0)), (1, .int i), (2, .int x)] := hl
  obtain ⟨hb1, hb2, hb3, hb4⟩ := zc_b hC
  have hbb : nc ≤ 16 ∧ ns ≤ 4 ∧ nt ≤ 12 := ⟨hb2, hb3, hb4⟩
  refine lv_iload_n hx hb dX6_way_0 rfl (lv_at hl 1 rfl) ?_
  refine lv_aload_n hx hb dX6_way_1 rfl (lv_at hl 0 rfl) ?_
  refine z_geti M hw (zc_t0 hC) zf_X6_41 dX6_way_2 ?_
  refine z_topi (y := nI nt) hI.1.2.2.2 ?_
  refine z_xcv (z_xrunS (As := [.int i, .int (nI nt)]) (rest := []) M hw.2 zc_X6_61 zn_X6_61 (c_X6_checkIndex l base D cA ad ty I L P hl0 i nt (by omega)) hw.1 rfl rfl ⟨Nat.le_of_ble_eq_true rfl, Nat.le_of_ble_eq_true rfl⟩ ⟨Nat.le_of_ble_eq_true rfl, Nat.le_of_ble_eq_true rfl⟩ hl.1 (Nat.le_of_ble_eq_true rfl) dX6_way_5) hw.2 (fun c1 ce q H locs hw0 hS hq hv hcl => ?_) (fun c1 H locs hw1 hS => ?_)
  · exact z_xout c1 (by (try unfold zsq); (try first | rw [if_pos c1] | rw [if_neg c1]); (try first | rfl | assumption)) hw0 hS hq hv hcl hout (Nat.le_of_ble_eq_true rfl) (Nat.le_of_ble_eq_true rfl) hlocks
  have hw : zH base D cA s H locs ad ty I L P := ⟨hw1, hS⟩
  have hi := zo1_z c1
  have qi := (zlt_nat hi).2
  rw [(zlt_nat hi).1] at hl
  refine lv_iload_n hx hb dX6_way_8 rfl (lv_at hl 2 rfl) ?_
  refine lv_if_ge (tgt := 22) hx hb dX6_way_9 (by decide) (fun c2 => ?_) (fun c2 => ?_)
  · skip
    have hneg : ¬ x < 0 := Int32.not_lt.mpr c2
    have c2 := hneg
    refine lv_aload_n hx hb dX6_way_22 rfl (lv_at hl 0 rfl) ?_
    refine z_cv0 (z_runV (As := []) (rest := []) M hw (zc_t0 hC) zc_X6_168 (c_X6_findStaleWays l base D cA ad ty I L P ni nc ns nt hC hI hfin) hw.1 rfl rfl ⟨Nat.le_of_ble_eq_true rfl, Nat.le_of_ble_eq_true rfl⟩ ⟨Nat.le_of_ble_eq_true rfl, Nat.le_of_ble_eq_true rfl⟩ hl.1 (Nat.le_of_ble_eq_true rfl) dX6_way_23) hw (fun H locs hw => ?_)
    obtain ⟨q, hqd⟩ : ∃ q, q = zStale nc nt (I, L) := ⟨_, rfl⟩
    rw [← hqd] at hw ⊢
    refine lv_aload_n hx hb dX6_way_26 rfl (lv_at hl 0 rfl) ?_
    refine z_getr M hw (zc_t0 hC) zf_X6_37 (zc_p05 hC) dX6_way_27 ?_
    refine lv_iload_n hx hb dX6_way_30 rfl (lv_at hl 1 rfl) ?_
    refine z_aNald M hw (e9 := 6) (zc_t5 hC) ⟨by decide, rfl⟩ rfl ⟨by omega, by omega⟩ (zc_pT hC (by omega)) dX6_way_31 ?_
    refine z_getr M hw (zc_tT hC (by omega)) zf_X6_171 (zc_pW hC (by omega)) dX6_way_32 ?_
    refine lv_iload_n hx hb dX6_way_35 rfl (lv_at hl 2 rfl) ?_
    refine z_ci0 (z_runV (As := [.int x]) (rest := []) M hw (zc_tW hC (by omega)) zc_X6_175 (c_X5_cableAt l base D cA ad ty q.1 q.2 P (80 + i.toNatClampNeg) 0 (zc_tW hC (by omega)) (96 + i.toNatClampNeg) (zc_tR hC (by omega)) (zc_pR hC (by omega)) x (zway_ix hneg (by rw [hqd]; exact zWl_stale hb4 hwl _ qi))) hw.1 rfl rfl ⟨Nat.le_of_ble_eq_true rfl, Nat.le_of_ble_eq_true rfl⟩ ⟨Nat.le_of_ble_eq_true rfl, Nat.le_of_ble_eq_true rfl⟩ hl.1 (Nat.le_of_ble_eq_true rfl) dX6_way_36) hw (fun H locs hw => ?_)
    exact z_xiret hx hb hr ⟨rfl, (by (try unfold zsq); (try first | rw [if_pos c1] | rw [if_neg c1]); (try first | rw [if_pos c2] | rw [if_neg c2]); (try first | rfl | assumption))⟩ rfl hw.2 hw.1 (Nat.le_of_ble_eq_true rfl) (Nat.le_of_ble_eq_true rfl) dX6_way_39 hlocks
  · skip
    have c2 : x < 0 := Int32.not_le.mp c2
    refine z_throw_at (oc0 := 1) (text := "a place is not below 0") (by (try unfold zsq); (try first | rw [if_pos c1] | rw [if_neg c1]); (try first | rw [if_pos c2] | rw [if_neg c2])) hl0 M hw (by decide) (by decide +kernel) zth_1 hl.1 dX6_way_12 dX6_way_15 dX6_way_16 dX6_way_18 dX6_way_21 hout ⟨Nat.le_of_ble_eq_true rfl, Nat.le_of_ble_eq_true rfl, Nat.le_of_ble_eq_true rfl, Nat.le_of_ble_eq_true rfl⟩ (Nat.le_of_ble_eq_true rfl) (Nat.le_of_ble_eq_true rfl) hlocks
set_option maxHeartbeats 4000000 in
set_option maxRecDepth 100000 in
theorem c_X6_sum (l : Launch) (base : Nat) (D : zDD) (cA : Nat → ClassId) (ad : Nat → Nat) (ty : zTyp) (I : zIt) (L : zLt) (P : zPt) (hl0 : l.stackTraces = false) (ni nc ns nt : Nat) (hC : zcls ni nc ns nt ty P) (hI : zInv ni nc ns nt I) (hfin : zFin nc) (i x : Int32) : zXi l base D cA yX6_sum cX6_sum 4 .int 7 117 2 12 [.ref (ad 0), .int i, .int x] (zW base D cA ad ty I L P) (zsq (zo1 i nt) (zo2 x 0 2)) (if x = 0 then (zStale nc nt (I, L)).1 (80 + i.toNatClampNeg) 2 else if x = 1 then (zStale nc nt (I, L)).1 (80 + i.toNatClampNeg) 3 else (zStale nc nt (I, L)).1 (80 + i.toNatClampNeg) 1) (zW base D cA ad ty (zStale nc nt (I, L)).1 (zStale nc nt (I, L)).2 P) := by
  refine z_xstart (by decide +kernel) (Nat.le_of_ble_eq_true rfl) fun p e s m below meth c ls M hP hS hl hr hlocks hnm hout => ?_
  have M : zM p s m c cX6_sum RX6 4 base D cA := M
  have hw : zH base D cA s s.heap [] ad ty I L P := ⟨hP, hS⟩
  obtain ⟨hx, hb, -⟩ := id M
  have hl : lv_has ls 4 [(0, .ref (ad 0)), (1, .int i), (2, .int x)] := hl
  obtain ⟨hb1, hb2, hb3, hb4⟩ := zc_b hC
  have hbb : nc ≤ 16 ∧ ns ≤ 4 ∧ nt ≤ 12 := ⟨hb2, hb3, hb4⟩
  refine lv_iload_n hx hb dX6_sum_0 rfl (lv_at hl 1 rfl) ?_
  refine lv_aload_n hx hb dX6_sum_1 rfl (lv_at hl 0 rfl) ?_
  refine z_geti M hw (zc_t0 hC) zf_X6_41 dX6_sum_2 ?_
  refine z_topi (y := nI nt) hI.1.2.2.2 ?_
  refine z_xcv (z_xrunS (As := [.int i, .int (nI nt)]) (rest := []) M hw.2 zc_X6_61 zn_X6_61 (c_X6_checkIndex l base D cA ad ty I L P hl0 i nt (by omega)) hw.1 rfl rfl ⟨Nat.le_of_ble_eq_true rfl, Nat.le_of_ble_eq_true rfl⟩ ⟨Nat.le_of_ble_eq_true rfl, Nat.le_of_ble_eq_true rfl⟩ hl.1 (Nat.le_of_ble_eq_true rfl) dX6_sum_5) hw.2 (fun c1 ce q H locs hw0 hS hq hv hcl => ?_) (fun c1 H locs hw1 hS => ?_)
  · exact z_xout c1 (by (try unfold zsq); (try first | rw [if_pos c1] | rw [if_neg c1]); (try first | rfl | assumption)) hw0 hS hq hv hcl hout (Nat.le_of_ble_eq_true rfl) (Nat.le_of_ble_eq_true rfl) hlocks
  have hw : zH base D cA s H locs ad ty I L P := ⟨hw1, hS⟩
  have hi := zo1_z c1
  have qi := (zlt_nat hi).2
  rw [(zlt_nat hi).1] at hl
  refine lv_iload_n hx hb dX6_sum_8 rfl (lv_at hl 2 rfl) ?_
  refine lv_iconst (v := 0) hx hb dX6_sum_9 (by decide) ?_
  refine lv_iconst (v := 2) hx hb dX6_sum_10 (by decide) ?_
  refine z_xcv (z_xrunS (As := [.int x, .int 0, .int 2]) (rest := []) M hw.2 zc_X6_51 zn_X6_51 (c_X6_checkRange l base D cA ad ty I L P hl0 x 0 2) hw.1 rfl rfl ⟨Nat.le_of_ble_eq_true rfl, Nat.le_of_ble_eq_true rfl⟩ ⟨Nat.le_of_ble_eq_true rfl, Nat.le_of_ble_eq_true rfl⟩ hl.1 (Nat.le_of_ble_eq_true rfl) dX6_sum_11) hw.2 (fun c2 ce q H locs hw0 hS hq hv hcl => ?_) (fun c2 H locs hw1 hS => ?_)
  · exact z_xout c2 (by (try unfold zsq); (try first | rw [if_pos c1] | rw [if_neg c1]); (try first | rw [if_pos c2] | rw [if_neg c2]); (try first | rfl | assumption)) hw0 hS hq hv hcl hout (Nat.le_of_ble_eq_true rfl) (Nat.le_of_ble_eq_true rfl) hlocks
  have hw : zH base D cA s H locs ad ty I L P := ⟨hw1, hS⟩
  have zc2 := zo2_z c2
  refine lv_aload_n hx hb dX6_sum_14 rfl (lv_at hl 0 rfl) ?_
  refine z_cv0 (z_runV (As := []) (rest := []) M hw (zc_t0 hC) zc_X6_168 (c_X6_findStaleWays l base D cA ad ty I L P ni nc ns nt hC hI hfin) hw.1 rfl rfl ⟨Nat.le_of_ble_eq_true rfl, Nat.le_of_ble_eq_true rfl⟩ ⟨Nat.le_of_ble_eq_true rfl, Nat.le_of_ble_eq_true rfl⟩ hl.1 (Nat.le_of_ble_eq_true rfl) dX6_sum_15) hw (fun H locs hw => ?_)
  obtain ⟨q, hqd⟩ : ∃ q, q = zStale nc nt (I, L) := ⟨_, rfl⟩
  rw [← hqd] at hw ⊢
  refine lv_aload_n hx hb dX6_sum_18 rfl (lv_at hl 0 rfl) ?_
  refine z_getr M hw (zc_t0 hC) zf_X6_37 (zc_p05 hC) dX6_sum_19 ?_
  refine lv_iload_n hx hb dX6_sum_22 rfl (lv_at hl 1 rfl) ?_
  refine z_aNald M hw (e9 := 6) (zc_t5 hC) ⟨by decide, rfl⟩ rfl ⟨by omega, by omega⟩ (zc_pT hC (by omega)) dX6_sum_23 ?_
  refine z_getr M hw (zc_tT hC (by omega)) zf_X6_171 (zc_pW hC (by omega)) dX6_sum_24 ?_
  refine lv_astore_n (lv' := [(3, .ref (ad (80 + i.toNatClampNeg))), (0, .ref (ad 0)), (1, .int (nI i.toNatClampNeg)), (2, .int x)]) hx hb dX6_sum_27 rfl hl (by decide) rfl (fun ls hl => ?_)
  refine lv_iload_n hx hb dX6_sum_28 rfl (lv_at hl 3 rfl) ?_
  by_cases h3 : x = 0
  · refine z_topi (y := 0) h3 ?_
    refine lv_lookup (off := 27) (tgt := 56) hx hb dX6_sum_29 (by decide) (by decide) (by decide) ?_
    refine lv_aload_n hx hb dX6_sum_56 rfl (lv_at hl 0 rfl) ?_
    refine z_geti M hw (zc_tW hC (by omega)) zf_X6_180 dX6_sum_57 ?_
    exact z_xiret hx hb hr ⟨(by (try first | rw [if_pos h3] | rw [if_neg h3])), (by (try unfold zsq); (try first | rw [if_pos c1] | rw [if_neg c1]); (try first | rw [if_pos c2] | rw [if_neg c2]); (try first | rw [if_pos h3] | rw [if_neg h3]); (try first | rfl | assumption))⟩ rfl hw.2 hw.1 (Nat.le_of_ble_eq_true rfl) (Nat.le_of_ble_eq_true rfl) dX6_sum_60 hlocks
  by_cases h4 : x = 1
  · refine z_topi (y := 1) h4 ?_
    refine lv_lookup (off := 32) (tgt := 61) hx hb dX6_sum_29 (by decide) (by decide) (by decide) ?_
    refine lv_aload_n hx hb dX6_sum_61 rfl (lv_at hl 0 rfl) ?_
    refine z_geti M hw (zc_tW hC (by omega)) zf_X6_183 dX6_sum_62 ?_
    exact z_xiret hx hb hr ⟨(by (try first | rw [if_pos h3] | rw [if_neg h3]); (try first | rw [if_pos h4] | rw [if_neg h4])), (by (try unfold zsq); (try first | rw [if_pos c1] | rw [if_neg c1]); (try first | rw [if_pos c2] | rw [if_neg c2]); (try first | rw [if_pos h3] | rw [if_neg h3]); (try first | rw [if_pos h4] | rw [if_neg h4]); (try first | rfl | assumption))⟩ rfl hw.2 hw.1 (Nat.le_of_ble_eq_true rfl) (Nat.le_of_ble_eq_true rfl) dX6_sum_65 hlocks
  refine lv_lookup (off := 37) (tgt := 66) hx hb dX6_sum_29 (by decide) (by simp [Op.lookupswitch.offset, z_t1 0 rfl h3, z_t1 1 rfl h4]) (by decide) ?_
  refine lv_aload_n hx hb dX6_sum_66 rfl (lv_at hl 0 rfl) ?_
  refine z_geti M hw (zc_tW hC (by omega)) zf_X6_186 dX6_sum_67 ?_
  exact z_xiret hx hb hr ⟨(by (try first | rw [if_pos h3] | rw [if_neg h3]); (try first | rw [if_pos h4] | rw [if_neg h4])), (by (try unfold zsq); (try first | rw [if_pos c1] | rw [if_neg c1]); (try first | rw [if_pos c2] | rw [if_neg c2]); (try first | rw [if_pos h3] | rw [if_neg h3]); (try first | rw [if_pos h4] | rw [if_neg h4]); (try first | rfl | assumption))⟩ rfl hw.2 hw.1 (Nat.le_of_ble_eq_true rfl) (Nat.le_of_ble_eq_true rfl) dX6_sum_70 hlocks
set_option maxHeartbeats 4000000 in
set_option maxRecDepth 100000 in
theorem c_X6_sumAnew (l : Launch) (base : Nat) (D : zDD) (cA : Nat → ClassId) (ad : Nat → Nat) (ty : zTyp) (I : zIt) (L : zLt) (P : zPt) (hl0 : l.stackTraces = false) (ni nc ns nt : Nat) (hC : zcls ni nc ns nt ty P) (hI : zInv ni nc ns nt I) (i : Int32) (u v : Nat) (hu : u < 10) (hv : v < 10) (eu : zlt i nt → I (64 + i.toNatClampNeg) 0 = nI u) (ev : zlt i nt → I (64 + i.toNatClampNeg) 1 = nI v) : zXi l base D cA yX6_sumAnew cX6_sumAnew 2 .int 7 111 1 6 [.ref (ad 0), .int i] (zW base D cA ad ty I L P) (zo1 i nt) (zPrr I nc (zS0 (I 8) u) 9 v) (zW base D cA ad ty (zs I 8 (zPrr I nc (zS0 (I 8) u) 9)) L P) := by
  refine z_xstart (by decide +kernel) (Nat.le_of_ble_eq_true rfl) fun p e s m below meth c ls M hP hS hl hr hlocks hnm hout => ?_
  have M : zM p s m c cX6_sumAnew RX6 2 base D cA := M
  have hw : zH base D cA s s.heap [] ad ty I L P := ⟨hP, hS⟩
  obtain ⟨hx, hb, -⟩ := id M
  have hl : lv_has ls 2 [(0, .ref (ad 0)), (1, .int i)] := hl
  obtain ⟨hb1, hb2, hb3, hb4⟩ := zc_b hC
  have hbb : nc ≤ 16 ∧ ns ≤ 4 ∧ nt ≤ 12 := ⟨hb2, hb3, hb4⟩
  refine lv_iload_n hx hb dX6_sumAnew_0 rfl (lv_at hl 1 rfl) ?_
  refine lv_aload_n hx hb dX6_sumAnew_1 rfl (lv_at hl 0 rfl) ?_
  refine z_geti M hw (zc_t0 hC) zf_X6_41 dX6_sumAnew_2 ?_
  refine z_topi (y := nI nt) hI.1.2.2.2 ?_
  refine z_xcv (z_xrunS (As := [.int i, .int (nI nt)]) (rest := []) M hw.2 zc_X6_61 zn_X6_61 (c_X6_checkIndex l base D cA ad ty I L P hl0 i nt (by omega)) hw.1 rfl rfl ⟨Nat.le_of_ble_eq_true rfl, Nat.le_of_ble_eq_true rfl⟩ ⟨Nat.le_of_ble_eq_true rfl, Nat.le_of_ble_eq_true rfl⟩ hl.1 (Nat.le_of_ble_eq_true rfl) dX6_sumAnew_5) hw.2 (fun c1 ce q H locs hw0 hS hq hv hcl => ?_) (fun c1 H locs hw1 hS => ?_)
  · exact z_xout c1 (by (try unfold zsq); (try first | rw [if_pos c1] | rw [if_neg c1]); (try first | rfl | assumption)) hw0 hS hq hv hcl hout (Nat.le_of_ble_eq_true rfl) (Nat.le_of_ble_eq_true rfl) hlocks
  have hw : zH base D cA s H locs ad ty I L P := ⟨hw1, hS⟩
  have hi := zo1_z c1
  have qi := (zlt_nat hi).2
  rw [(zlt_nat hi).1] at hl
  refine lv_aload_n hx hb dX6_sumAnew_8 rfl (lv_at hl 0 rfl) ?_
  refine z_getr M hw (zc_t0 hC) zf_X6_22 (zc_p02 hC) dX6_sumAnew_9 ?_
  refine lv_aload_n hx hb dX6_sumAnew_12 rfl (lv_at hl 0 rfl) ?_
  refine z_getr M hw (zc_t0 hC) zf_X6_37 (zc_p05 hC) dX6_sumAnew_13 ?_
  refine lv_iload_n hx hb dX6_sumAnew_16 rfl (lv_at hl 1 rfl) ?_
  refine z_aNald M hw (e9 := 6) (zc_t5 hC) ⟨by decide, rfl⟩ rfl ⟨by omega, by omega⟩ (zc_pT hC (by omega)) dX6_sumAnew_17 ?_
  refine z_geti M hw (zc_tT hC (by omega)) zf_X6_189 dX6_sumAnew_18 ?_
  refine z_topi (y := nI u) (eu hi) ?_
  refine lv_aload_n hx hb dX6_sumAnew_21 rfl (lv_at hl 0 rfl) ?_
  refine z_getr M hw (zc_t0 hC) zf_X6_37 (zc_p05 hC) dX6_sumAnew_22 ?_
  refine lv_iload_n hx hb dX6_sumAnew_25 rfl (lv_at hl 1 rfl) ?_
  refine z_aNald M hw (e9 := 6) (zc_t5 hC) ⟨by decide, rfl⟩ rfl ⟨by omega, by omega⟩ (zc_pT hC (by omega)) dX6_sumAnew_26 ?_
  refine z_geti M hw (zc_tT hC (by omega)) zf_X6_192 dX6_sumAnew_27 ?_
  refine z_topi (y := nI v) (ev hi) ?_
  refine z_ci0 (z_runV (As := [.int (nI u), .int (nI v)]) (rest := []) M hw (zc_t1 hC) zc_X6_195 (c_X2_priceByRounds l base D cA ad ty I L P ni nc ns nt hC hI.1.2.1 (zInv_ends hI) u v hu hv) hw.1 rfl rfl ⟨Nat.le_of_ble_eq_true rfl, Nat.le_of_ble_eq_true rfl⟩ ⟨Nat.le_of_ble_eq_true rfl, Nat.le_of_ble_eq_true rfl⟩ hl.1 (Nat.le_of_ble_eq_true rfl) dX6_sumAnew_30) hw (fun H locs hw => ?_)
  exact z_xiret hx hb hr ⟨rfl, (by (try unfold zsq); (try first | rw [if_pos c1] | rw [if_neg c1]); (try first | rfl | assumption))⟩ rfl hw.2 hw.1 (Nat.le_of_ble_eq_true rfl) (Nat.le_of_ble_eq_true rfl) dX6_sumAnew_33 hlocks
set_option maxHeartbeats 4000000 in
set_option maxRecDepth 100000 in
theorem c_X6_account (l : Launch) (base : Nat) (D : zDD) (cA : Nat → ClassId) (ad : Nat → Nat) (ty : zTyp) (I : zIt) (L : zLt) (P : zPt) (hl0 : l.stackTraces = false) (ni nc ns nt : Nat) (hC : zcls ni nc ns nt ty P) (hI : zInv ni nc ns nt I) (i x : Int32) : zXl l base D cA yX6_account cX6_account 4 7 112 2 12 [.ref (ad 0), .int i, .int x] (zW base D cA ad ty I L P) (zsq (zo1 i nt) (zo2 x 0 3)) (if x = 0 then L (64 + i.toNatClampNeg) 7 else if x = 1 then (I (64 + i.toNatClampNeg) 8).toInt64 else if x = 2 then (I (64 + i.toNatClampNeg) 9).toInt64 else (I (64 + i.toNatClampNeg) 10).toInt64) (zW base D cA ad ty I L P) := by
  refine z_xstart (by decide +kernel) (Nat.le_of_ble_eq_true rfl) fun p e s m below meth c ls M hP hS hl hr hlocks hnm hout => ?_
  have M : zM p s m c cX6_account RX6 4 base D cA := M
  have hw : zH base D cA s s.heap [] ad ty I L P := ⟨hP, hS⟩
  obtain ⟨hx, hb, -⟩ := id M
  have hl : lv_has ls 4 [(0, .ref (ad 0)), (1, .int i), (2, .int x)] := hl
  obtain ⟨hb1, hb2, hb3, hb4⟩ := zc_b hC
  have hbb : nc ≤ 16 ∧ ns ≤ 4 ∧ nt ≤ 12 := ⟨hb2, hb3, hb4⟩
  refine lv_iload_n hx hb dX6_account_0 rfl (lv_at hl 1 rfl) ?_
  refine lv_aload_n hx hb dX6_account_1 rfl (lv_at hl 0 rfl) ?_
  refine z_geti M hw (zc_t0 hC) zf_X6_41 dX6_account_2 ?_
  refine z_topi (y := nI nt) hI.1.2.2.2 ?_
  refine z_xcv (z_xrunS (As := [.int i, .int (nI nt)]) (rest := []) M hw.2 zc_X6_61 zn_X6_61 (c_X6_checkIndex l base D cA ad ty I L P hl0 i nt (by omega)) hw.1 rfl rfl ⟨Nat.le_of_ble_eq_true rfl, Nat.le_of_ble_eq_true rfl⟩ ⟨Nat.le_of_ble_eq_true rfl, Nat.le_of_ble_eq_true rfl⟩ hl.1 (Nat.le_of_ble_eq_true rfl) dX6_account_5) hw.2 (fun c1 ce q H locs hw0 hS hq hv hcl => ?_) (fun c1 H locs hw1 hS => ?_)
  · exact z_xout c1 (by (try unfold zsq); (try first | rw [if_pos c1] | rw [if_neg c1]); (try first | rfl | assumption)) hw0 hS hq hv hcl hout (Nat.le_of_ble_eq_true rfl) (Nat.le_of_ble_eq_true rfl) hlocks
  have hw : zH base D cA s H locs ad ty I L P := ⟨hw1, hS⟩
  have hi := zo1_z c1
  have qi := (zlt_nat hi).2
  rw [(zlt_nat hi).1] at hl
  refine lv_iload_n hx hb dX6_account_8 rfl (lv_at hl 2 rfl) ?_
  refine lv_iconst (v := 0) hx hb dX6_account_9 (by decide) ?_
  refine lv_iconst (v := 3) hx hb dX6_account_10 (by decide) ?_
  refine z_xcv (z_xrunS (As := [.int x, .int 0, .int 3]) (rest := []) M hw.2 zc_X6_51 zn_X6_51 (c_X6_checkRange l base D cA ad ty I L P hl0 x 0 3) hw.1 rfl rfl ⟨Nat.le_of_ble_eq_true rfl, Nat.le_of_ble_eq_true rfl⟩ ⟨Nat.le_of_ble_eq_true rfl, Nat.le_of_ble_eq_true rfl⟩ hl.1 (Nat.le_of_ble_eq_true rfl) dX6_account_11) hw.2 (fun c2 ce q H locs hw0 hS hq hv hcl => ?_) (fun c2 H locs hw1 hS => ?_)
  · exact z_xout c2 (by (try unfold zsq); (try first | rw [if_pos c1] | rw [if_neg c1]); (try first | rw [if_pos c2] | rw [if_neg c2]); (try first | rfl | assumption)) hw0 hS hq hv hcl hout (Nat.le_of_ble_eq_true rfl) (Nat.le_of_ble_eq_true rfl) hlocks
  have hw : zH base D cA s H locs ad ty I L P := ⟨hw1, hS⟩
  have zc2 := zo2_z c2
  refine lv_aload_n hx hb dX6_account_14 rfl (lv_at hl 0 rfl) ?_
  refine z_getr M hw (zc_t0 hC) zf_X6_37 (zc_p05 hC) dX6_account_15 ?_
  refine lv_iload_n hx hb dX6_account_18 rfl (lv_at hl 1 rfl) ?_
  refine z_aNald M hw (e9 := 6) (zc_t5 hC) ⟨by decide, rfl⟩ rfl ⟨by omega, by omega⟩ (zc_pT hC (by omega)) dX6_account_19 ?_
  refine lv_astore_n (lv' := [(3, .ref (ad (64 + i.toNatClampNeg))), (0, .ref (ad 0)), (1, .int (nI i.toNatClampNeg)), (2, .int x)]) hx hb dX6_account_20 rfl hl (by decide) rfl (fun ls hl => ?_)
  refine lv_iload_n hx hb dX6_account_21 rfl (lv_at hl 3 rfl) ?_
  by_cases h3 : x = 0
  · refine z_topi (y := 0) h3 ?_
    refine lv_tableIn (off := 26) (tgt := 48) hx hb dX6_account_22 (by decide) (by decide) (by decide) (by decide) ?_
    refine lv_aload_n hx hb dX6_account_48 rfl (lv_at hl 0 rfl) ?_
    refine z_getl M hw (zc_tT hC (by omega)) zf_X6_198 dX6_account_49 ?_
    exact z_xlret hx hb hr ⟨(by (try first | rw [if_pos h3] | rw [if_neg h3])), (by (try unfold zsq); (try first | rw [if_pos c1] | rw [if_neg c1]); (try first | rw [if_pos c2] | rw [if_neg c2]); (try first | rw [if_pos h3] | rw [if_neg h3]); (try first | rfl | assumption))⟩ hw.2 hw.1 (Nat.le_of_ble_eq_true rfl) (Nat.le_of_ble_eq_true rfl) dX6_account_52 hlocks
  by_cases h4 : x = 1
  · refine z_topi (y := 1) h4 ?_
    refine lv_tableIn (off := 31) (tgt := 53) hx hb dX6_account_22 (by decide) (by decide) (by decide) (by decide) ?_
    refine lv_aload_n hx hb dX6_account_53 rfl (lv_at hl 0 rfl) ?_
    refine z_geti M hw (zc_tT hC (by omega)) zf_X6_202 dX6_account_54 ?_
    refine lv_i2l hx hb dX6_account_57 rfl ?_
    exact z_xlret hx hb hr ⟨(by (try first | rw [if_pos h3] | rw [if_neg h3]); (try first | rw [if_pos h4] | rw [if_neg h4])), (by (try unfold zsq); (try first | rw [if_pos c1] | rw [if_neg c1]); (try first | rw [if_pos c2] | rw [if_neg c2]); (try first | rw [if_pos h3] | rw [if_neg h3]); (try first | rw [if_pos h4] | rw [if_neg h4]); (try first | rfl | assumption))⟩ hw.2 hw.1 (Nat.le_of_ble_eq_true rfl) (Nat.le_of_ble_eq_true rfl) dX6_account_58 hlocks
  by_cases h5 : x = 2
  · refine z_topi (y := 2) h5 ?_
    refine lv_tableIn (off := 37) (tgt := 59) hx hb dX6_account_22 (by decide) (by decide) (by decide) (by decide) ?_
    refine lv_aload_n hx hb dX6_account_59 rfl (lv_at hl 0 rfl) ?_
    refine z_geti M hw (zc_tT hC (by omega)) zf_X6_205 dX6_account_60 ?_
    refine lv_i2l hx hb dX6_account_63 rfl ?_
    exact z_xlret hx hb hr ⟨(by (try first | rw [if_pos h3] | rw [if_neg h3]); (try first | rw [if_pos h4] | rw [if_neg h4]); (try first | rw [if_pos h5] | rw [if_neg h5])), (by (try unfold zsq); (try first | rw [if_pos c1] | rw [if_neg c1]); (try first | rw [if_pos c2] | rw [if_neg c2]); (try first | rw [if_pos h3] | rw [if_neg h3]); (try first | rw [if_pos h4] | rw [if_neg h4]); (try first | rw [if_pos h5] | rw [if_neg h5]); (try first | rfl | assumption))⟩ hw.2 hw.1 (Nat.le_of_ble_eq_true rfl) (Nat.le_of_ble_eq_true rfl) dX6_account_64 hlocks
  refine lv_tableOut (tgt := 65) hx hb dX6_account_22 (by have q0 := z_t1 0 rfl h3; have q1 := z_t1 1 rfl h4; have q2 := z_t1 2 rfl h5; omega) (by decide) ?_
  refine lv_aload_n hx hb dX6_account_65 rfl (lv_at hl 0 rfl) ?_
  refine z_geti M hw (zc_tT hC (by omega)) zf_X6_208 dX6_account_66 ?_
  refine lv_i2l hx hb dX6_account_69 rfl ?_
  exact z_xlret hx hb hr ⟨(by (try first | rw [if_pos h3] | rw [if_neg h3]); (try first | rw [if_pos h4] | rw [if_neg h4]); (try first | rw [if_pos h5] | rw [if_neg h5])), (by (try unfold zsq); (try first | rw [if_pos c1] | rw [if_neg c1]); (try first | rw [if_pos c2] | rw [if_neg c2]); (try first | rw [if_pos h3] | rw [if_neg h3]); (try first | rw [if_pos h4] | rw [if_neg h4]); (try first | rw [if_pos h5] | rw [if_neg h5]); (try first | rfl | assumption))⟩ hw.2 hw.1 (Nat.le_of_ble_eq_true rfl) (Nat.le_of_ble_eq_true rfl) dX6_account_70 hlocks
set_option maxHeartbeats 4000000 in
set_option maxRecDepth 100000 in
theorem c_X6_reach (l : Launch) (base : Nat) (D : zDD) (cA : Nat → ClassId) (ad : Nat → Nat) (ty : zTyp) (I : zIt) (L : zLt) (P : zPt) (hl0 : l.stackTraces = false) (ni nc ns nt : Nat) (hC : zcls ni nc ns nt ty P) (hI : zInv ni nc ns nt I) (i : Int32) : zXi l base D cA yX6_reach cX6_reach 2 .int 7 111 1 6 [.ref (ad 0), .int i] (zW base D cA ad ty I L P) (zo1 i ni) (zRer I nc (1 <<< (nI i.toNatClampNeg &&& 31)) 9) (zW base D cA ad ty I L P) := by
  refine z_xstart (by decide +kernel) (Nat.le_of_ble_eq_true rfl) fun p e s m below meth c ls M hP hS hl hr hlocks hnm hout => ?_
  have M : zM p s m c cX6_reach RX6 2 base D cA := M
  have hw : zH base D cA s s.heap [] ad ty I L P := ⟨hP, hS⟩
  obtain ⟨hx, hb, -⟩ := id M
  have hl : lv_has ls 2 [(0, .ref (ad 0)), (1, .int i)] := hl
  obtain ⟨hb1, hb2, hb3, hb4⟩ := zc_b hC
  have hbb : nc ≤ 16 ∧ ns ≤ 4 ∧ nt ≤ 12 := ⟨hb2, hb3, hb4⟩
  refine lv_iload_n hx hb dX6_reach_0 rfl (lv_at hl 1 rfl) ?_
  refine lv_aload_n hx hb dX6_reach_1 rfl (lv_at hl 0 rfl) ?_
  refine z_geti M hw (zc_t0 hC) zf_X6_15 dX6_reach_2 ?_
  refine z_topi (y := nI ni) hI.1.1 ?_
  refine z_xcv (z_xrunS (As := [.int i, .int (nI ni)]) (rest := []) M hw.2 zc_X6_61 zn_X6_61 (c_X6_checkIndex l base D cA ad ty I L P hl0 i ni (by omega)) hw.1 rfl rfl ⟨Nat.le_of_ble_eq_true rfl, Nat.le_of_ble_eq_true rfl⟩ ⟨Nat.le_of_ble_eq_true rfl, Nat.le_of_ble_eq_true rfl⟩ hl.1 (Nat.le_of_ble_eq_true rfl) dX6_reach_5) hw.2 (fun c1 ce q H locs hw0 hS hq hv hcl => ?_) (fun c1 H locs hw1 hS => ?_)
  · exact z_xout c1 (by (try unfold zsq); (try first | rw [if_pos c1] | rw [if_neg c1]); (try first | rfl | assumption)) hw0 hS hq hv hcl hout (Nat.le_of_ble_eq_true rfl) (Nat.le_of_ble_eq_true rfl) hlocks
  have hw : zH base D cA s H locs ad ty I L P := ⟨hw1, hS⟩
  have hi := zo1_z c1
  have qi := (zlt_nat hi).2
  rw [(zlt_nat hi).1] at hl
  refine lv_aload_n hx hb dX6_reach_8 rfl (lv_at hl 0 rfl) ?_
  refine z_getr M hw (zc_t0 hC) zf_X6_22 (zc_p02 hC) dX6_reach_9 ?_
  refine lv_iload_n hx hb dX6_reach_12 rfl (lv_at hl 1 rfl) ?_
  refine z_ci0 (z_runV (As := [.int (nI i.toNatClampNeg)]) (rest := []) M hw (zc_t1 hC) zc_X6_211 (c_X2_reachedFrom l base D cA ad ty I L P ni nc ns nt hC hI.1.2.1 i.toNatClampNeg (by omega)) hw.1 rfl rfl ⟨Nat.le_of_ble_eq_true rfl, Nat.le_of_ble_eq_true rfl⟩ ⟨Nat.le_of_ble_eq_true rfl, Nat.le_of_ble_eq_true rfl⟩ hl.1 (Nat.le_of_ble_eq_true rfl) dX6_reach_13) hw (fun H locs hw => ?_)
  exact z_xiret hx hb hr ⟨rfl, (by (try unfold zsq); (try first | rw [if_pos c1] | rw [if_neg c1]); (try first | rfl | assumption))⟩ rfl hw.2 hw.1 (Nat.le_of_ble_eq_true rfl) (Nat.le_of_ble_eq_true rfl) dX6_reach_16 hlocks
