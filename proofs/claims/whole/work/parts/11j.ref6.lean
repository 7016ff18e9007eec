set_option maxHeartbeats 4000000 in
set_option maxRecDepth 100000 in
theorem c_X7_works (l : Launch) (base : Nat) (D : va_G) (cA : Nat → ClassId) (ad : Nat → Nat) (ty : zTyp) (I : zIt) (L : zLt) (P : zPt) (hR : zref ty P) (ni nc ns nt : Nat) (hbd : zRbd ni nc ns nt) (hV : zRv ni nc ns nt I) (i : Int32) : zMi l base D cA yX7_works cX7_works 2 .boolean 2 43 0 0 [.ref (ad 128), .int i] (zW base D cA ad ty I L P) (if (if zlt i nc then 0 else 1) = 0 then zb (zDwb (zu I 128 0 0) (nI i.toNatClampNeg) = true) else 0) (zW base D cA ad ty (if (if zlt i nc then 0 else 1) = 0 then (zu I 128 0 0) else zu I 128 0 (nI (if zlt i nc then 0 else 1))) L P) := by
  refine z_start (by decide +kernel) (Nat.le_of_ble_eq_true rfl) fun p e s m below meth c ls M hP hS hl hr hlocks hnm => ?_
  have M : zM p s m c cX7_works RX7 2 base D cA := M
  have hw : zH base D cA s s.heap [] ad ty I L P := ⟨hP, hS⟩
  obtain ⟨hx, hb, -⟩ := id M
  have hl : lv_has ls 2 [(0, .ref (ad 128)), (1, .int i)] := hl
  obtain ⟨hb1, hb2, hb3, hb4⟩ := id hbd
  refine lv_aload_n hx hb dX7_works_0 rfl (lv_at hl 0 rfl) ?_
  refine lv_aload_n hx hb dX7_works_1 rfl (lv_at hl 0 rfl) ?_
  refine lv_iload_n hx hb dX7_works_2 rfl (lv_at hl 1 rfl) ?_
  refine z_ci0 (z_runV (As := [.int i]) (rest := [.ref (ad 128)]) M hw (zr_t hR 128 7 0 (by decide)) zc_X7_98 (c_X7_isCable l base D cA ad ty I L P hR nc hV.1.2.1 (by omega) i) hw.1 rfl rfl ⟨Nat.le_of_ble_eq_true rfl, Nat.le_of_ble_eq_true rfl⟩ ⟨Nat.le_of_ble_eq_true rfl, Nat.le_of_ble_eq_true rfl⟩ hl.1 (Nat.le_of_ble_eq_true rfl) dX7_works_3) hw (fun H locs hw => ?_)
  refine lv_if_eq (tgt := 13) hx hb dX7_works_6 (by decide) (fun c1 => ?_) (fun c1 => ?_)
  · skip
    have c1 := zb_eq0.mp c1
    refine lv_iconst (v := 1) hx hb dX7_works_13 (by decide) ?_
    refine z_ci0 (z_runV (As := [.int 1]) (rest := []) M hw (zr_t hR 128 7 0 (by decide)) zc_X7_108 (c_X7_goesWell l base D cA ad ty I L P hR 1) hw.1 rfl rfl ⟨Nat.le_of_ble_eq_true rfl, Nat.le_of_ble_eq_true rfl⟩ ⟨Nat.le_of_ble_eq_true rfl, Nat.le_of_ble_eq_true rfl⟩ hl.1 (Nat.le_of_ble_eq_true rfl) dX7_works_14) hw (fun H locs hw => ?_)
    refine z_topi (y := 0) (zb_0 (by decide)) ?_
    have hpl : (if zlt i nc then 0 else 1) = 1 := by (try first | rw [if_pos c1] | rw [if_neg c1])
    refine lv_if_eq (tgt := 32) hx hb dX7_works_17 (by decide) (fun c2 => ?_) (fun c2 => ?_)
    rotate_left
    · exact absurd c2 (by decide)
    refine lv_iconst (v := 0) hx hb dX7_works_32 (by decide) ?_
    exact z_iret hx hb hr (by rw [hpl]; rfl) rfl hw.2 (by rw [hpl]; exact hw.1) (Nat.le_of_ble_eq_true rfl) (Nat.le_of_ble_eq_true rfl) dX7_works_33 hlocks
  · skip
    have c1 := zb_ne0.mp c1
    refine lv_iconst (v := 0) hx hb dX7_works_9 (by decide) ?_
    refine lv_goto (tgt := 14) hx hb dX7_works_10 (by decide) ?_
    refine z_ci0 (z_runV (As := [.int 0]) (rest := []) M hw (zr_t hR 128 7 0 (by decide)) zc_X7_108 (c_X7_goesWell l base D cA ad ty I L P hR 0) hw.1 rfl rfl ⟨Nat.le_of_ble_eq_true rfl, Nat.le_of_ble_eq_true rfl⟩ ⟨Nat.le_of_ble_eq_true rfl, Nat.le_of_ble_eq_true rfl⟩ hl.1 (Nat.le_of_ble_eq_true rfl) dX7_works_14) hw (fun H locs hw => ?_)
    refine z_topi (y := 1) (zb_1 (by decide)) ?_
    have hpl : (if zlt i nc then 0 else 1) = 0 := by (try first | rw [if_pos c1] | rw [if_neg c1])
    have hVZ : zRv ni nc ns nt (zu I 128 0 0) := zRv_zu (by unfold zRl; omega) hV
    have qi := (zlt_nat c1).2
    rw [(zlt_nat c1).1] at hl
    refine lv_if_eq (tgt := 32) hx hb dX7_works_17 (by decide) (fun c3 => ?_) (fun c3 => ?_)
    · exact absurd c3 (by decide)
    refine lv_aload_n hx hb dX7_works_20 rfl (lv_at hl 0 rfl) ?_
    refine lv_iload_n hx hb dX7_works_21 rfl (lv_at hl 1 rfl) ?_
    refine z_ci0 (z_runV (As := [.int (nI i.toNatClampNeg)]) (rest := []) M hw (zr_t hR 128 7 0 (by decide)) zc_X7_152 (c_X7_doesWork l base D cA ad ty (zu I 128 0 0) L P hR hVZ.2.1.1 hVZ.2.1.2 (nI i.toNatClampNeg)) hw.1 rfl rfl ⟨Nat.le_of_ble_eq_true rfl, Nat.le_of_ble_eq_true rfl⟩ ⟨Nat.le_of_ble_eq_true rfl, Nat.le_of_ble_eq_true rfl⟩ hl.1 (Nat.le_of_ble_eq_true rfl) dX7_works_22) hw (fun H locs hw => ?_)
    refine lv_if_eq (tgt := 32) hx hb dX7_works_25 (by decide) (fun c4 => ?_) (fun c4 => ?_)
    · skip
      have c4 := zb_eq0.mp c4
      refine lv_iconst (v := 0) hx hb dX7_works_32 (by decide) ?_
      exact z_iret hx hb hr (by rw [hpl]; exact (zb_0 c4).symm) rfl hw.2 (by rw [hpl]; exact hw.1) (Nat.le_of_ble_eq_true rfl) (Nat.le_of_ble_eq_true rfl) dX7_works_33 hlocks
    · skip
      have c4 := zb_ne0.mp c4
      refine lv_iconst (v := 1) hx hb dX7_works_28 (by decide) ?_
      refine lv_goto (tgt := 33) hx hb dX7_works_29 (by decide) ?_
      exact z_iret hx hb hr (by rw [hpl]; exact (zb_1 c4).symm) rfl hw.2 (by rw [hpl]; exact hw.1) (Nat.le_of_ble_eq_true rfl) (Nat.le_of_ble_eq_true rfl) dX7_works_33 hlocks
set_option maxHeartbeats 4000000 in
set_option maxRecDepth 100000 in
theorem c_X7_faultAt (l : Launch) (base : Nat) (D : va_G) (cA : Nat → ClassId) (ad : Nat → Nat) (ty : zTyp) (I : zIt) (L : zLt) (P : zPt) (hR : zref ty P) (ni nc ns nt : Nat) (hbd : zRbd ni nc ns nt) (hV : zRv ni nc ns nt I) (x : Int32) : zMi l base D cA yX7_faultAt cX7_faultAt 2 .int 1 21 0 0 [.ref (ad 128), .int x] (zW base D cA ad ty I L P) (if (if x < 0 then 1 else 0) = 0 then (if x.toNatClampNeg < zRn I then I 140 x.toNatClampNeg else -1) else 0) (zW base D cA ad ty (if (if x < 0 then 1 else 0) = 0 then (zu I 128 0 0) else zu I 128 0 (nI (if x < 0 then 1 else 0))) L P) := by
  refine z_start (by decide +kernel) (Nat.le_of_ble_eq_true rfl) fun p e s m below meth c ls M hP hS hl hr hlocks hnm => ?_
  have M : zM p s m c cX7_faultAt RX7 2 base D cA := M
  have hw : zH base D cA s s.heap [] ad ty I L P := ⟨hP, hS⟩
  obtain ⟨hx, hb, -⟩ := id M
  have hl : lv_has ls 2 [(0, .ref (ad 128)), (1, .int x)] := hl
  obtain ⟨hb1, hb2, hb3, hb4⟩ := id hbd
  refine lv_aload_n hx hb dX7_faultAt_0 rfl (lv_at hl 0 rfl) ?_
  refine lv_iload_n hx hb dX7_faultAt_1 rfl (lv_at hl 1 rfl) ?_
  refine lv_if_lt (tgt := 9) hx hb dX7_faultAt_2 (by decide) (fun c1 => ?_) (fun c1 => ?_)
  · skip
    refine lv_iconst (v := 1) hx hb dX7_faultAt_9 (by decide) ?_
    refine z_ci0 (z_runV (As := [.int 1]) (rest := []) M hw (zr_t hR 128 7 0 (by decide)) zc_X7_108 (c_X7_goesWell l base D cA ad ty I L P hR 1) hw.1 rfl rfl ⟨Nat.le_of_ble_eq_true rfl, Nat.le_of_ble_eq_true rfl⟩ ⟨Nat.le_of_ble_eq_true rfl, Nat.le_of_ble_eq_true rfl⟩ hl.1 (Nat.le_of_ble_eq_true rfl) dX7_faultAt_10) hw (fun H locs hw => ?_)
    refine z_topi (y := 0) (zb_0 (by decide)) ?_
    have hpl : (if x < 0 then 1 else 0) = 1 := by (try first | rw [if_pos c1] | rw [if_neg c1])
    refine lv_if_ne (tgt := 18) hx hb dX7_faultAt_13 (by decide) (fun c2 => ?_) (fun c2 => ?_)
    · exact absurd c2 (by decide)
    refine lv_iconst (v := 0) hx hb dX7_faultAt_16 (by decide) ?_
    exact z_iret hx hb hr (by rw [hpl]; rfl) rfl hw.2 (by rw [hpl]; exact hw.1) (Nat.le_of_ble_eq_true rfl) (Nat.le_of_ble_eq_true rfl) dX7_faultAt_17 hlocks
  · skip
    refine lv_iconst (v := 0) hx hb dX7_faultAt_5 (by decide) ?_
    refine lv_goto (tgt := 10) hx hb dX7_faultAt_6 (by decide) ?_
    refine z_ci0 (z_runV (As := [.int 0]) (rest := []) M hw (zr_t hR 128 7 0 (by decide)) zc_X7_108 (c_X7_goesWell l base D cA ad ty I L P hR 0) hw.1 rfl rfl ⟨Nat.le_of_ble_eq_true rfl, Nat.le_of_ble_eq_true rfl⟩ ⟨Nat.le_of_ble_eq_true rfl, Nat.le_of_ble_eq_true rfl⟩ hl.1 (Nat.le_of_ble_eq_true rfl) dX7_faultAt_10) hw (fun H locs hw => ?_)
    refine z_topi (y := 1) (zb_1 (by decide)) ?_
    have hpl : (if x < 0 then 1 else 0) = 0 := by (try first | rw [if_pos c1] | rw [if_neg c1])
    have hVZ : zRv ni nc ns nt (zu I 128 0 0) := zRv_zu (by unfold zRl; omega) hV
    refine lv_if_ne (tgt := 18) hx hb dX7_faultAt_13 (by decide) (fun c3 => ?_) (fun c3 => ?_)
    rotate_left
    · exact absurd c3 (by decide)
    refine lv_iload_n hx hb dX7_faultAt_18 rfl (lv_at hl 1 rfl) ?_
    refine lv_aload_n hx hb dX7_faultAt_19 rfl (lv_at hl 0 rfl) ?_
    refine z_geti M hw (zr_t hR 128 7 0 (by decide)) zf_X7_114 dX7_faultAt_20 ?_
    refine z_topi (y := I 128 11) (by rw [zu_ne _ _ (by omega)]) ?_
    refine z_topi (y := nI (zRn I)) hV.2.1.1 ?_
    refine lv_icmp_ge (tgt := 35) hx hb dX7_faultAt_23 (by decide) (fun c4 => ?_) (fun c4 => ?_)
    · skip
      have hz := zge_ge (by have := hV.2.1.2; omega) c4
      refine lv_iconst (v := (-1)) hx hb dX7_faultAt_35 (by decide) ?_
      exact z_iret hx hb hr (by rw [hpl, if_pos rfl]; first | rw [if_pos hz2] | rw [if_neg hz]) rfl hw.2 (by rw [hpl]; exact hw.1) (Nat.le_of_ble_eq_true rfl) (Nat.le_of_ble_eq_true rfl) dX7_faultAt_36 hlocks
    · skip
      have hz := zge_lt (by have := hV.2.1.2; omega) c1 c4
      have hz2 := hz.2
      have hr9 := hV.2.1.2
      refine lv_aload_n hx hb dX7_faultAt_26 rfl (lv_at hl 0 rfl) ?_
      refine z_getr M hw (zr_t hR 128 7 0 (by decide)) zf_X7_31 (zr_p hR 12 (by decide)) dX7_faultAt_27 ?_
      refine lv_iload_n hx hb dX7_faultAt_30 rfl (lv_at hl 1 rfl) ?_
      refine z_iNald M hw (zr_t hR 140 8 128 (by decide)) hz.1 ⟨by omega, by omega⟩ dX7_faultAt_31 ?_
      refine z_topi (y := I 140 x.toNatClampNeg) (by rw [zu_ne _ _ (by omega)]) ?_
      refine lv_goto (tgt := 36) hx hb dX7_faultAt_32 (by decide) ?_
      exact z_iret hx hb hr (by rw [hpl, if_pos rfl]; first | rw [if_pos hz2] | rw [if_neg hz]) rfl hw.2 (by rw [hpl]; exact hw.1) (Nat.le_of_ble_eq_true rfl) (Nat.le_of_ble_eq_true rfl) dX7_faultAt_36 hlocks
set_option maxHeartbeats 4000000 in
set_option maxRecDepth 100000 in
theorem c_X7_shipOf (l : Launch) (base : Nat) (D : va_G) (cA : Nat → ClassId) (ad : Nat → Nat) (ty : zTyp) (I : zIt) (L : zLt) (P : zPt) (hR : zref ty P) (ni nc ns nt : Nat) (hbd : zRbd ni nc ns nt) (hV : zRv ni nc ns nt I) (i x : Int32) : zMi l base D cA yX7_shipOf cX7_shipOf 4 .int 2 43 0 0 [.ref (ad 128), .int i, .int x] (zW base D cA ad ty I L P) (if (if zlt i ns then (if zin x 0 4 then 0 else 2) else 1) = 0 then (if x = 0 then I 143 i.toNatClampNeg else if x = 1 then I 144 i.toNatClampNeg else if x = 2 then I 145 i.toNatClampNeg else if x = 3 then I 146 i.toNatClampNeg else I 148 i.toNatClampNeg) else 0) (zW base D cA ad ty (if (if zlt i ns then (if zin x 0 4 then 0 else 2) else 1) = 0 then (zu I 128 0 0) else zu I 128 0 (nI (if zlt i ns then (if zin x 0 4 then 0 else 2) else 1))) L P) := by
  refine z_start (by decide +kernel) (Nat.le_of_ble_eq_true rfl) fun p e s m below meth c ls M hP hS hl hr hlocks hnm => ?_
  have M : zM p s m c cX7_shipOf RX7 4 base D cA := M
  have hw : zH base D cA s s.heap [] ad ty I L P := ⟨hP, hS⟩
  obtain ⟨hx, hb, -⟩ := id M
  have hl : lv_has ls 4 [(0, .ref (ad 128)), (1, .int i), (2, .int x)] := hl
  obtain ⟨hb1, hb2, hb3, hb4⟩ := id hbd
  refine lv_aload_n hx hb dX7_shipOf_0 rfl (lv_at hl 0 rfl) ?_
  refine lv_iload_n hx hb dX7_shipOf_1 rfl (lv_at hl 1 rfl) ?_
  refine z_ci0 (z_runV (As := [.int i]) (rest := []) M hw (zr_t hR 128 7 0 (by decide)) zc_X7_132 (c_X7_isShip l base D cA ad ty I L P hR ns hV.1.2.2.1 (by omega) i) hw.1 rfl rfl ⟨Nat.le_of_ble_eq_true rfl, Nat.le_of_ble_eq_true rfl⟩ ⟨Nat.le_of_ble_eq_true rfl, Nat.le_of_ble_eq_true rfl⟩ hl.1 (Nat.le_of_ble_eq_true rfl) dX7_shipOf_2) hw (fun H locs hw => ?_)
  refine lv_istore_n (lv' := [(3, .int (zb (zlt i ns))), (0, .ref (ad 128)), (1, .int i), (2, .int x)]) hx hb dX7_shipOf_5 rfl hl (by decide) rfl (fun ls hl => ?_)
  refine lv_aload_n hx hb dX7_shipOf_6 rfl (lv_at hl 1 rfl) ?_
  refine lv_iload_n hx hb dX7_shipOf_7 rfl (lv_at hl 0 rfl) ?_
  refine lv_if_ne (tgt := 15) hx hb dX7_shipOf_8 (by decide) (fun c1 => ?_) (fun c1 => ?_)
  · skip
    have c1 := zb_ne0.mp c1
    refine lv_iload_n hx hb dX7_shipOf_15 rfl (lv_at hl 3 rfl) ?_
    refine lv_iconst (v := 0) hx hb dX7_shipOf_16 (by decide) ?_
    refine lv_iconst (v := 4) hx hb dX7_shipOf_17 (by decide) ?_
    refine z_ci0 (z_runS (As := [.int x, .int 0, .int 4]) (rest := [.ref (ad 128)]) M hw.2 zc_X7_91 (c_X7_in l base D cA ad ty I L P x 0 4) hw.1 rfl rfl ⟨Nat.le_of_ble_eq_true rfl, Nat.le_of_ble_eq_true rfl⟩ ⟨Nat.le_of_ble_eq_true rfl, Nat.le_of_ble_eq_true rfl⟩ hl.1 (Nat.le_of_ble_eq_true rfl) dX7_shipOf_18) hw (fun H locs hw => ?_)
    refine lv_if_eq (tgt := 28) hx hb dX7_shipOf_21 (by decide) (fun c2 => ?_) (fun c2 => ?_)
    · skip
      have c2 := zb_eq0.mp c2
      refine lv_iconst (v := 2) hx hb dX7_shipOf_28 (by decide) ?_
      refine z_ci0 (z_runV (As := [.int 2]) (rest := []) M hw (zr_t hR 128 7 0 (by decide)) zc_X7_108 (c_X7_goesWell l base D cA ad ty I L P hR 2) hw.1 rfl rfl ⟨Nat.le_of_ble_eq_true rfl, Nat.le_of_ble_eq_true rfl⟩ ⟨Nat.le_of_ble_eq_true rfl, Nat.le_of_ble_eq_true rfl⟩ hl.1 (Nat.le_of_ble_eq_true rfl) dX7_shipOf_29) hw (fun H locs hw => ?_)
      refine z_topi (y := 0) (zb_0 (by decide)) ?_
      have hpl : (if zlt i ns then (if zin x 0 4 then 0 else 2) else 1) = 2 := by (try first | rw [if_pos c1] | rw [if_neg c1]); (try first | rw [if_pos c2] | rw [if_neg c2])
      refine lv_if_ne (tgt := 37) hx hb dX7_shipOf_32 (by decide) (fun c3 => ?_) (fun c3 => ?_)
      · exact absurd c3 (by decide)
      refine lv_iconst (v := 0) hx hb dX7_shipOf_35 (by decide) ?_
      exact z_iret hx hb hr (by rw [hpl]; rfl) rfl hw.2 (by rw [hpl]; exact hw.1) (Nat.le_of_ble_eq_true rfl) (Nat.le_of_ble_eq_true rfl) dX7_shipOf_36 hlocks
    · skip
      have c2 := zb_ne0.mp c2
      refine lv_iconst (v := 0) hx hb dX7_shipOf_24 (by decide) ?_
      refine lv_goto (tgt := 29) hx hb dX7_shipOf_25 (by decide) ?_
      refine z_ci0 (z_runV (As := [.int 0]) (rest := []) M hw (zr_t hR 128 7 0 (by decide)) zc_X7_108 (c_X7_goesWell l base D cA ad ty I L P hR 0) hw.1 rfl rfl ⟨Nat.le_of_ble_eq_true rfl, Nat.le_of_ble_eq_true rfl⟩ ⟨Nat.le_of_ble_eq_true rfl, Nat.le_of_ble_eq_true rfl⟩ hl.1 (Nat.le_of_ble_eq_true rfl) dX7_shipOf_29) hw (fun H locs hw => ?_)
      refine z_topi (y := 1) (zb_1 (by decide)) ?_
      have hpl : (if zlt i ns then (if zin x 0 4 then 0 else 2) else 1) = 0 := by (try first | rw [if_pos c1] | rw [if_neg c1]); (try first | rw [if_pos c2] | rw [if_neg c2])
      have hVZ : zRv ni nc ns nt (zu I 128 0 0) := zRv_zu (by unfold zRl; omega) hV
      have qi := (zlt_nat c1).2
      rw [(zlt_nat c1).1] at hl
      refine lv_if_ne (tgt := 37) hx hb dX7_shipOf_32 (by decide) (fun c4 => ?_) (fun c4 => ?_)
      rotate_left
      · exact absurd c4 (by decide)
      refine lv_iload_n hx hb dX7_shipOf_37 rfl (lv_at hl 3 rfl) ?_
      refine lv_if_ne (tgt := 50) hx hb dX7_shipOf_38 (by decide) (fun c5 => ?_) (fun c5 => ?_)
      · skip
        refine lv_iload_n hx hb dX7_shipOf_50 rfl (lv_at hl 3 rfl) ?_
        refine lv_iconst (v := 1) hx hb dX7_shipOf_51 (by decide) ?_
        refine lv_icmp_ne (tgt := 64) hx hb dX7_shipOf_52 (by decide) (fun c6 => ?_) (fun c6 => ?_)
        · skip
          refine lv_iload_n hx hb dX7_shipOf_64 rfl (lv_at hl 3 rfl) ?_
          refine lv_iconst (v := 2) hx hb dX7_shipOf_65 (by decide) ?_
          refine lv_icmp_ne (tgt := 78) hx hb dX7_shipOf_66 (by decide) (fun c7 => ?_) (fun c7 => ?_)
          · skip
            refine lv_iload_n hx hb dX7_shipOf_78 rfl (lv_at hl 3 rfl) ?_
            refine lv_iconst (v := 3) hx hb dX7_shipOf_79 (by decide) ?_
            refine lv_icmp_ne (tgt := 92) hx hb dX7_shipOf_80 (by decide) (fun c8 => ?_) (fun c8 => ?_)
            · skip
              refine lv_aload_n hx hb dX7_shipOf_92 rfl (lv_at hl 1 rfl) ?_
              refine z_getr M hw (zr_t hR 128 7 0 (by decide)) zf_X7_52 (zr_p hR 20 (by decide)) dX7_shipOf_93 ?_
              refine lv_iload_n hx hb dX7_shipOf_96 rfl (lv_at hl 2 rfl) ?_
              refine z_iNald M hw (zr_t hR 148 8 4 (by decide)) rfl ⟨by omega, by omega⟩ dX7_shipOf_97 ?_
              refine z_topi (y := I 148 i.toNatClampNeg) (by rw [zu_ne _ _ (by omega)]) ?_
              exact z_iret hx hb hr (by rw [hpl, if_pos rfl]; (try first | rw [if_pos c5] | rw [if_neg c5]); (try first | rw [if_pos c6] | rw [if_neg c6]); (try first | rw [if_pos c7] | rw [if_neg c7]); (try first | rw [if_pos c8] | rw [if_neg c8])) rfl hw.2 (by rw [hpl]; exact hw.1) (Nat.le_of_ble_eq_true rfl) (Nat.le_of_ble_eq_true rfl) dX7_shipOf_98 hlocks
            · skip
              refine lv_aload_n hx hb dX7_shipOf_83 rfl (lv_at hl 1 rfl) ?_
              refine z_getr M hw (zr_t hR 128 7 0 (by decide)) zf_X7_46 (zr_p hR 18 (by decide)) dX7_shipOf_84 ?_
              refine lv_iload_n hx hb dX7_shipOf_87 rfl (lv_at hl 2 rfl) ?_
              refine z_iNald M hw (zr_t hR 146 8 4 (by decide)) rfl ⟨by omega, by omega⟩ dX7_shipOf_88 ?_
              refine z_topi (y := I 146 i.toNatClampNeg) (by rw [zu_ne _ _ (by omega)]) ?_
              refine lv_goto (tgt := 98) hx hb dX7_shipOf_89 (by decide) ?_
              exact z_iret hx hb hr (by rw [hpl, if_pos rfl]; (try first | rw [if_pos c5] | rw [if_neg c5]); (try first | rw [if_pos c6] | rw [if_neg c6]); (try first | rw [if_pos c7] | rw [if_neg c7]); (try first | rw [if_pos c8] | rw [if_neg c8])) rfl hw.2 (by rw [hpl]; exact hw.1) (Nat.le_of_ble_eq_true rfl) (Nat.le_of_ble_eq_true rfl) dX7_shipOf_98 hlocks
          · skip
            refine lv_aload_n hx hb dX7_shipOf_69 rfl (lv_at hl 1 rfl) ?_
            refine z_getr M hw (zr_t hR 128 7 0 (by decide)) zf_X7_43 (zr_p hR 17 (by decide)) dX7_shipOf_70 ?_
            refine lv_iload_n hx hb dX7_shipOf_73 rfl (lv_at hl 2 rfl) ?_
            refine z_iNald M hw (zr_t hR 145 8 4 (by decide)) rfl ⟨by omega, by omega⟩ dX7_shipOf_74 ?_
            refine z_topi (y := I 145 i.toNatClampNeg) (by rw [zu_ne _ _ (by omega)]) ?_
            refine lv_goto (tgt := 98) hx hb dX7_shipOf_75 (by decide) ?_
            exact z_iret hx hb hr (by rw [hpl, if_pos rfl]; (try first | rw [if_pos c5] | rw [if_neg c5]); (try first | rw [if_pos c6] | rw [if_neg c6]); (try first | rw [if_pos c7] | rw [if_neg c7])) rfl hw.2 (by rw [hpl]; exact hw.1) (Nat.le_of_ble_eq_true rfl) (Nat.le_of_ble_eq_true rfl) dX7_shipOf_98 hlocks
        · skip
          refine lv_aload_n hx hb dX7_shipOf_55 rfl (lv_at hl 1 rfl) ?_
          refine z_getr M hw (zr_t hR 128 7 0 (by decide)) zf_X7_40 (zr_p hR 16 (by decide)) dX7_shipOf_56 ?_
          refine lv_iload_n hx hb dX7_shipOf_59 rfl (lv_at hl 2 rfl) ?_
          refine z_iNald M hw (zr_t hR 144 8 4 (by decide)) rfl ⟨by omega, by omega⟩ dX7_shipOf_60 ?_
          refine z_topi (y := I 144 i.toNatClampNeg) (by rw [zu_ne _ _ (by omega)]) ?_
          refine lv_goto (tgt := 98) hx hb dX7_shipOf_61 (by decide) ?_
          exact z_iret hx hb hr (by rw [hpl, if_pos rfl]; (try first | rw [if_pos c5] | rw [if_neg c5]); (try first | rw [if_pos c6] | rw [if_neg c6])) rfl hw.2 (by rw [hpl]; exact hw.1) (Nat.le_of_ble_eq_true rfl) (Nat.le_of_ble_eq_true rfl) dX7_shipOf_98 hlocks
      · skip
        refine lv_aload_n hx hb dX7_shipOf_41 rfl (lv_at hl 1 rfl) ?_
        refine z_getr M hw (zr_t hR 128 7 0 (by decide)) zf_X7_37 (zr_p hR 15 (by decide)) dX7_shipOf_42 ?_
        refine lv_iload_n hx hb dX7_shipOf_45 rfl (lv_at hl 2 rfl) ?_
        refine z_iNald M hw (zr_t hR 143 8 4 (by decide)) rfl ⟨by omega, by omega⟩ dX7_shipOf_46 ?_
        refine z_topi (y := I 143 i.toNatClampNeg) (by rw [zu_ne _ _ (by omega)]) ?_
        refine lv_goto (tgt := 98) hx hb dX7_shipOf_47 (by decide) ?_
        exact z_iret hx hb hr (by rw [hpl, if_pos rfl]; (try first | rw [if_pos c5] | rw [if_neg c5])) rfl hw.2 (by rw [hpl]; exact hw.1) (Nat.le_of_ble_eq_true rfl) (Nat.le_of_ble_eq_true rfl) dX7_shipOf_98 hlocks
  · skip
    have c1 := zb_eq0.mp c1
    refine lv_iconst (v := 1) hx hb dX7_shipOf_11 (by decide) ?_
    refine lv_goto (tgt := 29) hx hb dX7_shipOf_12 (by decide) ?_
    refine z_ci0 (z_runV (As := [.int 1]) (rest := []) M hw (zr_t hR 128 7 0 (by decide)) zc_X7_108 (c_X7_goesWell l base D cA ad ty I L P hR 1) hw.1 rfl rfl ⟨Nat.le_of_ble_eq_true rfl, Nat.le_of_ble_eq_true rfl⟩ ⟨Nat.le_of_ble_eq_true rfl, Nat.le_of_ble_eq_true rfl⟩ hl.1 (Nat.le_of_ble_eq_true rfl) dX7_shipOf_29) hw (fun H locs hw => ?_)
    refine z_topi (y := 0) (zb_0 (by decide)) ?_
    have hpl : (if zlt i ns then (if zin x 0 4 then 0 else 2) else 1) = 1 := by (try first | rw [if_pos c1] | rw [if_neg c1])
    refine lv_if_ne (tgt := 37) hx hb dX7_shipOf_32 (by decide) (fun c9 => ?_) (fun c9 => ?_)
    · exact absurd c9 (by decide)
    refine lv_iconst (v := 0) hx hb dX7_shipOf_35 (by decide) ?_
    exact z_iret hx hb hr (by rw [hpl]; rfl) rfl hw.2 (by rw [hpl]; exact hw.1) (Nat.le_of_ble_eq_true rfl) (Nat.le_of_ble_eq_true rfl) dX7_shipOf_36 hlocks
set_option maxHeartbeats 4000000 in
set_option maxRecDepth 100000 in
theorem c_X7_way (l : Launch) (base : Nat) (D : va_G) (cA : Nat → ClassId) (ad : Nat → Nat) (ty : zTyp) (I : zIt) (L : zLt) (P : zPt) (hR : zref ty P) (ni nc ns nt : Nat) (hbd : zRbd ni nc ns nt) (hV : zRv ni nc ns nt I) (i x : Int32) : zMi l base D cA yX7_way cX7_way 6 .int 2 50 0 0 [.ref (ad 128), .int i, .int x] (zW base D cA ad ty I L P) (if (if zlt i nt then (if x < 0 then 1 else 0) else 1) = 0 then zoi (zRw (zs (zu I 128 0 0) 158 (zGoes (zu I 128 0 0) nc)) (zGoes (zu I 128 0 0) nc) (zFar (zu I 128 0 0) (L 157) ni nc (I 151 i.toNatClampNeg)) nc (I 150 i.toNatClampNeg).toNatClampNeg x.toNatClampNeg).2 else 0) (zW base D cA ad ty (if (if zlt i nt then (if x < 0 then 1 else 0) else 1) = 0 then (zs (zu I 128 0 0) 158 (zGoes (zu I 128 0 0) nc)) else zu I 128 0 (nI (if zlt i nt then (if x < 0 then 1 else 0) else 1))) (if (if zlt i nt then (if x < 0 then 1 else 0) else 1) = 0 then (zs L 157 (zFar (zu I 128 0 0) (L 157) ni nc (I 151 i.toNatClampNeg))) else L) P) := by
  refine z_start (by decide +kernel) (Nat.le_of_ble_eq_true rfl) fun p e s m below meth c ls M hP hS hl hr hlocks hnm => ?_
  have M : zM p s m c cX7_way RX7 6 base D cA := M
  have hw : zH base D cA s s.heap [] ad ty I L P := ⟨hP, hS⟩
  obtain ⟨hx, hb, -⟩ := id M
  have hl : lv_has ls 6 [(0, .ref (ad 128)), (1, .int i), (2, .int x)] := hl
  obtain ⟨hb1, hb2, hb3, hb4⟩ := id hbd
  refine lv_aload_n hx hb dX7_way_0 rfl (lv_at hl 0 rfl) ?_
  refine lv_aload_n hx hb dX7_way_1 rfl (lv_at hl 0 rfl) ?_
  refine lv_iload_n hx hb dX7_way_2 rfl (lv_at hl 1 rfl) ?_
  refine z_ci0 (z_runV (As := [.int i]) (rest := [.ref (ad 128)]) M hw (zr_t hR 128 7 0 (by decide)) zc_X7_175 (c_X7_isTrader l base D cA ad ty I L P hR nt hV.1.2.2.2 (by omega) i) hw.1 rfl rfl ⟨Nat.le_of_ble_eq_true rfl, Nat.le_of_ble_eq_true rfl⟩ ⟨Nat.le_of_ble_eq_true rfl, Nat.le_of_ble_eq_true rfl⟩ hl.1 (Nat.le_of_ble_eq_true rfl) dX7_way_3) hw (fun H locs hw => ?_)
  refine lv_if_eq (tgt := 17) hx hb dX7_way_6 (by decide) (fun c1 => ?_) (fun c1 => ?_)
  · skip
    have c1 := zb_eq0.mp c1
    refine lv_iconst (v := 1) hx hb dX7_way_17 (by decide) ?_
    refine z_ci0 (z_runV (As := [.int 1]) (rest := []) M hw (zr_t hR 128 7 0 (by decide)) zc_X7_108 (c_X7_goesWell l base D cA ad ty I L P hR 1) hw.1 rfl rfl ⟨Nat.le_of_ble_eq_true rfl, Nat.le_of_ble_eq_true rfl⟩ ⟨Nat.le_of_ble_eq_true rfl, Nat.le_of_ble_eq_true rfl⟩ hl.1 (Nat.le_of_ble_eq_true rfl) dX7_way_18) hw (fun H locs hw => ?_)
    refine z_topi (y := 0) (zb_0 (by decide)) ?_
    have hpl : (if zlt i nt then (if x < 0 then 1 else 0) else 1) = 1 := by (try first | rw [if_pos c1] | rw [if_neg c1])
    refine lv_if_ne (tgt := 26) hx hb dX7_way_21 (by decide) (fun c2 => ?_) (fun c2 => ?_)
    · exact absurd c2 (by decide)
    refine lv_iconst (v := 0) hx hb dX7_way_24 (by decide) ?_
    exact z_iret hx hb hr (by rw [hpl]; rfl) rfl hw.2 (by rw [hpl]; exact hw.1) (Nat.le_of_ble_eq_true rfl) (Nat.le_of_ble_eq_true rfl) dX7_way_25 hlocks
  · skip
    have c1 := zb_ne0.mp c1
    refine lv_iload_n hx hb dX7_way_9 rfl (lv_at hl 2 rfl) ?_
    refine lv_if_lt (tgt := 17) hx hb dX7_way_10 (by decide) (fun c3 => ?_) (fun c3 => ?_)
    · skip
      refine lv_iconst (v := 1) hx hb dX7_way_17 (by decide) ?_
      refine z_ci0 (z_runV (As := [.int 1]) (rest := []) M hw (zr_t hR 128 7 0 (by decide)) zc_X7_108 (c_X7_goesWell l base D cA ad ty I L P hR 1) hw.1 rfl rfl ⟨Nat.le_of_ble_eq_true rfl, Nat.le_of_ble_eq_true rfl⟩ ⟨Nat.le_of_ble_eq_true rfl, Nat.le_of_ble_eq_true rfl⟩ hl.1 (Nat.le_of_ble_eq_true rfl) dX7_way_18) hw (fun H locs hw => ?_)
      refine z_topi (y := 0) (zb_0 (by decide)) ?_
      have hpl : (if zlt i nt then (if x < 0 then 1 else 0) else 1) = 1 := by (try first | rw [if_pos c1] | rw [if_neg c1]); (try first | rw [if_pos c3] | rw [if_neg c3])
      refine lv_if_ne (tgt := 26) hx hb dX7_way_21 (by decide) (fun c4 => ?_) (fun c4 => ?_)
      · exact absurd c4 (by decide)
      refine lv_iconst (v := 0) hx hb dX7_way_24 (by decide) ?_
      exact z_iret hx hb hr (by rw [hpl]; rfl) rfl hw.2 (by rw [hpl]; exact hw.1) (Nat.le_of_ble_eq_true rfl) (Nat.le_of_ble_eq_true rfl) dX7_way_25 hlocks
    · skip
      refine lv_iconst (v := 0) hx hb dX7_way_13 (by decide) ?_
      refine lv_goto (tgt := 18) hx hb dX7_way_14 (by decide) ?_
      refine z_ci0 (z_runV (As := [.int 0]) (rest := []) M hw (zr_t hR 128 7 0 (by decide)) zc_X7_108 (c_X7_goesWell l base D cA ad ty I L P hR 0) hw.1 rfl rfl ⟨Nat.le_of_ble_eq_true rfl, Nat.le_of_ble_eq_true rfl⟩ ⟨Nat.le_of_ble_eq_true rfl, Nat.le_of_ble_eq_true rfl⟩ hl.1 (Nat.le_of_ble_eq_true rfl) dX7_way_18) hw (fun H locs hw => ?_)
      refine z_topi (y := 1) (zb_1 (by decide)) ?_
      have hpl : (if zlt i nt then (if x < 0 then 1 else 0) else 1) = 0 := by (try first | rw [if_pos c1] | rw [if_neg c1]); (try first | rw [if_pos c3] | rw [if_neg c3])
      have hVZ : zRv ni nc ns nt (zu I 128 0 0) := zRv_zu (by unfold zRl; omega) hV
      have qi := (zlt_nat c1).2
      rw [(zlt_nat c1).1] at hl
      refine lv_if_ne (tgt := 26) hx hb dX7_way_21 (by decide) (fun c5 => ?_) (fun c5 => ?_)
      rotate_left
      · exact absurd c5 (by decide)
      refine lv_aload_n hx hb dX7_way_26 rfl (lv_at hl 0 rfl) ?_
      refine lv_aload_n hx hb dX7_way_27 rfl (lv_at hl 0 rfl) ?_
      refine z_getr M hw (zr_t hR 128 7 0 (by decide)) zf_X7_58 (zr_p hR 23 (by decide)) dX7_way_28 ?_
      refine lv_iload_n hx hb dX7_way_31 rfl (lv_at hl 1 rfl) ?_
      refine z_iNald M hw (zr_t hR 151 8 12 (by decide)) rfl ⟨by omega, by omega⟩ dX7_way_32 ?_
      refine z_topi (y := I 151 i.toNatClampNeg) (by rw [zu_ne _ _ (by omega)]) ?_
      refine z_cv0 (z_runV (As := [.int (I 151 i.toNatClampNeg)]) (rest := []) M hw (zr_t hR 128 7 0 (by decide)) zc_X7_163 (c_X7_findWays l base D cA ad ty (zu I 128 0 0) L P hR ni nc ns nt hbd hVZ (I 151 i.toNatClampNeg)) hw.1 rfl rfl ⟨Nat.le_of_ble_eq_true rfl, Nat.le_of_ble_eq_true rfl⟩ ⟨Nat.le_of_ble_eq_true rfl, Nat.le_of_ble_eq_true rfl⟩ hl.1 (Nat.le_of_ble_eq_true rfl) dX7_way_33) hw (fun H locs hw => ?_)
      have hV1 : zRv ni nc ns nt (zs (zu I 128 0 0) 158 (zGoes (zu I 128 0 0) nc)) := zRv_zs (by omega) hVZ
      refine lv_aload_n hx hb dX7_way_36 rfl (lv_at hl 0 rfl) ?_
      refine z_getr M hw (zr_t hR 128 7 0 (by decide)) zf_X7_55 (zr_p hR 22 (by decide)) dX7_way_37 ?_
      refine lv_iload_n hx hb dX7_way_40 rfl (lv_at hl 1 rfl) ?_
      refine z_iNald M hw (zr_t hR 150 8 12 (by decide)) rfl ⟨by omega, by omega⟩ dX7_way_41 ?_
      refine z_topi (y := I 150 i.toNatClampNeg) (by rw [zs_ne _ _ (by omega), zu_ne _ _ (by omega)]) ?_
      refine z_topi (y := nI (I 150 i.toNatClampNeg).toNatClampNeg) (zR150 hbd hV qi).1 ?_
      refine lv_istore_n (lv' := [(3, .int (nI (I 150 i.toNatClampNeg).toNatClampNeg)), (0, .ref (ad 128)), (1, .int (nI i.toNatClampNeg)), (2, .int x)]) hx hb dX7_way_42 rfl hl (by decide) rfl (fun ls hl => ?_)
      refine lv_aload_n hx hb dX7_way_43 rfl (lv_at hl 1 rfl) ?_
      refine z_getr M hw (zr_t hR 128 7 0 (by decide)) zf_X7_77 (zr_p hR 29 (by decide)) dX7_way_44 ?_
      refine lv_iload_n hx hb dX7_way_47 rfl (lv_at hl 0 rfl) ?_
      refine z_lNald M hw (zr_t hR 157 9 10 (by decide)) rfl ⟨by have := (zR150 hbd hV qi).2; omega, by omega⟩ dX7_way_48 ?_
      refine z_topl (y := (zFar (zu I 128 0 0) (L 157) ni nc (I 151 i.toNatClampNeg)) ((I 150 i.toNatClampNeg).toNatClampNeg)) (by rw [zs_self]) ?_
      refine lv_ldc2 (v := 1000000000000000) hx hb M.2.2.2.1 (M.2.2.2.2.1.use (tb 850 (by decide +kernel)) rfl) dX7_way_49 ?_
      refine W.lcmp hx hb dX7_way_52 ?_
      refine lv_if_lt (tgt := 60) hx hb dX7_way_53 (by decide) (fun c6 => ?_) (fun c6 => ?_)
      · skip
        refine lv_aload_n hx hb dX7_way_60 rfl (lv_at hl 1 rfl) ?_
        refine lv_iload_n hx hb dX7_way_61 rfl (lv_at hl 0 rfl) ?_
        refine z_ci0 (z_runV (As := [.int (nI (I 150 i.toNatClampNeg).toNatClampNeg)]) (rest := []) M hw (zr_t hR 128 7 0 (by decide)) zc_X7_178 (c_X7_next l base D cA ad ty (zs (zu I 128 0 0) 158 (zGoes (zu I 128 0 0) nc)) (zs L 157 (zFar (zu I 128 0 0) (L 157) ni nc (I 151 i.toNatClampNeg))) P hR nc ((I 150 i.toNatClampNeg).toNatClampNeg) (by have := (zR150 hbd hV qi).2; omega) hV1.1.2.1 (by omega) (zRv_ends hV1)) hw.1 rfl rfl ⟨Nat.le_of_ble_eq_true rfl, Nat.le_of_ble_eq_true rfl⟩ ⟨Nat.le_of_ble_eq_true rfl, Nat.le_of_ble_eq_true rfl⟩ hl.1 (Nat.le_of_ble_eq_true rfl) dX7_way_62) hw (fun H locs hw => ?_)
        rw [zs_self, zs_self]
        refine lv_istore (lv' := [(4, .int (zoi (zNx (zs (zu I 128 0 0) 158 (zGoes (zu I 128 0 0) nc)) (zGoes (zu I 128 0 0) nc) (zFar (zu I 128 0 0) (L 157) ni nc (I 151 i.toNatClampNeg)) ((I 150 i.toNatClampNeg).toNatClampNeg) nc))), (3, .int (nI (I 150 i.toNatClampNeg).toNatClampNeg)), (0, .ref (ad 128)), (1, .int (nI i.toNatClampNeg)), (2, .int x)]) hx hb dX7_way_65 hl (by decide) rfl (fun ls hl => ?_)
        refine lv_iconst (v := 0) hx hb dX7_way_67 (by decide) ?_
        refine lv_istore (lv' := [(5, .int 0), (4, .int (zoi (zNx (zs (zu I 128 0 0) 158 (zGoes (zu I 128 0 0) nc)) (zGoes (zu I 128 0 0) nc) (zFar (zu I 128 0 0) (L 157) ni nc (I 151 i.toNatClampNeg)) ((I 150 i.toNatClampNeg).toNatClampNeg) nc))), (3, .int (nI (I 150 i.toNatClampNeg).toNatClampNeg)), (0, .ref (ad 128)), (1, .int (nI i.toNatClampNeg)), (2, .int x)]) hx hb dX7_way_68 hl (by decide) rfl (fun ls hl => ?_)
        have hx9 := zge0 c3
        have hx8 := hx9.2
        rw [hx9.1] at hl
        refine z_loop (x.toNatClampNeg) (fun (k : Nat) H locs ls => ∃ (a : Nat), ∃ (o : Option Nat), (zRw (zs (zu I 128 0 0) 158 (zGoes (zu I 128 0 0) nc)) (zGoes (zu I 128 0 0) nc) (zFar (zu I 128 0 0) (L 157) ni nc (I 151 i.toNatClampNeg)) nc (I 150 i.toNatClampNeg).toNatClampNeg k = (a, o)) ∧ (a < 10) ∧ (∀ j, o = some j → j < nc) ∧ zH base D cA s H locs ad ty (zs (zu I 128 0 0) 158 (zGoes (zu I 128 0 0) nc)) (zs L 157 (zFar (zu I 128 0 0) (L 157) ni nc (I 151 i.toNatClampNeg))) P ∧ lv_has ls 6 [(0, .ref (ad 128)), (1, .int (nI i.toNatClampNeg)), (2, .int (nI x.toNatClampNeg)), (3, .int (nI a)), (4, .int (zoi o)), (5, .int (nI k))]) 0 ⟨(I 150 i.toNatClampNeg).toNatClampNeg, (zNx (zs (zu I 128 0 0) 158 (zGoes (zu I 128 0 0) nc)) (zGoes (zu I 128 0 0) nc) (zFar (zu I 128 0 0) (L 157) ni nc (I 151 i.toNatClampNeg)) (I 150 i.toNatClampNeg).toNatClampNeg nc), (by show ((I 150 i.toNatClampNeg).toNatClampNeg, if lg_cmp ((zFar (zu I 128 0 0) (L 157) ni nc (I 151 i.toNatClampNeg)) (I 150 i.toNatClampNeg).toNatClampNeg) zFAR < 0 then _ else none) = _; rw [if_pos c6]), (by have := (zR150 hbd hV qi).2; omega), (fun j hj => zNx_in hj), hw, lv_sub hl [3, 4, 5, 2, 1, 0] rfl⟩ (by omega) (fun k hk_k ih_k H locs ls hI => ?_)
        obtain ⟨a, o, hq, ha9, ho, hw, hl⟩ := hI
        refine lv_iload hx hb dX7_way_70 (lv_at hl 5 rfl) ?_
        refine lv_iload_n hx hb dX7_way_72 rfl (lv_at hl 2 rfl) ?_
        refine lv_icmp_ge (tgt := 103) hx hb dX7_way_73 (by decide) (fun c7 => ?_) (fun c7 => ?_)
        · skip
          have hge : x.toNatClampNeg = k := Nat.le_antisymm (z_ge (show nI x.toNatClampNeg ≤ nI k from c7) (by omega) (by omega)) (by omega)
          refine lv_iload hx hb dX7_way_103 (lv_at hl 4 rfl) ?_
          exact z_iret hx hb hr (by rw [hpl, if_pos rfl, hge, hq]) rfl hw.2 (by rw [hpl]; exact hw.1) (Nat.le_of_ble_eq_true rfl) (Nat.le_of_ble_eq_true rfl) dX7_way_105 hlocks
        · skip
          have hltk : k < x.toNatClampNeg := z_lt (show ¬ nI x.toNatClampNeg ≤ nI k from c7) (by omega)
          refine lv_iload hx hb dX7_way_76 (lv_at hl 4 rfl) ?_
          refine lv_iconst (v := (-1)) hx hb dX7_way_78 (by decide) ?_
          refine lv_icmp_eq (tgt := 103) hx hb dX7_way_79 (by decide) (fun c8 => ?_) (fun c8 => ?_)
          · skip
            have hend := c8
            refine lv_iload hx hb dX7_way_103 (lv_at hl 4 rfl) ?_
            exact z_iret hx hb hr (by rw [hpl, if_pos rfl]; exact zRw_end (by omega) hq hk_k ho hend) rfl hw.2 (by rw [hpl]; exact hw.1) (Nat.le_of_ble_eq_true rfl) (Nat.le_of_ble_eq_true rfl) dX7_way_105 hlocks
          · skip
            obtain ⟨j, rfl⟩ := zoi_som c8
            have hj9 := ho j rfl
            rw [show zoi (some j) = nI j from rfl] at hl
            refine lv_aload_n hx hb dX7_way_82 rfl (lv_at hl 0 rfl) ?_
            refine lv_iload hx hb dX7_way_83 (lv_at hl 4 rfl) ?_
            refine lv_iload_n hx hb dX7_way_85 rfl (lv_at hl 3 rfl) ?_
            refine z_ci0 (z_runV (As := [.int (nI j), .int (nI a)]) (rest := []) M hw (zr_t hR 128 7 0 (by decide)) zc_X7_159 (c_X7_across l base D cA ad ty (zs (zu I 128 0 0) 158 (zGoes (zu I 128 0 0) nc)) (zs L 157 (zFar (zu I 128 0 0) (L 157) ni nc (I 151 i.toNatClampNeg))) P hR j (by omega) (nI a)) hw.1 rfl rfl ⟨Nat.le_of_ble_eq_true rfl, Nat.le_of_ble_eq_true rfl⟩ ⟨Nat.le_of_ble_eq_true rfl, Nat.le_of_ble_eq_true rfl⟩ hl.1 (Nat.le_of_ble_eq_true rfl) dX7_way_86) hw (fun H locs hw => ?_)
            rw [(zAcr_in (zRv_ends hV1) hj9 (nI a)).1]
            refine lv_istore_n (lv' := [(3, .int (nI (zAcr (zs (zu I 128 0 0) 158 (zGoes (zu I 128 0 0) nc)) j (nI a)).toNatClampNeg)), (0, .ref (ad 128)), (1, .int (nI i.toNatClampNeg)), (2, .int (nI x.toNatClampNeg)), (4, .int (nI j)), (5, .int (nI k))]) hx hb dX7_way_89 rfl hl (by decide) rfl (fun ls hl => ?_)
            refine lv_aload_n hx hb dX7_way_90 rfl (lv_at hl 1 rfl) ?_
            refine lv_iload_n hx hb dX7_way_91 rfl (lv_at hl 0 rfl) ?_
            refine z_ci0 (z_runV (As := [.int (nI (zAcr (zs (zu I 128 0 0) 158 (zGoes (zu I 128 0 0) nc)) j (nI a)).toNatClampNeg)]) (rest := []) M hw (zr_t hR 128 7 0 (by decide)) zc_X7_178 (c_X7_next l base D cA ad ty (zs (zu I 128 0 0) 158 (zGoes (zu I 128 0 0) nc)) (zs L 157 (zFar (zu I 128 0 0) (L 157) ni nc (I 151 i.toNatClampNeg))) P hR nc ((zAcr (zs (zu I 128 0 0) 158 (zGoes (zu I 128 0 0) nc)) j (nI a)).toNatClampNeg) (zAcr_in (zRv_ends hV1) hj9 (nI a)).2 hV1.1.2.1 (by omega) (zRv_ends hV1)) hw.1 rfl rfl ⟨Nat.le_of_ble_eq_true rfl, Nat.le_of_ble_eq_true rfl⟩ ⟨Nat.le_of_ble_eq_true rfl, Nat.le_of_ble_eq_true rfl⟩ hl.1 (Nat.le_of_ble_eq_true rfl) dX7_way_92) hw (fun H locs hw => ?_)
            rw [zs_self, zs_self]
            refine lv_istore (lv' := [(4, .int (zoi (zNx (zs (zu I 128 0 0) 158 (zGoes (zu I 128 0 0) nc)) (zGoes (zu I 128 0 0) nc) (zFar (zu I 128 0 0) (L 157) ni nc (I 151 i.toNatClampNeg)) ((zAcr (zs (zu I 128 0 0) 158 (zGoes (zu I 128 0 0) nc)) j (nI a)).toNatClampNeg) nc))), (3, .int (nI (zAcr (zs (zu I 128 0 0) 158 (zGoes (zu I 128 0 0) nc)) j (nI a)).toNatClampNeg)), (0, .ref (ad 128)), (1, .int (nI i.toNatClampNeg)), (2, .int (nI x.toNatClampNeg)), (5, .int (nI k))]) hx hb dX7_way_95 hl (by decide) rfl (fun ls hl => ?_)
            refine lv_iinc (v := nI (k + 1)) (lv' := [(5, .int (nI (k + 1))), (4, .int (zoi (zNx (zs (zu I 128 0 0) 158 (zGoes (zu I 128 0 0) nc)) (zGoes (zu I 128 0 0) nc) (zFar (zu I 128 0 0) (L 157) ni nc (I 151 i.toNatClampNeg)) ((zAcr (zs (zu I 128 0 0) 158 (zGoes (zu I 128 0 0) nc)) j (nI a)).toNatClampNeg) nc))), (3, .int (nI (zAcr (zs (zu I 128 0 0) 158 (zGoes (zu I 128 0 0) nc)) j (nI a)).toNatClampNeg)), (0, .ref (ad 128)), (1, .int (nI i.toNatClampNeg)), (2, .int (nI x.toNatClampNeg))]) hx hb dX7_way_97 hl (k := 5) rfl (nI_succ _).symm (by decide) rfl (fun ls hl => ?_)
            refine lv_goto (tgt := 70) hx hb dX7_way_100 (by decide) ?_
            exact ih_k hltk _ _ _ ⟨(zAcr (zs (zu I 128 0 0) 158 (zGoes (zu I 128 0 0) nc)) j (nI a)).toNatClampNeg, (zNx (zs (zu I 128 0 0) 158 (zGoes (zu I 128 0 0) nc)) (zGoes (zu I 128 0 0) nc) (zFar (zu I 128 0 0) (L 157) ni nc (I 151 i.toNatClampNeg)) ((zAcr (zs (zu I 128 0 0) 158 (zGoes (zu I 128 0 0) nc)) j (nI a)).toNatClampNeg) nc), (by show zRw1 (zs (zu I 128 0 0) 158 (zGoes (zu I 128 0 0) nc)) (zGoes (zu I 128 0 0) nc) (zFar (zu I 128 0 0) (L 157) ni nc (I 151 i.toNatClampNeg)) nc (zRw (zs (zu I 128 0 0) 158 (zGoes (zu I 128 0 0) nc)) (zGoes (zu I 128 0 0) nc) (zFar (zu I 128 0 0) (L 157) ni nc (I 151 i.toNatClampNeg)) nc (I 150 i.toNatClampNeg).toNatClampNeg k) = _; rw [hq]; rfl), (zAcr_in (zRv_ends hV1) hj9 (nI a)).2, (fun j hj => zNx_in hj), hw, lv_sub hl [3, 4, 5, 2, 1, 0] rfl⟩
      · skip
        refine lv_iconst (v := (-1)) hx hb dX7_way_56 (by decide) ?_
        refine lv_goto (tgt := 65) hx hb dX7_way_57 (by decide) ?_
        refine lv_istore (lv' := [(4, .int (-1)), (3, .int (nI (I 150 i.toNatClampNeg).toNatClampNeg)), (0, .ref (ad 128)), (1, .int (nI i.toNatClampNeg)), (2, .int x)]) hx hb dX7_way_65 hl (by decide) rfl (fun ls hl => ?_)
        refine lv_iconst (v := 0) hx hb dX7_way_67 (by decide) ?_
        refine lv_istore (lv' := [(5, .int 0), (4, .int (-1)), (3, .int (nI (I 150 i.toNatClampNeg).toNatClampNeg)), (0, .ref (ad 128)), (1, .int (nI i.toNatClampNeg)), (2, .int x)]) hx hb dX7_way_68 hl (by decide) rfl (fun ls hl => ?_)
        have hx9 := zge0 c3
        have hx8 := hx9.2
        rw [hx9.1] at hl
        refine z_loop (x.toNatClampNeg) (fun (k : Nat) H locs ls => ∃ (a : Nat), ∃ (o : Option Nat), (zRw (zs (zu I 128 0 0) 158 (zGoes (zu I 128 0 0) nc)) (zGoes (zu I 128 0 0) nc) (zFar (zu I 128 0 0) (L 157) ni nc (I 151 i.toNatClampNeg)) nc (I 150 i.toNatClampNeg).toNatClampNeg k = (a, o)) ∧ (a < 10) ∧ (∀ j, o = some j → j < nc) ∧ zH base D cA s H locs ad ty (zs (zu I 128 0 0) 158 (zGoes (zu I 128 0 0) nc)) (zs L 157 (zFar (zu I 128 0 0) (L 157) ni nc (I 151 i.toNatClampNeg))) P ∧ lv_has ls 6 [(0, .ref (ad 128)), (1, .int (nI i.toNatClampNeg)), (2, .int (nI x.toNatClampNeg)), (3, .int (nI a)), (4, .int (zoi o)), (5, .int (nI k))]) 0 ⟨(I 150 i.toNatClampNeg).toNatClampNeg, none, (by show ((I 150 i.toNatClampNeg).toNatClampNeg, if lg_cmp ((zFar (zu I 128 0 0) (L 157) ni nc (I 151 i.toNatClampNeg)) (I 150 i.toNatClampNeg).toNatClampNeg) zFAR < 0 then _ else none) = _; rw [if_neg c6]), (by have := (zR150 hbd hV qi).2; omega), (fun j hj => by cases hj), hw, lv_sub hl [3, 4, 5, 2, 1, 0] rfl⟩ (by omega) (fun k hk_k ih_k H locs ls hI => ?_)
        obtain ⟨a, o, hq, ha9, ho, hw, hl⟩ := hI
        refine lv_iload hx hb dX7_way_70 (lv_at hl 5 rfl) ?_
        refine lv_iload_n hx hb dX7_way_72 rfl (lv_at hl 2 rfl) ?_
        refine lv_icmp_ge (tgt := 103) hx hb dX7_way_73 (by decide) (fun c9 => ?_) (fun c9 => ?_)
        · skip
          have hge : x.toNatClampNeg = k := Nat.le_antisymm (z_ge (show nI x.toNatClampNeg ≤ nI k from c9) (by omega) (by omega)) (by omega)
          refine lv_iload hx hb dX7_way_103 (lv_at hl 4 rfl) ?_
          exact z_iret hx hb hr (by rw [hpl, if_pos rfl, hge, hq]) rfl hw.2 (by rw [hpl]; exact hw.1) (Nat.le_of_ble_eq_true rfl) (Nat.le_of_ble_eq_true rfl) dX7_way_105 hlocks
        · skip
          have hltk : k < x.toNatClampNeg := z_lt (show ¬ nI x.toNatClampNeg ≤ nI k from c9) (by omega)
          refine lv_iload hx hb dX7_way_76 (lv_at hl 4 rfl) ?_
          refine lv_iconst (v := (-1)) hx hb dX7_way_78 (by decide) ?_
          refine lv_icmp_eq (tgt := 103) hx hb dX7_way_79 (by decide) (fun c10 => ?_) (fun c10 => ?_)
          · skip
            have hend := c10
            refine lv_iload hx hb dX7_way_103 (lv_at hl 4 rfl) ?_
            exact z_iret hx hb hr (by rw [hpl, if_pos rfl]; exact zRw_end (by omega) hq hk_k ho hend) rfl hw.2 (by rw [hpl]; exact hw.1) (Nat.le_of_ble_eq_true rfl) (Nat.le_of_ble_eq_true rfl) dX7_way_105 hlocks
          · skip
            obtain ⟨j, rfl⟩ := zoi_som c10
            have hj9 := ho j rfl
            rw [show zoi (some j) = nI j from rfl] at hl
            refine lv_aload_n hx hb dX7_way_82 rfl (lv_at hl 0 rfl) ?_
            refine lv_iload hx hb dX7_way_83 (lv_at hl 4 rfl) ?_
            refine lv_iload_n hx hb dX7_way_85 rfl (lv_at hl 3 rfl) ?_
            refine z_ci0 (z_runV (As := [.int (nI j), .int (nI a)]) (rest := []) M hw (zr_t hR 128 7 0 (by decide)) zc_X7_159 (c_X7_across l base D cA ad ty (zs (zu I 128 0 0) 158 (zGoes (zu I 128 0 0) nc)) (zs L 157 (zFar (zu I 128 0 0) (L 157) ni nc (I 151 i.toNatClampNeg))) P hR j (by omega) (nI a)) hw.1 rfl rfl ⟨Nat.le_of_ble_eq_true rfl, Nat.le_of_ble_eq_true rfl⟩ ⟨Nat.le_of_ble_eq_true rfl, Nat.le_of_ble_eq_true rfl⟩ hl.1 (Nat.le_of_ble_eq_true rfl) dX7_way_86) hw (fun H locs hw => ?_)
            rw [(zAcr_in (zRv_ends hV1) hj9 (nI a)).1]
            refine lv_istore_n (lv' := [(3, .int (nI (zAcr (zs (zu I 128 0 0) 158 (zGoes (zu I 128 0 0) nc)) j (nI a)).toNatClampNeg)), (0, .ref (ad 128)), (1, .int (nI i.toNatClampNeg)), (2, .int (nI x.toNatClampNeg)), (4, .int (nI j)), (5, .int (nI k))]) hx hb dX7_way_89 rfl hl (by decide) rfl (fun ls hl => ?_)
            refine lv_aload_n hx hb dX7_way_90 rfl (lv_at hl 1 rfl) ?_
            refine lv_iload_n hx hb dX7_way_91 rfl (lv_at hl 0 rfl) ?_
            refine z_ci0 (z_runV (As := [.int (nI (zAcr (zs (zu I 128 0 0) 158 (zGoes (zu I 128 0 0) nc)) j (nI a)).toNatClampNeg)]) (rest := []) M hw (zr_t hR 128 7 0 (by decide)) zc_X7_178 (c_X7_next l base D cA ad ty (zs (zu I 128 0 0) 158 (zGoes (zu I 128 0 0) nc)) (zs L 157 (zFar (zu I 128 0 0) (L 157) ni nc (I 151 i.toNatClampNeg))) P hR nc ((zAcr (zs (zu I 128 0 0) 158 (zGoes (zu I 128 0 0) nc)) j (nI a)).toNatClampNeg) (zAcr_in (zRv_ends hV1) hj9 (nI a)).2 hV1.1.2.1 (by omega) (zRv_ends hV1)) hw.1 rfl rfl ⟨Nat.le_of_ble_eq_true rfl, Nat.le_of_ble_eq_true rfl⟩ ⟨Nat.le_of_ble_eq_true rfl, Nat.le_of_ble_eq_true rfl⟩ hl.1 (Nat.le_of_ble_eq_true rfl) dX7_way_92) hw (fun H locs hw => ?_)
            rw [zs_self, zs_self]
            refine lv_istore (lv' := [(4, .int (zoi (zNx (zs (zu I 128 0 0) 158 (zGoes (zu I 128 0 0) nc)) (zGoes (zu I 128 0 0) nc) (zFar (zu I 128 0 0) (L 157) ni nc (I 151 i.toNatClampNeg)) ((zAcr (zs (zu I 128 0 0) 158 (zGoes (zu I 128 0 0) nc)) j (nI a)).toNatClampNeg) nc))), (3, .int (nI (zAcr (zs (zu I 128 0 0) 158 (zGoes (zu I 128 0 0) nc)) j (nI a)).toNatClampNeg)), (0, .ref (ad 128)), (1, .int (nI i.toNatClampNeg)), (2, .int (nI x.toNatClampNeg)), (5, .int (nI k))]) hx hb dX7_way_95 hl (by decide) rfl (fun ls hl => ?_)
            refine lv_iinc (v := nI (k + 1)) (lv' := [(5, .int (nI (k + 1))), (4, .int (zoi (zNx (zs (zu I 128 0 0) 158 (zGoes (zu I 128 0 0) nc)) (zGoes (zu I 128 0 0) nc) (zFar (zu I 128 0 0) (L 157) ni nc (I 151 i.toNatClampNeg)) ((zAcr (zs (zu I 128 0 0) 158 (zGoes (zu I 128 0 0) nc)) j (nI a)).toNatClampNeg) nc))), (3, .int (nI (zAcr (zs (zu I 128 0 0) 158 (zGoes (zu I 128 0 0) nc)) j (nI a)).toNatClampNeg)), (0, .ref (ad 128)), (1, .int (nI i.toNatClampNeg)), (2, .int (nI x.toNatClampNeg))]) hx hb dX7_way_97 hl (k := 5) rfl (nI_succ _).symm (by decide) rfl (fun ls hl => ?_)
            refine lv_goto (tgt := 70) hx hb dX7_way_100 (by decide) ?_
            exact ih_k hltk _ _ _ ⟨(zAcr (zs (zu I 128 0 0) 158 (zGoes (zu I 128 0 0) nc)) j (nI a)).toNatClampNeg, (zNx (zs (zu I 128 0 0) 158 (zGoes (zu I 128 0 0) nc)) (zGoes (zu I 128 0 0) nc) (zFar (zu I 128 0 0) (L 157) ni nc (I 151 i.toNatClampNeg)) ((zAcr (zs (zu I 128 0 0) 158 (zGoes (zu I 128 0 0) nc)) j (nI a)).toNatClampNeg) nc), (by show zRw1 (zs (zu I 128 0 0) 158 (zGoes (zu I 128 0 0) nc)) (zGoes (zu I 128 0 0) nc) (zFar (zu I 128 0 0) (L 157) ni nc (I 151 i.toNatClampNeg)) nc (zRw (zs (zu I 128 0 0) 158 (zGoes (zu I 128 0 0) nc)) (zGoes (zu I 128 0 0) nc) (zFar (zu I 128 0 0) (L 157) ni nc (I 151 i.toNatClampNeg)) nc (I 150 i.toNatClampNeg).toNatClampNeg k) = _; rw [hq]; rfl), (zAcr_in (zRv_ends hV1) hj9 (nI a)).2, (fun j hj => zNx_in hj), hw, lv_sub hl [3, 4, 5, 2, 1, 0] rfl⟩
set_option maxHeartbeats 4000000 in
set_option maxRecDepth 100000 in
theorem c_X7_sum (l : Launch) (base : Nat) (D : va_G) (cA : Nat → ClassId) (ad : Nat → Nat) (ty : zTyp) (I : zIt) (L : zLt) (P : zPt) (hR : zref ty P) (ni nc ns nt : Nat) (hbd : zRbd ni nc ns nt) (hV : zRv ni nc ns nt I) (i x : Int32) : zMi l base D cA yX7_sum cX7_sum 6 .int 2 50 0 0 [.ref (ad 128), .int i, .int x] (zW base D cA ad ty I L P) (if (if zlt i nt then (if zin x 0 2 then 0 else 2) else 1) = 0 then (if lg_cmp ((zFar (zu I 128 0 0) (L 157) ni nc (I 151 i.toNatClampNeg)) (I 150 i.toNatClampNeg).toNatClampNeg) zFAR < 0 then (if x = 0 then (((zFar (zu I 128 0 0) (L 157) ni nc (I 151 i.toNatClampNeg)) (I 150 i.toNatClampNeg).toNatClampNeg) / 1000000).toInt32 else if x = 1 then ((((zFar (zu I 128 0 0) (L 157) ni nc (I 151 i.toNatClampNeg)) (I 150 i.toNatClampNeg).toNatClampNeg) - ((zFar (zu I 128 0 0) (L 157) ni nc (I 151 i.toNatClampNeg)) (I 150 i.toNatClampNeg).toNatClampNeg) / 1000000 * 1000000) / 100).toInt32 else (((zFar (zu I 128 0 0) (L 157) ni nc (I 151 i.toNatClampNeg)) (I 150 i.toNatClampNeg).toNatClampNeg) - ((zFar (zu I 128 0 0) (L 157) ni nc (I 151 i.toNatClampNeg)) (I 150 i.toNatClampNeg).toNatClampNeg) / 100 * 100).toInt32) else -1) else 0) (zW base D cA ad ty (if (if zlt i nt then (if zin x 0 2 then 0 else 2) else 1) = 0 then (zs (zu I 128 0 0) 158 (zGoes (zu I 128 0 0) nc)) else zu I 128 0 (nI (if zlt i nt then (if zin x 0 2 then 0 else 2) else 1))) (if (if zlt i nt then (if zin x 0 2 then 0 else 2) else 1) = 0 then (zs L 157 (zFar (zu I 128 0 0) (L 157) ni nc (I 151 i.toNatClampNeg))) else L) P) := by
  refine z_start (by decide +kernel) (Nat.le_of_ble_eq_true rfl) fun p e s m below meth c ls M hP hS hl hr hlocks hnm => ?_
  have M : zM p s m c cX7_sum RX7 6 base D cA := M
  have hw : zH base D cA s s.heap [] ad ty I L P := ⟨hP, hS⟩
  obtain ⟨hx, hb, -⟩ := id M
  have hl : lv_has ls 6 [(0, .ref (ad 128)), (1, .int i), (2, .int x)] := hl
  obtain ⟨hb1, hb2, hb3, hb4⟩ := id hbd
  refine lv_aload_n hx hb dX7_sum_0 rfl (lv_at hl 0 rfl) ?_
  refine lv_iload_n hx hb dX7_sum_1 rfl (lv_at hl 1 rfl) ?_
  refine z_ci0 (z_runV (As := [.int i]) (rest := []) M hw (zr_t hR 128 7 0 (by decide)) zc_X7_175 (c_X7_isTrader l base D cA ad ty I L P hR nt hV.1.2.2.2 (by omega) i) hw.1 rfl rfl ⟨Nat.le_of_ble_eq_true rfl, Nat.le_of_ble_eq_true rfl⟩ ⟨Nat.le_of_ble_eq_true rfl, Nat.le_of_ble_eq_true rfl⟩ hl.1 (Nat.le_of_ble_eq_true rfl) dX7_sum_2) hw (fun H locs hw => ?_)
  refine lv_istore_n (lv' := [(3, .int (zb (zlt i nt))), (0, .ref (ad 128)), (1, .int i), (2, .int x)]) hx hb dX7_sum_5 rfl hl (by decide) rfl (fun ls hl => ?_)
  refine lv_aload_n hx hb dX7_sum_6 rfl (lv_at hl 1 rfl) ?_
  refine lv_iload_n hx hb dX7_sum_7 rfl (lv_at hl 0 rfl) ?_
  refine lv_if_ne (tgt := 15) hx hb dX7_sum_8 (by decide) (fun c1 => ?_) (fun c1 => ?_)
  · skip
    have c1 := zb_ne0.mp c1
    refine lv_iload_n hx hb dX7_sum_15 rfl (lv_at hl 3 rfl) ?_
    refine lv_iconst (v := 0) hx hb dX7_sum_16 (by decide) ?_
    refine lv_iconst (v := 2) hx hb dX7_sum_17 (by decide) ?_
    refine z_ci0 (z_runS (As := [.int x, .int 0, .int 2]) (rest := [.ref (ad 128)]) M hw.2 zc_X7_91 (c_X7_in l base D cA ad ty I L P x 0 2) hw.1 rfl rfl ⟨Nat.le_of_ble_eq_true rfl, Nat.le_of_ble_eq_true rfl⟩ ⟨Nat.le_of_ble_eq_true rfl, Nat.le_of_ble_eq_true rfl⟩ hl.1 (Nat.le_of_ble_eq_true rfl) dX7_sum_18) hw (fun H locs hw => ?_)
    refine lv_if_eq (tgt := 28) hx hb dX7_sum_21 (by decide) (fun c2 => ?_) (fun c2 => ?_)
    · skip
      have c2 := zb_eq0.mp c2
      refine lv_iconst (v := 2) hx hb dX7_sum_28 (by decide) ?_
      refine z_ci0 (z_runV (As := [.int 2]) (rest := []) M hw (zr_t hR 128 7 0 (by decide)) zc_X7_108 (c_X7_goesWell l base D cA ad ty I L P hR 2) hw.1 rfl rfl ⟨Nat.le_of_ble_eq_true rfl, Nat.le_of_ble_eq_true rfl⟩ ⟨Nat.le_of_ble_eq_true rfl, Nat.le_of_ble_eq_true rfl⟩ hl.1 (Nat.le_of_ble_eq_true rfl) dX7_sum_29) hw (fun H locs hw => ?_)
      refine z_topi (y := 0) (zb_0 (by decide)) ?_
      have hpl : (if zlt i nt then (if zin x 0 2 then 0 else 2) else 1) = 2 := by (try first | rw [if_pos c1] | rw [if_neg c1]); (try first | rw [if_pos c2] | rw [if_neg c2])
      refine lv_if_ne (tgt := 37) hx hb dX7_sum_32 (by decide) (fun c3 => ?_) (fun c3 => ?_)
      · exact absurd c3 (by decide)
      refine lv_iconst (v := 0) hx hb dX7_sum_35 (by decide) ?_
      exact z_iret hx hb hr (by rw [hpl]; rfl) rfl hw.2 (by rw [hpl]; exact hw.1) (Nat.le_of_ble_eq_true rfl) (Nat.le_of_ble_eq_true rfl) dX7_sum_36 hlocks
    · skip
      have c2 := zb_ne0.mp c2
      refine lv_iconst (v := 0) hx hb dX7_sum_24 (by decide) ?_
      refine lv_goto (tgt := 29) hx hb dX7_sum_25 (by decide) ?_
      refine z_ci0 (z_runV (As := [.int 0]) (rest := []) M hw (zr_t hR 128 7 0 (by decide)) zc_X7_108 (c_X7_goesWell l base D cA ad ty I L P hR 0) hw.1 rfl rfl ⟨Nat.le_of_ble_eq_true rfl, Nat.le_of_ble_eq_true rfl⟩ ⟨Nat.le_of_ble_eq_true rfl, Nat.le_of_ble_eq_true rfl⟩ hl.1 (Nat.le_of_ble_eq_true rfl) dX7_sum_29) hw (fun H locs hw => ?_)
      refine z_topi (y := 1) (zb_1 (by decide)) ?_
      have hpl : (if zlt i nt then (if zin x 0 2 then 0 else 2) else 1) = 0 := by (try first | rw [if_pos c1] | rw [if_neg c1]); (try first | rw [if_pos c2] | rw [if_neg c2])
      have hVZ : zRv ni nc ns nt (zu I 128 0 0) := zRv_zu (by unfold zRl; omega) hV
      have qi := (zlt_nat c1).2
      rw [(zlt_nat c1).1] at hl
      refine lv_if_ne (tgt := 37) hx hb dX7_sum_32 (by decide) (fun c4 => ?_) (fun c4 => ?_)
      rotate_left
      · exact absurd c4 (by decide)
      refine lv_aload_n hx hb dX7_sum_37 rfl (lv_at hl 1 rfl) ?_
      refine lv_aload_n hx hb dX7_sum_38 rfl (lv_at hl 1 rfl) ?_
      refine z_getr M hw (zr_t hR 128 7 0 (by decide)) zf_X7_58 (zr_p hR 23 (by decide)) dX7_sum_39 ?_
      refine lv_iload_n hx hb dX7_sum_42 rfl (lv_at hl 2 rfl) ?_
      refine z_iNald M hw (zr_t hR 151 8 12 (by decide)) rfl ⟨by omega, by omega⟩ dX7_sum_43 ?_
      refine z_topi (y := I 151 i.toNatClampNeg) (by rw [zu_ne _ _ (by omega)]) ?_
      refine z_cv0 (z_runV (As := [.int (I 151 i.toNatClampNeg)]) (rest := []) M hw (zr_t hR 128 7 0 (by decide)) zc_X7_163 (c_X7_findWays l base D cA ad ty (zu I 128 0 0) L P hR ni nc ns nt hbd hVZ (I 151 i.toNatClampNeg)) hw.1 rfl rfl ⟨Nat.le_of_ble_eq_true rfl, Nat.le_of_ble_eq_true rfl⟩ ⟨Nat.le_of_ble_eq_true rfl, Nat.le_of_ble_eq_true rfl⟩ hl.1 (Nat.le_of_ble_eq_true rfl) dX7_sum_44) hw (fun H locs hw => ?_)
      have hV1 : zRv ni nc ns nt (zs (zu I 128 0 0) 158 (zGoes (zu I 128 0 0) nc)) := zRv_zs (by omega) hVZ
      refine lv_aload_n hx hb dX7_sum_47 rfl (lv_at hl 1 rfl) ?_
      refine z_getr M hw (zr_t hR 128 7 0 (by decide)) zf_X7_77 (zr_p hR 29 (by decide)) dX7_sum_48 ?_
      refine lv_aload_n hx hb dX7_sum_51 rfl (lv_at hl 1 rfl) ?_
      refine z_getr M hw (zr_t hR 128 7 0 (by decide)) zf_X7_55 (zr_p hR 22 (by decide)) dX7_sum_52 ?_
      refine lv_iload_n hx hb dX7_sum_55 rfl (lv_at hl 2 rfl) ?_
      refine z_iNald M hw (zr_t hR 150 8 12 (by decide)) rfl ⟨by omega, by omega⟩ dX7_sum_56 ?_
      refine z_topi (y := I 150 i.toNatClampNeg) (by rw [zs_ne _ _ (by omega), zu_ne _ _ (by omega)]) ?_
      refine z_topi (y := nI (I 150 i.toNatClampNeg).toNatClampNeg) (zR150 hbd hV qi).1 ?_
      refine z_lNald M hw (zr_t hR 157 9 10 (by decide)) rfl ⟨by have := (zR150 hbd hV qi).2; omega, by omega⟩ dX7_sum_57 ?_
      refine z_topl (y := (zFar (zu I 128 0 0) (L 157) ni nc (I 151 i.toNatClampNeg)) ((I 150 i.toNatClampNeg).toNatClampNeg)) (by rw [zs_self]) ?_
      refine lv_lstore (lv' := [(4, .long ((zFar (zu I 128 0 0) (L 157) ni nc (I 151 i.toNatClampNeg)) ((I 150 i.toNatClampNeg).toNatClampNeg))), (3, .int (zb (zlt (nI i.toNatClampNeg) nt))), (0, .ref (ad 128)), (1, .int (nI i.toNatClampNeg)), (2, .int x)]) hx hb dX7_sum_58 hl (by decide) rfl (fun ls hl => ?_)
      refine lv_lload hx hb dX7_sum_60 (lv_at hl 0 rfl) ?_
      refine lv_ldc2 (v := 1000000000000000) hx hb M.2.2.2.1 (M.2.2.2.2.1.use (tb 850 (by decide +kernel)) rfl) dX7_sum_62 ?_
      refine W.lcmp hx hb dX7_sum_65 ?_
      refine lv_if_lt (tgt := 73) hx hb dX7_sum_66 (by decide) (fun c5 => ?_) (fun c5 => ?_)
      · skip
        refine lv_iload_n hx hb dX7_sum_73 rfl (lv_at hl 4 rfl) ?_
        refine lv_if_ne (tgt := 86) hx hb dX7_sum_74 (by decide) (fun c6 => ?_) (fun c6 => ?_)
        · skip
          refine lv_iload_n hx hb dX7_sum_86 rfl (lv_at hl 4 rfl) ?_
          refine lv_iconst (v := 1) hx hb dX7_sum_87 (by decide) ?_
          refine lv_icmp_ne (tgt := 104) hx hb dX7_sum_88 (by decide) (fun c7 => ?_) (fun c7 => ?_)
          · skip
            refine lv_lload hx hb dX7_sum_104 (lv_at hl 0 rfl) ?_
            refine lv_ldc2 (v := 100) hx hb M.2.2.2.1 (M.2.2.2.2.1.use (tb 860 (by decide +kernel)) rfl) dX7_sum_106 ?_
            refine lv_lrem hx hb dX7_sum_109 (by decide) ?_
            refine lv_l2i hx hb dX7_sum_110 rfl ?_
            exact z_iret hx hb hr (by rw [hpl, if_pos rfl]; (try first | rw [if_pos c5] | rw [if_neg c5]); (try first | rw [if_pos c6] | rw [if_neg c6]); (try first | rw [if_pos c7] | rw [if_neg c7])) rfl hw.2 (by rw [hpl]; exact hw.1) (Nat.le_of_ble_eq_true rfl) (Nat.le_of_ble_eq_true rfl) dX7_sum_111 hlocks
          · skip
            refine lv_lload hx hb dX7_sum_91 (lv_at hl 0 rfl) ?_
            refine lv_ldc2 (v := 1000000) hx hb M.2.2.2.1 (M.2.2.2.2.1.use (tb 859 (by decide +kernel)) rfl) dX7_sum_93 ?_
            refine lv_lrem hx hb dX7_sum_96 (by decide) ?_
            refine lv_ldc2 (v := 100) hx hb M.2.2.2.1 (M.2.2.2.2.1.use (tb 860 (by decide +kernel)) rfl) dX7_sum_97 ?_
            refine lv_ldiv hx hb dX7_sum_100 (by decide) ?_
            refine lv_goto (tgt := 110) hx hb dX7_sum_101 (by decide) ?_
            refine lv_l2i hx hb dX7_sum_110 rfl ?_
            exact z_iret hx hb hr (by rw [hpl, if_pos rfl]; (try first | rw [if_pos c5] | rw [if_neg c5]); (try first | rw [if_pos c6] | rw [if_neg c6]); (try first | rw [if_pos c7] | rw [if_neg c7])) rfl hw.2 (by rw [hpl]; exact hw.1) (Nat.le_of_ble_eq_true rfl) (Nat.le_of_ble_eq_true rfl) dX7_sum_111 hlocks
        · skip
          refine lv_lload hx hb dX7_sum_77 (lv_at hl 0 rfl) ?_
          refine lv_ldc2 (v := 1000000) hx hb M.2.2.2.1 (M.2.2.2.2.1.use (tb 859 (by decide +kernel)) rfl) dX7_sum_79 ?_
          refine lv_ldiv hx hb dX7_sum_82 (by decide) ?_
          refine lv_goto (tgt := 110) hx hb dX7_sum_83 (by decide) ?_
          refine lv_l2i hx hb dX7_sum_110 rfl ?_
          exact z_iret hx hb hr (by rw [hpl, if_pos rfl]; (try first | rw [if_pos c5] | rw [if_neg c5]); (try first | rw [if_pos c6] | rw [if_neg c6])) rfl hw.2 (by rw [hpl]; exact hw.1) (Nat.le_of_ble_eq_true rfl) (Nat.le_of_ble_eq_true rfl) dX7_sum_111 hlocks
      · skip
        refine lv_iconst (v := (-1)) hx hb dX7_sum_69 (by decide) ?_
        refine lv_goto (tgt := 111) hx hb dX7_sum_70 (by decide) ?_
        exact z_iret hx hb hr (by rw [hpl, if_pos rfl]; (try first | rw [if_pos c5] | rw [if_neg c5])) rfl hw.2 (by rw [hpl]; exact hw.1) (Nat.le_of_ble_eq_true rfl) (Nat.le_of_ble_eq_true rfl) dX7_sum_111 hlocks
  · skip
    have c1 := zb_eq0.mp c1
    refine lv_iconst (v := 1) hx hb dX7_sum_11 (by decide) ?_
    refine lv_goto (tgt := 29) hx hb dX7_sum_12 (by decide) ?_
    refine z_ci0 (z_runV (As := [.int 1]) (rest := []) M hw (zr_t hR 128 7 0 (by decide)) zc_X7_108 (c_X7_goesWell l base D cA ad ty I L P hR 1) hw.1 rfl rfl ⟨Nat.le_of_ble_eq_true rfl, Nat.le_of_ble_eq_true rfl⟩ ⟨Nat.le_of_ble_eq_true rfl, Nat.le_of_ble_eq_true rfl⟩ hl.1 (Nat.le_of_ble_eq_true rfl) dX7_sum_29) hw (fun H locs hw => ?_)
    refine z_topi (y := 0) (zb_0 (by decide)) ?_
    have hpl : (if zlt i nt then (if zin x 0 2 then 0 else 2) else 1) = 1 := by (try first | rw [if_pos c1] | rw [if_neg c1])
    refine lv_if_ne (tgt := 37) hx hb dX7_sum_32 (by decide) (fun c8 => ?_) (fun c8 => ?_)
    · exact absurd c8 (by decide)
    refine lv_iconst (v := 0) hx hb dX7_sum_35 (by decide) ?_
    exact z_iret hx hb hr (by rw [hpl]; rfl) rfl hw.2 (by rw [hpl]; exact hw.1) (Nat.le_of_ble_eq_true rfl) (Nat.le_of_ble_eq_true rfl) dX7_sum_36 hlocks
set_option maxHeartbeats 4000000 in
set_option maxRecDepth 100000 in
theorem c_X7_sumAnew (l : Launch) (base : Nat) (D : va_G) (cA : Nat → ClassId) (ad : Nat → Nat) (ty : zTyp) (I : zIt) (L : zLt) (P : zPt) (hR : zref ty P) (ni nc ns nt : Nat) (hbd : zRbd ni nc ns nt) (hV : zRv ni nc ns nt I) (i : Int32) : zMi l base D cA yX7_sumAnew cX7_sumAnew 2 .int 2 50 0 0 [.ref (ad 128), .int i] (zW base D cA ad ty I L P) (if (if zlt i nt then 0 else 1) = 0 then (if lg_cmp ((zFar (zu I 128 0 0) (L 157) ni nc (I 151 i.toNatClampNeg)) (I 150 i.toNatClampNeg).toNatClampNeg) zFAR < 0 then (((zFar (zu I 128 0 0) (L 157) ni nc (I 151 i.toNatClampNeg)) (I 150 i.toNatClampNeg).toNatClampNeg) / 1000000).toInt32 else -1) else 0) (zW base D cA ad ty (if (if zlt i nt then 0 else 1) = 0 then (zs (zu I 128 0 0) 158 (zGoes (zu I 128 0 0) nc)) else zu I 128 0 (nI (if zlt i nt then 0 else 1))) (if (if zlt i nt then 0 else 1) = 0 then (zs L 157 (zFar (zu I 128 0 0) (L 157) ni nc (I 151 i.toNatClampNeg))) else L) P) := by
  refine z_start (by decide +kernel) (Nat.le_of_ble_eq_true rfl) fun p e s m below meth c ls M hP hS hl hr hlocks hnm => ?_
  have M : zM p s m c cX7_sumAnew RX7 2 base D cA := M
  have hw : zH base D cA s s.heap [] ad ty I L P := ⟨hP, hS⟩
  obtain ⟨hx, hb, -⟩ := id M
  have hl : lv_has ls 2 [(0, .ref (ad 128)), (1, .int i)] := hl
  obtain ⟨hb1, hb2, hb3, hb4⟩ := id hbd
  refine lv_aload_n hx hb dX7_sumAnew_0 rfl (lv_at hl 0 rfl) ?_
  refine lv_aload_n hx hb dX7_sumAnew_1 rfl (lv_at hl 0 rfl) ?_
  refine lv_iload_n hx hb dX7_sumAnew_2 rfl (lv_at hl 1 rfl) ?_
  refine z_ci0 (z_runV (As := [.int i]) (rest := [.ref (ad 128)]) M hw (zr_t hR 128 7 0 (by decide)) zc_X7_175 (c_X7_isTrader l base D cA ad ty I L P hR nt hV.1.2.2.2 (by omega) i) hw.1 rfl rfl ⟨Nat.le_of_ble_eq_true rfl, Nat.le_of_ble_eq_true rfl⟩ ⟨Nat.le_of_ble_eq_true rfl, Nat.le_of_ble_eq_true rfl⟩ hl.1 (Nat.le_of_ble_eq_true rfl) dX7_sumAnew_3) hw (fun H locs hw => ?_)
  refine lv_if_eq (tgt := 13) hx hb dX7_sumAnew_6 (by decide) (fun c1 => ?_) (fun c1 => ?_)
  · skip
    have c1 := zb_eq0.mp c1
    refine lv_iconst (v := 1) hx hb dX7_sumAnew_13 (by decide) ?_
    refine z_ci0 (z_runV (As := [.int 1]) (rest := []) M hw (zr_t hR 128 7 0 (by decide)) zc_X7_108 (c_X7_goesWell l base D cA ad ty I L P hR 1) hw.1 rfl rfl ⟨Nat.le_of_ble_eq_true rfl, Nat.le_of_ble_eq_true rfl⟩ ⟨Nat.le_of_ble_eq_true rfl, Nat.le_of_ble_eq_true rfl⟩ hl.1 (Nat.le_of_ble_eq_true rfl) dX7_sumAnew_14) hw (fun H locs hw => ?_)
    refine z_topi (y := 0) (zb_0 (by decide)) ?_
    have hpl : (if zlt i nt then 0 else 1) = 1 := by (try first | rw [if_pos c1] | rw [if_neg c1])
    refine lv_if_ne (tgt := 22) hx hb dX7_sumAnew_17 (by decide) (fun c2 => ?_) (fun c2 => ?_)
    · exact absurd c2 (by decide)
    refine lv_iconst (v := 0) hx hb dX7_sumAnew_20 (by decide) ?_
    exact z_iret hx hb hr (by rw [hpl]; rfl) rfl hw.2 (by rw [hpl]; exact hw.1) (Nat.le_of_ble_eq_true rfl) (Nat.le_of_ble_eq_true rfl) dX7_sumAnew_21 hlocks
  · skip
    have c1 := zb_ne0.mp c1
    refine lv_iconst (v := 0) hx hb dX7_sumAnew_9 (by decide) ?_
    refine lv_goto (tgt := 14) hx hb dX7_sumAnew_10 (by decide) ?_
    refine z_ci0 (z_runV (As := [.int 0]) (rest := []) M hw (zr_t hR 128 7 0 (by decide)) zc_X7_108 (c_X7_goesWell l base D cA ad ty I L P hR 0) hw.1 rfl rfl ⟨Nat.le_of_ble_eq_true rfl, Nat.le_of_ble_eq_true rfl⟩ ⟨Nat.le_of_ble_eq_true rfl, Nat.le_of_ble_eq_true rfl⟩ hl.1 (Nat.le_of_ble_eq_true rfl) dX7_sumAnew_14) hw (fun H locs hw => ?_)
    refine z_topi (y := 1) (zb_1 (by decide)) ?_
    have hpl : (if zlt i nt then 0 else 1) = 0 := by (try first | rw [if_pos c1] | rw [if_neg c1])
    have hVZ : zRv ni nc ns nt (zu I 128 0 0) := zRv_zu (by unfold zRl; omega) hV
    have qi := (zlt_nat c1).2
    rw [(zlt_nat c1).1] at hl
    refine lv_if_ne (tgt := 22) hx hb dX7_sumAnew_17 (by decide) (fun c3 => ?_) (fun c3 => ?_)
    rotate_left
    · exact absurd c3 (by decide)
    refine lv_aload_n hx hb dX7_sumAnew_22 rfl (lv_at hl 0 rfl) ?_
    refine lv_aload_n hx hb dX7_sumAnew_23 rfl (lv_at hl 0 rfl) ?_
    refine z_getr M hw (zr_t hR 128 7 0 (by decide)) zf_X7_58 (zr_p hR 23 (by decide)) dX7_sumAnew_24 ?_
    refine lv_iload_n hx hb dX7_sumAnew_27 rfl (lv_at hl 1 rfl) ?_
    refine z_iNald M hw (zr_t hR 151 8 12 (by decide)) rfl ⟨by omega, by omega⟩ dX7_sumAnew_28 ?_
    refine z_topi (y := I 151 i.toNatClampNeg) (by rw [zu_ne _ _ (by omega)]) ?_
    refine z_cv0 (z_runV (As := [.int (I 151 i.toNatClampNeg)]) (rest := []) M hw (zr_t hR 128 7 0 (by decide)) zc_X7_163 (c_X7_findWays l base D cA ad ty (zu I 128 0 0) L P hR ni nc ns nt hbd hVZ (I 151 i.toNatClampNeg)) hw.1 rfl rfl ⟨Nat.le_of_ble_eq_true rfl, Nat.le_of_ble_eq_true rfl⟩ ⟨Nat.le_of_ble_eq_true rfl, Nat.le_of_ble_eq_true rfl⟩ hl.1 (Nat.le_of_ble_eq_true rfl) dX7_sumAnew_29) hw (fun H locs hw => ?_)
    have hV1 : zRv ni nc ns nt (zs (zu I 128 0 0) 158 (zGoes (zu I 128 0 0) nc)) := zRv_zs (by omega) hVZ
    refine lv_aload_n hx hb dX7_sumAnew_32 rfl (lv_at hl 0 rfl) ?_
    refine z_getr M hw (zr_t hR 128 7 0 (by decide)) zf_X7_77 (zr_p hR 29 (by decide)) dX7_sumAnew_33 ?_
    refine lv_aload_n hx hb dX7_sumAnew_36 rfl (lv_at hl 0 rfl) ?_
    refine z_getr M hw (zr_t hR 128 7 0 (by decide)) zf_X7_55 (zr_p hR 22 (by decide)) dX7_sumAnew_37 ?_
    refine lv_iload_n hx hb dX7_sumAnew_40 rfl (lv_at hl 1 rfl) ?_
    refine z_iNald M hw (zr_t hR 150 8 12 (by decide)) rfl ⟨by omega, by omega⟩ dX7_sumAnew_41 ?_
    refine z_topi (y := I 150 i.toNatClampNeg) (by rw [zs_ne _ _ (by omega), zu_ne _ _ (by omega)]) ?_
    refine z_topi (y := nI (I 150 i.toNatClampNeg).toNatClampNeg) (zR150 hbd hV qi).1 ?_
    refine z_lNald M hw (zr_t hR 157 9 10 (by decide)) rfl ⟨by have := (zR150 hbd hV qi).2; omega, by omega⟩ dX7_sumAnew_42 ?_
    refine z_topl (y := (zFar (zu I 128 0 0) (L 157) ni nc (I 151 i.toNatClampNeg)) ((I 150 i.toNatClampNeg).toNatClampNeg)) (by rw [zs_self]) ?_
    refine lv_ldc2 (v := 1000000000000000) hx hb M.2.2.2.1 (M.2.2.2.2.1.use (tb 850 (by decide +kernel)) rfl) dX7_sumAnew_43 ?_
    refine W.lcmp hx hb dX7_sumAnew_46 ?_
    refine lv_if_lt (tgt := 54) hx hb dX7_sumAnew_47 (by decide) (fun c4 => ?_) (fun c4 => ?_)
    · skip
      refine lv_aload_n hx hb dX7_sumAnew_54 rfl (lv_at hl 0 rfl) ?_
      refine z_getr M hw (zr_t hR 128 7 0 (by decide)) zf_X7_77 (zr_p hR 29 (by decide)) dX7_sumAnew_55 ?_
      refine lv_aload_n hx hb dX7_sumAnew_58 rfl (lv_at hl 0 rfl) ?_
      refine z_getr M hw (zr_t hR 128 7 0 (by decide)) zf_X7_55 (zr_p hR 22 (by decide)) dX7_sumAnew_59 ?_
      refine lv_iload_n hx hb dX7_sumAnew_62 rfl (lv_at hl 1 rfl) ?_
      refine z_iNald M hw (zr_t hR 150 8 12 (by decide)) rfl ⟨by omega, by omega⟩ dX7_sumAnew_63 ?_
      refine z_topi (y := I 150 i.toNatClampNeg) (by rw [zs_ne _ _ (by omega), zu_ne _ _ (by omega)]) ?_
      refine z_topi (y := nI (I 150 i.toNatClampNeg).toNatClampNeg) (zR150 hbd hV qi).1 ?_
      refine z_lNald M hw (zr_t hR 157 9 10 (by decide)) rfl ⟨by have := (zR150 hbd hV qi).2; omega, by omega⟩ dX7_sumAnew_64 ?_
      refine z_topl (y := (zFar (zu I 128 0 0) (L 157) ni nc (I 151 i.toNatClampNeg)) ((I 150 i.toNatClampNeg).toNatClampNeg)) (by rw [zs_self]) ?_
      refine lv_ldc2 (v := 1000000) hx hb M.2.2.2.1 (M.2.2.2.2.1.use (tb 859 (by decide +kernel)) rfl) dX7_sumAnew_65 ?_
      refine lv_ldiv hx hb dX7_sumAnew_68 (by decide) ?_
      refine lv_l2i hx hb dX7_sumAnew_69 rfl ?_
      exact z_iret hx hb hr (by rw [hpl, if_pos rfl]; (try first | rw [if_pos c4] | rw [if_neg c4])) rfl hw.2 (by rw [hpl]; exact hw.1) (Nat.le_of_ble_eq_true rfl) (Nat.le_of_ble_eq_true rfl) dX7_sumAnew_70 hlocks
    · skip
      refine lv_iconst (v := (-1)) hx hb dX7_sumAnew_50 (by decide) ?_
      refine lv_goto (tgt := 70) hx hb dX7_sumAnew_51 (by decide) ?_
      exact z_iret hx hb hr (by rw [hpl, if_pos rfl]; (try first | rw [if_pos c4] | rw [if_neg c4])) rfl hw.2 (by rw [hpl]; exact hw.1) (Nat.le_of_ble_eq_true rfl) (Nat.le_of_ble_eq_true rfl) dX7_sumAnew_70 hlocks
set_option maxHeartbeats 4000000 in
set_option maxRecDepth 100000 in
theorem c_X7_account (l : Launch) (base : Nat) (D : va_G) (cA : Nat → ClassId) (ad : Nat → Nat) (ty : zTyp) (I : zIt) (L : zLt) (P : zPt) (hR : zref ty P) (ni nc ns nt : Nat) (hbd : zRbd ni nc ns nt) (hV : zRv ni nc ns nt I) (i x : Int32) : zMl l base D cA yX7_account cX7_account 4 2 43 0 0 [.ref (ad 128), .int i, .int x] (zW base D cA ad ty I L P) (if (if zlt i nt then (if zin x 0 3 then 0 else 2) else 1) = 0 then L 156 (4 * i.toNatClampNeg + x.toNatClampNeg) else 0) (zW base D cA ad ty (if (if zlt i nt then (if zin x 0 3 then 0 else 2) else 1) = 0 then (zu I 128 0 0) else zu I 128 0 (nI (if zlt i nt then (if zin x 0 3 then 0 else 2) else 1))) L P) := by
  refine z_start (by decide +kernel) (Nat.le_of_ble_eq_true rfl) fun p e s m below meth c ls M hP hS hl hr hlocks hnm => ?_
  have M : zM p s m c cX7_account RX7 4 base D cA := M
  have hw : zH base D cA s s.heap [] ad ty I L P := ⟨hP, hS⟩
  obtain ⟨hx, hb, -⟩ := id M
  have hl : lv_has ls 4 [(0, .ref (ad 128)), (1, .int i), (2, .int x)] := hl
  obtain ⟨hb1, hb2, hb3, hb4⟩ := id hbd
  refine lv_aload_n hx hb dX7_account_0 rfl (lv_at hl 0 rfl) ?_
  refine lv_iload_n hx hb dX7_account_1 rfl (lv_at hl 1 rfl) ?_
  refine z_ci0 (z_runV (As := [.int i]) (rest := []) M hw (zr_t hR 128 7 0 (by decide)) zc_X7_175 (c_X7_isTrader l base D cA ad ty I L P hR nt hV.1.2.2.2 (by omega) i) hw.1 rfl rfl ⟨Nat.le_of_ble_eq_true rfl, Nat.le_of_ble_eq_true rfl⟩ ⟨Nat.le_of_ble_eq_true rfl, Nat.le_of_ble_eq_true rfl⟩ hl.1 (Nat.le_of_ble_eq_true rfl) dX7_account_2) hw (fun H locs hw => ?_)
  refine lv_istore_n (lv' := [(3, .int (zb (zlt i nt))), (0, .ref (ad 128)), (1, .int i), (2, .int x)]) hx hb dX7_account_5 rfl hl (by decide) rfl (fun ls hl => ?_)
  refine lv_aload_n hx hb dX7_account_6 rfl (lv_at hl 1 rfl) ?_
  refine lv_iload_n hx hb dX7_account_7 rfl (lv_at hl 0 rfl) ?_
  refine lv_if_ne (tgt := 15) hx hb dX7_account_8 (by decide) (fun c1 => ?_) (fun c1 => ?_)
  · skip
    have c1 := zb_ne0.mp c1
    refine lv_iload_n hx hb dX7_account_15 rfl (lv_at hl 3 rfl) ?_
    refine lv_iconst (v := 0) hx hb dX7_account_16 (by decide) ?_
    refine lv_iconst (v := 3) hx hb dX7_account_17 (by decide) ?_
    refine z_ci0 (z_runS (As := [.int x, .int 0, .int 3]) (rest := [.ref (ad 128)]) M hw.2 zc_X7_91 (c_X7_in l base D cA ad ty I L P x 0 3) hw.1 rfl rfl ⟨Nat.le_of_ble_eq_true rfl, Nat.le_of_ble_eq_true rfl⟩ ⟨Nat.le_of_ble_eq_true rfl, Nat.le_of_ble_eq_true rfl⟩ hl.1 (Nat.le_of_ble_eq_true rfl) dX7_account_18) hw (fun H locs hw => ?_)
    refine lv_if_eq (tgt := 28) hx hb dX7_account_21 (by decide) (fun c2 => ?_) (fun c2 => ?_)
    · skip
      have c2 := zb_eq0.mp c2
      refine lv_iconst (v := 2) hx hb dX7_account_28 (by decide) ?_
      refine z_ci0 (z_runV (As := [.int 2]) (rest := []) M hw (zr_t hR 128 7 0 (by decide)) zc_X7_108 (c_X7_goesWell l base D cA ad ty I L P hR 2) hw.1 rfl rfl ⟨Nat.le_of_ble_eq_true rfl, Nat.le_of_ble_eq_true rfl⟩ ⟨Nat.le_of_ble_eq_true rfl, Nat.le_of_ble_eq_true rfl⟩ hl.1 (Nat.le_of_ble_eq_true rfl) dX7_account_29) hw (fun H locs hw => ?_)
      refine z_topi (y := 0) (zb_0 (by decide)) ?_
      have hpl : (if zlt i nt then (if zin x 0 3 then 0 else 2) else 1) = 2 := by (try first | rw [if_pos c1] | rw [if_neg c1]); (try first | rw [if_pos c2] | rw [if_neg c2])
      refine lv_if_eq (tgt := 48) hx hb dX7_account_32 (by decide) (fun c3 => ?_) (fun c3 => ?_)
      rotate_left
      · exact absurd c3 (by decide)
      refine lv_lconst (v := 0) hx hb dX7_account_48 (by decide) ?_
      exact z_lret hx hb hr (by rw [hpl]; rfl) hw.2 (by rw [hpl]; exact hw.1) (Nat.le_of_ble_eq_true rfl) (Nat.le_of_ble_eq_true rfl) dX7_account_49 hlocks
    · skip
      have c2 := zb_ne0.mp c2
      refine lv_iconst (v := 0) hx hb dX7_account_24 (by decide) ?_
      refine lv_goto (tgt := 29) hx hb dX7_account_25 (by decide) ?_
      refine z_ci0 (z_runV (As := [.int 0]) (rest := []) M hw (zr_t hR 128 7 0 (by decide)) zc_X7_108 (c_X7_goesWell l base D cA ad ty I L P hR 0) hw.1 rfl rfl ⟨Nat.le_of_ble_eq_true rfl, Nat.le_of_ble_eq_true rfl⟩ ⟨Nat.le_of_ble_eq_true rfl, Nat.le_of_ble_eq_true rfl⟩ hl.1 (Nat.le_of_ble_eq_true rfl) dX7_account_29) hw (fun H locs hw => ?_)
      refine z_topi (y := 1) (zb_1 (by decide)) ?_
      have hpl : (if zlt i nt then (if zin x 0 3 then 0 else 2) else 1) = 0 := by (try first | rw [if_pos c1] | rw [if_neg c1]); (try first | rw [if_pos c2] | rw [if_neg c2])
      have hVZ : zRv ni nc ns nt (zu I 128 0 0) := zRv_zu (by unfold zRl; omega) hV
      have qi := (zlt_nat c1).2
      rw [(zlt_nat c1).1] at hl
      refine lv_if_eq (tgt := 48) hx hb dX7_account_32 (by decide) (fun c4 => ?_) (fun c4 => ?_)
      · exact absurd c4 (by decide)
      refine lv_aload_n hx hb dX7_account_35 rfl (lv_at hl 1 rfl) ?_
      refine z_getr M hw (zr_t hR 128 7 0 (by decide)) zf_X7_73 (zr_p hR 28 (by decide)) dX7_account_36 ?_
      refine lv_iconst (v := 4) hx hb dX7_account_39 (by decide) ?_
      refine lv_iload_n hx hb dX7_account_40 rfl (lv_at hl 2 rfl) ?_
      refine lv_imul hx hb dX7_account_41 ?_
      refine lv_iload_n hx hb dX7_account_42 rfl (lv_at hl 3 rfl) ?_
      refine lv_iadd hx hb dX7_account_43 ?_
      refine z_lNald M hw (zr_t hR 156 9 48 (by decide)) (by have h := z4k i.toNatClampNeg (by omega) _ (zx4 c2).2; rw [← (zx4 c2).1] at h; exact h) ⟨by have := (zx4 c2).2; omega, by have := (zx4 c2).2; omega⟩ dX7_account_44 ?_
      refine lv_goto (tgt := 49) hx hb dX7_account_45 (by decide) ?_
      exact z_lret hx hb hr (by rw [hpl]; rfl) hw.2 (by rw [hpl]; exact hw.1) (Nat.le_of_ble_eq_true rfl) (Nat.le_of_ble_eq_true rfl) dX7_account_49 hlocks
  · skip
    have c1 := zb_eq0.mp c1
    refine lv_iconst (v := 1) hx hb dX7_account_11 (by decide) ?_
    refine lv_goto (tgt := 29) hx hb dX7_account_12 (by decide) ?_
    refine z_ci0 (z_runV (As := [.int 1]) (rest := []) M hw (zr_t hR 128 7 0 (by decide)) zc_X7_108 (c_X7_goesWell l base D cA ad ty I L P hR 1) hw.1 rfl rfl ⟨Nat.le_of_ble_eq_true rfl, Nat.le_of_ble_eq_true rfl⟩ ⟨Nat.le_of_ble_eq_true rfl, Nat.le_of_ble_eq_true rfl⟩ hl.1 (Nat.le_of_ble_eq_true rfl) dX7_account_29) hw (fun H locs hw => ?_)
    refine z_topi (y := 0) (zb_0 (by decide)) ?_
    have hpl : (if zlt i nt then (if zin x 0 3 then 0 else 2) else 1) = 1 := by (try first | rw [if_pos c1] | rw [if_neg c1])
    refine lv_if_eq (tgt := 48) hx hb dX7_account_32 (by decide) (fun c5 => ?_) (fun c5 => ?_)
    rotate_left
    · exact absurd c5 (by decide)
    refine lv_lconst (v := 0) hx hb dX7_account_48 (by decide) ?_
    exact z_lret hx hb hr (by rw [hpl]; rfl) hw.2 (by rw [hpl]; exact hw.1) (Nat.le_of_ble_eq_true rfl) (Nat.le_of_ble_eq_true rfl) dX7_account_49 hlocks
set_option maxHeartbeats 4000000 in
set_option maxRecDepth 100000 in
theorem c_X7_reach (l : Launch) (base : Nat) (D : va_G) (cA : Nat → ClassId) (ad : Nat → Nat) (ty : zTyp) (I : zIt) (L : zLt) (P : zPt) (hR : zref ty P) (ni nc ns nt : Nat) (hbd : zRbd ni nc ns nt) (hV : zRv ni nc ns nt I) (i : Int32) : zMi l base D cA yX7_reach cX7_reach 4 .int 2 50 0 0 [.ref (ad 128), .int i] (zW base D cA ad ty I L P) (if (if zlt i ni then 0 else 1) = 0 then zRch (zFar (zu I 128 0 0) (L 157) ni nc (nI i.toNatClampNeg)) ni else 0) (zW base D cA ad ty (if (if zlt i ni then 0 else 1) = 0 then (zs (zu I 128 0 0) 158 (zGoes (zu I 128 0 0) nc)) else zu I 128 0 (nI (if zlt i ni then 0 else 1))) (if (if zlt i ni then 0 else 1) = 0 then (zs L 157 (zFar (zu I 128 0 0) (L 157) ni nc (nI i.toNatClampNeg))) else L) P) := by
  refine z_start (by decide +kernel) (Nat.le_of_ble_eq_true rfl) fun p e s m below meth c ls M hP hS hl hr hlocks hnm => ?_
  have M : zM p s m c cX7_reach RX7 4 base D cA := M
  have hw : zH base D cA s s.heap [] ad ty I L P := ⟨hP, hS⟩
  obtain ⟨hx, hb, -⟩ := id M
  have hl : lv_has ls 4 [(0, .ref (ad 128)), (1, .int i)] := hl
  obtain ⟨hb1, hb2, hb3, hb4⟩ := id hbd
  refine lv_aload_n hx hb dX7_reach_0 rfl (lv_at hl 0 rfl) ?_
  refine lv_aload_n hx hb dX7_reach_1 rfl (lv_at hl 0 rfl) ?_
  refine lv_iload_n hx hb dX7_reach_2 rfl (lv_at hl 1 rfl) ?_
  refine z_ci0 (z_runV (As := [.int i]) (rest := [.ref (ad 128)]) M hw (zr_t hR 128 7 0 (by decide)) zc_X7_111 (c_X7_isIsland l base D cA ad ty I L P hR ni hV.1.1 (by omega) i) hw.1 rfl rfl ⟨Nat.le_of_ble_eq_true rfl, Nat.le_of_ble_eq_true rfl⟩ ⟨Nat.le_of_ble_eq_true rfl, Nat.le_of_ble_eq_true rfl⟩ hl.1 (Nat.le_of_ble_eq_true rfl) dX7_reach_3) hw (fun H locs hw => ?_)
  refine lv_if_eq (tgt := 13) hx hb dX7_reach_6 (by decide) (fun c1 => ?_) (fun c1 => ?_)
  · skip
    have c1 := zb_eq0.mp c1
    refine lv_iconst (v := 1) hx hb dX7_reach_13 (by decide) ?_
    refine z_ci0 (z_runV (As := [.int 1]) (rest := []) M hw (zr_t hR 128 7 0 (by decide)) zc_X7_108 (c_X7_goesWell l base D cA ad ty I L P hR 1) hw.1 rfl rfl ⟨Nat.le_of_ble_eq_true rfl, Nat.le_of_ble_eq_true rfl⟩ ⟨Nat.le_of_ble_eq_true rfl, Nat.le_of_ble_eq_true rfl⟩ hl.1 (Nat.le_of_ble_eq_true rfl) dX7_reach_14) hw (fun H locs hw => ?_)
    refine z_topi (y := 0) (zb_0 (by decide)) ?_
    have hpl : (if zlt i ni then 0 else 1) = 1 := by (try first | rw [if_pos c1] | rw [if_neg c1])
    refine lv_if_ne (tgt := 22) hx hb dX7_reach_17 (by decide) (fun c2 => ?_) (fun c2 => ?_)
    · exact absurd c2 (by decide)
    refine lv_iconst (v := 0) hx hb dX7_reach_20 (by decide) ?_
    exact z_iret hx hb hr (by rw [hpl]; rfl) rfl hw.2 (by rw [hpl]; exact hw.1) (Nat.le_of_ble_eq_true rfl) (Nat.le_of_ble_eq_true rfl) dX7_reach_21 hlocks
  · skip
    have c1 := zb_ne0.mp c1
    refine lv_iconst (v := 0) hx hb dX7_reach_9 (by decide) ?_
    refine lv_goto (tgt := 14) hx hb dX7_reach_10 (by decide) ?_
    refine z_ci0 (z_runV (As := [.int 0]) (rest := []) M hw (zr_t hR 128 7 0 (by decide)) zc_X7_108 (c_X7_goesWell l base D cA ad ty I L P hR 0) hw.1 rfl rfl ⟨Nat.le_of_ble_eq_true rfl, Nat.le_of_ble_eq_true rfl⟩ ⟨Nat.le_of_ble_eq_true rfl, Nat.le_of_ble_eq_true rfl⟩ hl.1 (Nat.le_of_ble_eq_true rfl) dX7_reach_14) hw (fun H locs hw => ?_)
    refine z_topi (y := 1) (zb_1 (by decide)) ?_
    have hpl : (if zlt i ni then 0 else 1) = 0 := by (try first | rw [if_pos c1] | rw [if_neg c1])
    have hVZ : zRv ni nc ns nt (zu I 128 0 0) := zRv_zu (by unfold zRl; omega) hV
    have qi := (zlt_nat c1).2
    rw [(zlt_nat c1).1] at hl
    refine lv_if_ne (tgt := 22) hx hb dX7_reach_17 (by decide) (fun c3 => ?_) (fun c3 => ?_)
    rotate_left
    · exact absurd c3 (by decide)
    refine lv_aload_n hx hb dX7_reach_22 rfl (lv_at hl 0 rfl) ?_
    refine lv_iload_n hx hb dX7_reach_23 rfl (lv_at hl 1 rfl) ?_
    refine z_cv0 (z_runV (As := [.int (nI i.toNatClampNeg)]) (rest := []) M hw (zr_t hR 128 7 0 (by decide)) zc_X7_163 (c_X7_findWays l base D cA ad ty (zu I 128 0 0) L P hR ni nc ns nt hbd hVZ (nI i.toNatClampNeg)) hw.1 rfl rfl ⟨Nat.le_of_ble_eq_true rfl, Nat.le_of_ble_eq_true rfl⟩ ⟨Nat.le_of_ble_eq_true rfl, Nat.le_of_ble_eq_true rfl⟩ hl.1 (Nat.le_of_ble_eq_true rfl) dX7_reach_24) hw (fun H locs hw => ?_)
    have hV1 : zRv ni nc ns nt (zs (zu I 128 0 0) 158 (zGoes (zu I 128 0 0) nc)) := zRv_zs (by omega) hVZ
    refine lv_iconst (v := 0) hx hb dX7_reach_27 (by decide) ?_
    refine lv_istore_n (lv' := [(2, .int 0), (0, .ref (ad 128)), (1, .int (nI i.toNatClampNeg))]) hx hb dX7_reach_28 rfl hl (by decide) rfl (fun ls hl => ?_)
    refine lv_iconst (v := 0) hx hb dX7_reach_29 (by decide) ?_
    refine lv_istore_n (lv' := [(3, .int 0), (2, .int 0), (0, .ref (ad 128)), (1, .int (nI i.toNatClampNeg))]) hx hb dX7_reach_30 rfl hl (by decide) rfl (fun ls hl => ?_)
    refine z_loop (ni) (fun (k : Nat) H locs ls => zH base D cA s H locs ad ty (zs (zu I 128 0 0) 158 (zGoes (zu I 128 0 0) nc)) (zs L 157 (zFar (zu I 128 0 0) (L 157) ni nc (nI i.toNatClampNeg))) P ∧ lv_has ls 4 [(0, .ref (ad 128)), (1, .int (nI i.toNatClampNeg)), (2, .int (zRch (zFar (zu I 128 0 0) (L 157) ni nc (nI i.toNatClampNeg)) k)), (3, .int (nI k))]) 0 ⟨hw, lv_sub hl [2, 3, 1, 0] rfl⟩ (by omega) (fun k hk_k ih_k H locs ls hI => ?_)
    obtain ⟨hw, hl⟩ := hI
    refine lv_iload_n hx hb dX7_reach_31 rfl (lv_at hl 3 rfl) ?_
    refine lv_aload_n hx hb dX7_reach_32 rfl (lv_at hl 0 rfl) ?_
    refine z_geti M hw (zr_t hR 128 7 0 (by decide)) zf_X7_88 dX7_reach_33 ?_
    refine z_topi (y := I 128 2) (by rw [zs_ne _ _ (by omega), zu_ne _ _ (by omega)]) ?_
    refine z_topi (y := nI ni) hV.1.1 ?_
    refine lv_icmp_ge (tgt := 68) hx hb dX7_reach_36 (by decide) (fun c4 => ?_) (fun c4 => ?_)
    · skip
      have hge : ni = k := Nat.le_antisymm (z_ge (show nI ni ≤ nI k from c4) (by omega) (by omega)) (by omega)
      subst hge
      refine lv_iload_n hx hb dX7_reach_68 rfl (lv_at hl 2 rfl) ?_
      exact z_iret hx hb hr (by rw [hpl]; rfl) rfl hw.2 (by rw [hpl]; exact hw.1) (Nat.le_of_ble_eq_true rfl) (Nat.le_of_ble_eq_true rfl) dX7_reach_69 hlocks
    · skip
      have hlt : k < ni := z_lt (show ¬ nI ni ≤ nI k from c4) (by omega)
      refine lv_iload_n hx hb dX7_reach_39 rfl (lv_at hl 2 rfl) ?_
      refine lv_aload_n hx hb dX7_reach_40 rfl (lv_at hl 0 rfl) ?_
      refine z_getr M hw (zr_t hR 128 7 0 (by decide)) zf_X7_77 (zr_p hR 29 (by decide)) dX7_reach_41 ?_
      refine lv_iload_n hx hb dX7_reach_44 rfl (lv_at hl 3 rfl) ?_
      refine z_lNald M hw (zr_t hR 157 9 10 (by decide)) rfl ⟨by omega, by omega⟩ dX7_reach_45 ?_
      refine z_topl (y := (zFar (zu I 128 0 0) (L 157) ni nc (nI i.toNatClampNeg)) k) (by rw [zs_self]) ?_
      refine lv_ldc2 (v := 1000000000000000) hx hb M.2.2.2.1 (M.2.2.2.2.1.use (tb 850 (by decide +kernel)) rfl) dX7_reach_46 ?_
      refine W.lcmp hx hb dX7_reach_49 ?_
      refine lv_if_ge (tgt := 59) hx hb dX7_reach_50 (by decide) (fun c5 => ?_) (fun c5 => ?_)
      · skip
        refine lv_iconst (v := 0) hx hb dX7_reach_59 (by decide) ?_
        refine lv_ior hx hb dX7_reach_60 ?_
        refine z_topi (y := zRch (zFar (zu I 128 0 0) (L 157) ni nc (nI i.toNatClampNeg)) (k + 1)) (by show _ = zRch (zFar (zu I 128 0 0) (L 157) ni nc (nI i.toNatClampNeg)) k ||| (if 0 ≤ lg_cmp ((zFar (zu I 128 0 0) (L 157) ni nc (nI i.toNatClampNeg)) k) zFAR then 0 else (1 : Int32) <<< (nI k &&& 31) : Int32); (try first | rw [if_pos c5] | rw [if_neg c5])) ?_
        refine lv_istore_n (lv' := [(2, .int (zRch (zFar (zu I 128 0 0) (L 157) ni nc (nI i.toNatClampNeg)) (k + 1))), (0, .ref (ad 128)), (1, .int (nI i.toNatClampNeg)), (3, .int (nI k))]) hx hb dX7_reach_61 rfl hl (by decide) rfl (fun ls hl => ?_)
        refine lv_iinc (v := nI (k + 1)) (lv' := [(3, .int (nI (k + 1))), (2, .int (zRch (zFar (zu I 128 0 0) (L 157) ni nc (nI i.toNatClampNeg)) (k + 1))), (0, .ref (ad 128)), (1, .int (nI i.toNatClampNeg))]) hx hb dX7_reach_62 hl (k := 3) rfl (nI_succ _).symm (by decide) rfl (fun ls hl => ?_)
        refine lv_goto (tgt := 31) hx hb dX7_reach_65 (by decide) ?_
        exact ih_k hlt _ _ _ ⟨hw, lv_sub hl [2, 3, 1, 0] rfl⟩
      · skip
        refine lv_iconst (v := 1) hx hb dX7_reach_53 (by decide) ?_
        refine lv_iload_n hx hb dX7_reach_54 rfl (lv_at hl 3 rfl) ?_
        refine lv_ishl hx hb dX7_reach_55 ?_
        refine lv_goto (tgt := 60) hx hb dX7_reach_56 (by decide) ?_
        refine lv_ior hx hb dX7_reach_60 ?_
        refine z_topi (y := zRch (zFar (zu I 128 0 0) (L 157) ni nc (nI i.toNatClampNeg)) (k + 1)) (by show _ = zRch (zFar (zu I 128 0 0) (L 157) ni nc (nI i.toNatClampNeg)) k ||| (if 0 ≤ lg_cmp ((zFar (zu I 128 0 0) (L 157) ni nc (nI i.toNatClampNeg)) k) zFAR then 0 else (1 : Int32) <<< (nI k &&& 31) : Int32); (try first | rw [if_pos c5] | rw [if_neg c5])) ?_
        refine lv_istore_n (lv' := [(2, .int (zRch (zFar (zu I 128 0 0) (L 157) ni nc (nI i.toNatClampNeg)) (k + 1))), (0, .ref (ad 128)), (1, .int (nI i.toNatClampNeg)), (3, .int (nI k))]) hx hb dX7_reach_61 rfl hl (by decide) rfl (fun ls hl => ?_)
        refine lv_iinc (v := nI (k + 1)) (lv' := [(3, .int (nI (k + 1))), (2, .int (zRch (zFar (zu I 128 0 0) (L 157) ni nc (nI i.toNatClampNeg)) (k + 1))), (0, .ref (ad 128)), (1, .int (nI i.toNatClampNeg))]) hx hb dX7_reach_62 hl (k := 3) rfl (nI_succ _).symm (by decide) rfl (fun ls hl => ?_)
        refine lv_goto (tgt := 31) hx hb dX7_reach_65 (by decide) ?_
        exact ih_k hlt _ _ _ ⟨hw, lv_sub hl [2, 3, 1, 0] rfl⟩
