set_option maxHeartbeats 4000000 in
set_option maxRecDepth 100000 in
theorem c_X7_island (l : Launch) (base : Nat) (D : va_G) (cA : Nat → ClassId) (ad : Nat → Nat) (ty : zTyp) (I : zIt) (L : zLt) (P : zPt) (hR : zref ty P) (ni nc ns nt : Nat) (hbd : zRbd ni nc ns nt) (hV : zRv ni nc ns nt I) (i j : Int32) : zMi l base D cA yX7_island cX7_island 4 .int 1 22 0 0 [.ref (ad 128), .int i, .int j] (zW base D cA ad ty I L P) (if (if zin i 0 99 then (if zin j 0 99 then (if nI ni = 10 then 2 else 0) else 1) else 1) = 0 then nI ni else 0) (zW base D cA ad ty (if (if zin i 0 99 then (if zin j 0 99 then (if nI ni = 10 then 2 else 0) else 1) else 1) = 0 then (zu (zu (zu (zu I 128 0 0) 131 ni i) 132 ni j) 128 2 (nI (ni + 1))) else zu I 128 0 (nI (if zin i 0 99 then (if zin j 0 99 then (if nI ni = 10 then 2 else 0) else 1) else 1))) L P) := by
  refine z_start (by decide +kernel) (Nat.le_of_ble_eq_true rfl) fun p e s m below meth c ls M hP hS hl hr hlocks hnm => ?_
  have M : zM p s m c cX7_island RX7 4 base D cA := M
  have hw : zH base D cA s s.heap [] ad ty I L P := ⟨hP, hS⟩
  obtain ⟨hx, hb, -⟩ := id M
  have hl : lv_has ls 4 [(0, .ref (ad 128)), (1, .int i), (2, .int j)] := hl
  obtain ⟨hb1, hb2, hb3, hb4⟩ := id hbd
  refine lv_iload_n hx hb dX7_island_0 rfl (lv_at hl 1 rfl) ?_
  refine lv_iconst (v := 0) hx hb dX7_island_1 (by decide) ?_
  refine lv_bipush (v := 99) hx hb dX7_island_2 (by decide) ?_
  refine z_ci0 (z_runS (As := [.int i, .int 0, .int 99]) (rest := []) M hw.2 zc_X7_91 (c_X7_in l base D cA ad ty I L P i 0 99) hw.1 rfl rfl ⟨Nat.le_of_ble_eq_true rfl, Nat.le_of_ble_eq_true rfl⟩ ⟨Nat.le_of_ble_eq_true rfl, Nat.le_of_ble_eq_true rfl⟩ hl.1 (Nat.le_of_ble_eq_true rfl) dX7_island_4) hw (fun H locs hw => ?_)
  refine lv_if_eq (tgt := 24) hx hb dX7_island_7 (by decide) (fun c1 => ?_) (fun c1 => ?_)
  · skip
    have c1 := zb_eq0.mp c1
    refine lv_iconst (v := 0) hx hb dX7_island_24 (by decide) ?_
    refine lv_istore_n (lv' := [(3, .int 0), (0, .ref (ad 128)), (1, .int i), (2, .int j)]) hx hb dX7_island_25 rfl hl (by decide) rfl (fun ls hl => ?_)
    refine lv_aload_n hx hb dX7_island_26 rfl (lv_at hl 1 rfl) ?_
    refine lv_iload_n hx hb dX7_island_27 rfl (lv_at hl 0 rfl) ?_
    refine lv_if_ne (tgt := 35) hx hb dX7_island_28 (by decide) (fun c2 => ?_) (fun c2 => ?_)
    · exact absurd c2 (by decide)
    refine lv_iconst (v := 1) hx hb dX7_island_31 (by decide) ?_
    refine lv_goto (tgt := 49) hx hb dX7_island_32 (by decide) ?_
    refine z_ci0 (z_runV (As := [.int 1]) (rest := []) M hw (zr_t hR 128 7 0 (by decide)) zc_X7_108 (c_X7_goesWell l base D cA ad ty I L P hR 1) hw.1 rfl rfl ⟨Nat.le_of_ble_eq_true rfl, Nat.le_of_ble_eq_true rfl⟩ ⟨Nat.le_of_ble_eq_true rfl, Nat.le_of_ble_eq_true rfl⟩ hl.1 (Nat.le_of_ble_eq_true rfl) dX7_island_49) hw (fun H locs hw => ?_)
    refine z_topi (y := 0) (zb_0 (by decide)) ?_
    have hpl : (if zin i 0 99 then (if zin j 0 99 then (if nI ni = 10 then 2 else 0) else 1) else 1) = 1 := by (try first | rw [if_pos c1] | rw [if_neg c1])
    refine lv_if_ne (tgt := 57) hx hb dX7_island_52 (by decide) (fun c3 => ?_) (fun c3 => ?_)
    · exact absurd c3 (by decide)
    refine lv_iconst (v := 0) hx hb dX7_island_55 (by decide) ?_
    exact z_iret hx hb hr (by rw [hpl]; rfl) rfl hw.2 (by rw [hpl]; exact hw.1) (Nat.le_of_ble_eq_true rfl) (Nat.le_of_ble_eq_true rfl) dX7_island_56 hlocks
  · skip
    have c1 := zb_ne0.mp c1
    refine lv_iload_n hx hb dX7_island_10 rfl (lv_at hl 2 rfl) ?_
    refine lv_iconst (v := 0) hx hb dX7_island_11 (by decide) ?_
    refine lv_bipush (v := 99) hx hb dX7_island_12 (by decide) ?_
    refine z_ci0 (z_runS (As := [.int j, .int 0, .int 99]) (rest := []) M hw.2 zc_X7_91 (c_X7_in l base D cA ad ty I L P j 0 99) hw.1 rfl rfl ⟨Nat.le_of_ble_eq_true rfl, Nat.le_of_ble_eq_true rfl⟩ ⟨Nat.le_of_ble_eq_true rfl, Nat.le_of_ble_eq_true rfl⟩ hl.1 (Nat.le_of_ble_eq_true rfl) dX7_island_14) hw (fun H locs hw => ?_)
    refine lv_if_eq (tgt := 24) hx hb dX7_island_17 (by decide) (fun c4 => ?_) (fun c4 => ?_)
    · skip
      have c4 := zb_eq0.mp c4
      refine lv_iconst (v := 0) hx hb dX7_island_24 (by decide) ?_
      refine lv_istore_n (lv' := [(3, .int 0), (0, .ref (ad 128)), (1, .int i), (2, .int j)]) hx hb dX7_island_25 rfl hl (by decide) rfl (fun ls hl => ?_)
      refine lv_aload_n hx hb dX7_island_26 rfl (lv_at hl 1 rfl) ?_
      refine lv_iload_n hx hb dX7_island_27 rfl (lv_at hl 0 rfl) ?_
      refine lv_if_ne (tgt := 35) hx hb dX7_island_28 (by decide) (fun c5 => ?_) (fun c5 => ?_)
      · exact absurd c5 (by decide)
      refine lv_iconst (v := 1) hx hb dX7_island_31 (by decide) ?_
      refine lv_goto (tgt := 49) hx hb dX7_island_32 (by decide) ?_
      refine z_ci0 (z_runV (As := [.int 1]) (rest := []) M hw (zr_t hR 128 7 0 (by decide)) zc_X7_108 (c_X7_goesWell l base D cA ad ty I L P hR 1) hw.1 rfl rfl ⟨Nat.le_of_ble_eq_true rfl, Nat.le_of_ble_eq_true rfl⟩ ⟨Nat.le_of_ble_eq_true rfl, Nat.le_of_ble_eq_true rfl⟩ hl.1 (Nat.le_of_ble_eq_true rfl) dX7_island_49) hw (fun H locs hw => ?_)
      refine z_topi (y := 0) (zb_0 (by decide)) ?_
      have hpl : (if zin i 0 99 then (if zin j 0 99 then (if nI ni = 10 then 2 else 0) else 1) else 1) = 1 := by (try first | rw [if_pos c1] | rw [if_neg c1]); (try first | rw [if_pos c4] | rw [if_neg c4])
      refine lv_if_ne (tgt := 57) hx hb dX7_island_52 (by decide) (fun c6 => ?_) (fun c6 => ?_)
      · exact absurd c6 (by decide)
      refine lv_iconst (v := 0) hx hb dX7_island_55 (by decide) ?_
      exact z_iret hx hb hr (by rw [hpl]; rfl) rfl hw.2 (by rw [hpl]; exact hw.1) (Nat.le_of_ble_eq_true rfl) (Nat.le_of_ble_eq_true rfl) dX7_island_56 hlocks
    · skip
      have c4 := zb_ne0.mp c4
      refine lv_iconst (v := 1) hx hb dX7_island_20 (by decide) ?_
      refine lv_goto (tgt := 25) hx hb dX7_island_21 (by decide) ?_
      refine lv_istore_n (lv' := [(3, .int 1), (0, .ref (ad 128)), (1, .int i), (2, .int j)]) hx hb dX7_island_25 rfl hl (by decide) rfl (fun ls hl => ?_)
      refine lv_aload_n hx hb dX7_island_26 rfl (lv_at hl 1 rfl) ?_
      refine lv_iload_n hx hb dX7_island_27 rfl (lv_at hl 0 rfl) ?_
      refine lv_if_ne (tgt := 35) hx hb dX7_island_28 (by decide) (fun c7 => ?_) (fun c7 => ?_)
      rotate_left
      · exact absurd c7 (by decide)
      refine lv_aload_n hx hb dX7_island_35 rfl (lv_at hl 1 rfl) ?_
      refine z_geti M hw (zr_t hR 128 7 0 (by decide)) zf_X7_88 dX7_island_36 ?_
      refine z_topi (y := nI ni) hV.1.1 ?_
      refine lv_bipush (v := 10) hx hb dX7_island_39 (by decide) ?_
      refine lv_icmp_ne (tgt := 48) hx hb dX7_island_41 (by decide) (fun c8 => ?_) (fun c8 => ?_)
      · skip
        have hlt : ni < 10 := z_nelt (show ¬ nI ni = nI 10 from c8) (by omega)
        refine lv_iconst (v := 0) hx hb dX7_island_48 (by decide) ?_
        refine z_ci0 (z_runV (As := [.int 0]) (rest := []) M hw (zr_t hR 128 7 0 (by decide)) zc_X7_108 (c_X7_goesWell l base D cA ad ty I L P hR 0) hw.1 rfl rfl ⟨Nat.le_of_ble_eq_true rfl, Nat.le_of_ble_eq_true rfl⟩ ⟨Nat.le_of_ble_eq_true rfl, Nat.le_of_ble_eq_true rfl⟩ hl.1 (Nat.le_of_ble_eq_true rfl) dX7_island_49) hw (fun H locs hw => ?_)
        refine z_topi (y := 1) (zb_1 (by decide)) ?_
        have hpl : (if zin i 0 99 then (if zin j 0 99 then (if nI ni = 10 then 2 else 0) else 1) else 1) = 0 := by (try first | rw [if_pos c1] | rw [if_neg c1]); (try first | rw [if_pos c4] | rw [if_neg c4]); (try first | rw [if_pos c8] | rw [if_neg c8])
        have hVZ : zRv ni nc ns nt (zu I 128 0 0) := zRv_zu (by unfold zRl; omega) hV
        refine lv_if_ne (tgt := 57) hx hb dX7_island_52 (by decide) (fun c9 => ?_) (fun c9 => ?_)
        rotate_left
        · exact absurd c9 (by decide)
        refine lv_aload_n hx hb dX7_island_57 rfl (lv_at hl 1 rfl) ?_
        refine z_getr M hw (zr_t hR 128 7 0 (by decide)) zf_X7_7 (zr_p hR 3 (by decide)) dX7_island_58 ?_
        refine lv_aload_n hx hb dX7_island_61 rfl (lv_at hl 1 rfl) ?_
        refine z_geti M hw (zr_t hR 128 7 0 (by decide)) zf_X7_88 dX7_island_62 ?_
        refine z_topi (y := I 128 2) (by rw [zu_ne _ _ (by omega)]) ?_
        refine z_topi (y := nI ni) hV.1.1 ?_
        refine lv_iload_n hx hb dX7_island_65 rfl (lv_at hl 2 rfl) ?_
        refine z_iNast M hw (zr_t hR 131 8 10 (by decide)) rfl ⟨by omega, by omega⟩ dX7_island_66 (fun H locs hw => ?_)
        refine lv_aload_n hx hb dX7_island_67 rfl (lv_at hl 1 rfl) ?_
        refine z_getr M hw (zr_t hR 128 7 0 (by decide)) zf_X7_13 (zr_p hR 4 (by decide)) dX7_island_68 ?_
        refine lv_aload_n hx hb dX7_island_71 rfl (lv_at hl 1 rfl) ?_
        refine z_geti M hw (zr_t hR 128 7 0 (by decide)) zf_X7_88 dX7_island_72 ?_
        refine z_topi (y := I 128 2) (by rw [zu_ne _ _ (by omega), zu_ne _ _ (by omega)]) ?_
        refine z_topi (y := nI ni) hV.1.1 ?_
        refine lv_iload_n hx hb dX7_island_75 rfl (lv_at hl 3 rfl) ?_
        refine z_iNast M hw (zr_t hR 132 8 10 (by decide)) rfl ⟨by omega, by omega⟩ dX7_island_76 (fun H locs hw => ?_)
        refine lv_aload_n hx hb dX7_island_77 rfl (lv_at hl 1 rfl) ?_
        refine lv_dup hx hb dX7_island_78 rfl ?_
        refine z_geti M hw (zr_t hR 128 7 0 (by decide)) zf_X7_88 dX7_island_79 ?_
        refine z_topi (y := I 128 2) (by rw [zu_ne _ _ (by omega), zu_ne _ _ (by omega), zu_ne _ _ (by omega)]) ?_
        refine z_topi (y := nI ni) hV.1.1 ?_
        refine lv_iconst (v := 1) hx hb dX7_island_82 (by decide) ?_
        refine lv_iadd hx hb dX7_island_83 ?_
        refine z_puti M hw (zr_t hR 128 7 0 (by decide)) zf_X7_88 (Or.inl rfl) rfl rfl dX7_island_84 (fun H locs hw => ?_)
        refine lv_aload_n hx hb dX7_island_87 rfl (lv_at hl 1 rfl) ?_
        refine z_geti M hw (zr_t hR 128 7 0 (by decide)) zf_X7_88 dX7_island_88 ?_
        refine z_topi (y := (nI ni) + 1) (by rw [zu_self]) ?_
        refine lv_iconst (v := 1) hx hb dX7_island_91 (by decide) ?_
        refine lv_isub hx hb dX7_island_92 ?_
        exact z_iret hx hb hr (by rw [hpl, ← nI_succ, nI_pred]; rfl) rfl hw.2 (by rw [hpl]; rw [← nI_succ] at hw; exact hw.1) (Nat.le_of_ble_eq_true rfl) (Nat.le_of_ble_eq_true rfl) dX7_island_93 hlocks
      · skip
        refine lv_iconst (v := 2) hx hb dX7_island_44 (by decide) ?_
        refine lv_goto (tgt := 49) hx hb dX7_island_45 (by decide) ?_
        refine z_ci0 (z_runV (As := [.int 2]) (rest := []) M hw (zr_t hR 128 7 0 (by decide)) zc_X7_108 (c_X7_goesWell l base D cA ad ty I L P hR 2) hw.1 rfl rfl ⟨Nat.le_of_ble_eq_true rfl, Nat.le_of_ble_eq_true rfl⟩ ⟨Nat.le_of_ble_eq_true rfl, Nat.le_of_ble_eq_true rfl⟩ hl.1 (Nat.le_of_ble_eq_true rfl) dX7_island_49) hw (fun H locs hw => ?_)
        refine z_topi (y := 0) (zb_0 (by decide)) ?_
        have hpl : (if zin i 0 99 then (if zin j 0 99 then (if nI ni = 10 then 2 else 0) else 1) else 1) = 2 := by (try first | rw [if_pos c1] | rw [if_neg c1]); (try first | rw [if_pos c4] | rw [if_neg c4]); (try first | rw [if_pos c8] | rw [if_neg c8])
        refine lv_if_ne (tgt := 57) hx hb dX7_island_52 (by decide) (fun c10 => ?_) (fun c10 => ?_)
        · exact absurd c10 (by decide)
        refine lv_iconst (v := 0) hx hb dX7_island_55 (by decide) ?_
        exact z_iret hx hb hr (by rw [hpl]; rfl) rfl hw.2 (by rw [hpl]; exact hw.1) (Nat.le_of_ble_eq_true rfl) (Nat.le_of_ble_eq_true rfl) dX7_island_56 hlocks
set_option maxHeartbeats 4000000 in
set_option maxRecDepth 100000 in
theorem c_X7_cable (l : Launch) (base : Nat) (D : va_G) (cA : Nat → ClassId) (ad : Nat → Nat) (ty : zTyp) (I : zIt) (L : zLt) (P : zPt) (hR : zref ty P) (ni nc ns nt : Nat) (hbd : zRbd ni nc ns nt) (hV : zRv ni nc ns nt I) (i j k x y : Int32) : zMi l base D cA yX7_cable cX7_cable 8 .int 2 43 0 0 [.ref (ad 128), .int i, .int j, .int k, .int x, .int y] (zW base D cA ad ty I L P) (if (if zlt i ni then (if zlt j ni then (if i = j then 2 else if zin k 1 8 then (if zin x 1 500 then (if zin y 0 9999 then (if nI nc = 16 then 3 else 0) else 2) else 2) else 2) else 1) else 1) = 0 then nI nc else 0) (zW base D cA ad ty (if (if zlt i ni then (if zlt j ni then (if i = j then 2 else if zin k 1 8 then (if zin x 1 500 then (if zin y 0 9999 then (if nI nc = 16 then 3 else 0) else 2) else 2) else 2) else 1) else 1) = 0 then (zu (zu (zu (zu (zu (zu (zu I 128 0 0) 134 nc i) 135 nc j) 136 nc k) 137 nc x) 138 nc y) 128 5 (nI (nc + 1))) else zu I 128 0 (nI (if zlt i ni then (if zlt j ni then (if i = j then 2 else if zin k 1 8 then (if zin x 1 500 then (if zin y 0 9999 then (if nI nc = 16 then 3 else 0) else 2) else 2) else 2) else 1) else 1))) L P) := by
  refine z_start (by decide +kernel) (Nat.le_of_ble_eq_true rfl) fun p e s m below meth c ls M hP hS hl hr hlocks hnm => ?_
  have M : zM p s m c cX7_cable RX7 8 base D cA := M
  have hw : zH base D cA s s.heap [] ad ty I L P := ⟨hP, hS⟩
  obtain ⟨hx, hb, -⟩ := id M
  have hl : lv_has ls 8 [(0, .ref (ad 128)), (1, .int i), (2, .int j), (3, .int k), (4, .int x), (5, .int y)] := hl
  obtain ⟨hb1, hb2, hb3, hb4⟩ := id hbd
  refine lv_aload_n hx hb dX7_cable_0 rfl (lv_at hl 0 rfl) ?_
  refine lv_iload_n hx hb dX7_cable_1 rfl (lv_at hl 1 rfl) ?_
  refine z_ci0 (z_runV (As := [.int i]) (rest := []) M hw (zr_t hR 128 7 0 (by decide)) zc_X7_111 (c_X7_isIsland l base D cA ad ty I L P hR ni hV.1.1 (by omega) i) hw.1 rfl rfl ⟨Nat.le_of_ble_eq_true rfl, Nat.le_of_ble_eq_true rfl⟩ ⟨Nat.le_of_ble_eq_true rfl, Nat.le_of_ble_eq_true rfl⟩ hl.1 (Nat.le_of_ble_eq_true rfl) dX7_cable_2) hw (fun H locs hw => ?_)
  refine lv_if_eq (tgt := 20) hx hb dX7_cable_5 (by decide) (fun c1 => ?_) (fun c1 => ?_)
  · skip
    have c1 := zb_eq0.mp c1
    refine lv_iconst (v := 0) hx hb dX7_cable_20 (by decide) ?_
    refine lv_istore (lv' := [(6, .int 0), (0, .ref (ad 128)), (1, .int i), (2, .int j), (3, .int k), (4, .int x), (5, .int y)]) hx hb dX7_cable_21 hl (by decide) rfl (fun ls hl => ?_)
    refine lv_iload_n hx hb dX7_cable_23 rfl (lv_at hl 2 rfl) ?_
    refine lv_iload_n hx hb dX7_cable_24 rfl (lv_at hl 3 rfl) ?_
    refine lv_icmp_eq (tgt := 66) hx hb dX7_cable_25 (by decide) (fun c2 => ?_) (fun c2 => ?_)
    · skip
      refine lv_iconst (v := 0) hx hb dX7_cable_66 (by decide) ?_
      refine lv_istore (lv' := [(7, .int 0), (6, .int 0), (0, .ref (ad 128)), (1, .int i), (2, .int j), (3, .int k), (4, .int x), (5, .int y)]) hx hb dX7_cable_67 hl (by decide) rfl (fun ls hl => ?_)
      refine lv_aload_n hx hb dX7_cable_69 rfl (lv_at hl 2 rfl) ?_
      refine lv_iload hx hb dX7_cable_70 (lv_at hl 1 rfl) ?_
      refine lv_if_ne (tgt := 79) hx hb dX7_cable_72 (by decide) (fun c3 => ?_) (fun c3 => ?_)
      · exact absurd c3 (by decide)
      refine lv_iconst (v := 1) hx hb dX7_cable_75 (by decide) ?_
      refine lv_goto (tgt := 102) hx hb dX7_cable_76 (by decide) ?_
      refine z_ci0 (z_runV (As := [.int 1]) (rest := []) M hw (zr_t hR 128 7 0 (by decide)) zc_X7_108 (c_X7_goesWell l base D cA ad ty I L P hR 1) hw.1 rfl rfl ⟨Nat.le_of_ble_eq_true rfl, Nat.le_of_ble_eq_true rfl⟩ ⟨Nat.le_of_ble_eq_true rfl, Nat.le_of_ble_eq_true rfl⟩ hl.1 (Nat.le_of_ble_eq_true rfl) dX7_cable_102) hw (fun H locs hw => ?_)
      refine z_topi (y := 0) (zb_0 (by decide)) ?_
      have hpl : (if zlt i ni then (if zlt j ni then (if i = j then 2 else if zin k 1 8 then (if zin x 1 500 then (if zin y 0 9999 then (if nI nc = 16 then 3 else 0) else 2) else 2) else 2) else 1) else 1) = 1 := by (try first | rw [if_pos c1] | rw [if_neg c1]); (try first | rw [if_pos c2] | rw [if_neg c2])
      refine lv_if_ne (tgt := 110) hx hb dX7_cable_105 (by decide) (fun c4 => ?_) (fun c4 => ?_)
      · exact absurd c4 (by decide)
      refine lv_iconst (v := 0) hx hb dX7_cable_108 (by decide) ?_
      exact z_iret hx hb hr (by rw [hpl]; rfl) rfl hw.2 (by rw [hpl]; exact hw.1) (Nat.le_of_ble_eq_true rfl) (Nat.le_of_ble_eq_true rfl) dX7_cable_109 hlocks
    · skip
      refine lv_iload_n hx hb dX7_cable_28 rfl (lv_at hl 4 rfl) ?_
      refine lv_iconst (v := 1) hx hb dX7_cable_29 (by decide) ?_
      refine lv_bipush (v := 8) hx hb dX7_cable_30 (by decide) ?_
      refine z_ci0 (z_runS (As := [.int k, .int 1, .int 8]) (rest := []) M hw.2 zc_X7_91 (c_X7_in l base D cA ad ty I L P k 1 8) hw.1 rfl rfl ⟨Nat.le_of_ble_eq_true rfl, Nat.le_of_ble_eq_true rfl⟩ ⟨Nat.le_of_ble_eq_true rfl, Nat.le_of_ble_eq_true rfl⟩ hl.1 (Nat.le_of_ble_eq_true rfl) dX7_cable_32) hw (fun H locs hw => ?_)
      refine lv_if_eq (tgt := 66) hx hb dX7_cable_35 (by decide) (fun c5 => ?_) (fun c5 => ?_)
      · skip
        have c5 := zb_eq0.mp c5
        refine lv_iconst (v := 0) hx hb dX7_cable_66 (by decide) ?_
        refine lv_istore (lv' := [(7, .int 0), (6, .int 0), (0, .ref (ad 128)), (1, .int i), (2, .int j), (3, .int k), (4, .int x), (5, .int y)]) hx hb dX7_cable_67 hl (by decide) rfl (fun ls hl => ?_)
        refine lv_aload_n hx hb dX7_cable_69 rfl (lv_at hl 2 rfl) ?_
        refine lv_iload hx hb dX7_cable_70 (lv_at hl 1 rfl) ?_
        refine lv_if_ne (tgt := 79) hx hb dX7_cable_72 (by decide) (fun c6 => ?_) (fun c6 => ?_)
        · exact absurd c6 (by decide)
        refine lv_iconst (v := 1) hx hb dX7_cable_75 (by decide) ?_
        refine lv_goto (tgt := 102) hx hb dX7_cable_76 (by decide) ?_
        refine z_ci0 (z_runV (As := [.int 1]) (rest := []) M hw (zr_t hR 128 7 0 (by decide)) zc_X7_108 (c_X7_goesWell l base D cA ad ty I L P hR 1) hw.1 rfl rfl ⟨Nat.le_of_ble_eq_true rfl, Nat.le_of_ble_eq_true rfl⟩ ⟨Nat.le_of_ble_eq_true rfl, Nat.le_of_ble_eq_true rfl⟩ hl.1 (Nat.le_of_ble_eq_true rfl) dX7_cable_102) hw (fun H locs hw => ?_)
        refine z_topi (y := 0) (zb_0 (by decide)) ?_
        have hpl : (if zlt i ni then (if zlt j ni then (if i = j then 2 else if zin k 1 8 then (if zin x 1 500 then (if zin y 0 9999 then (if nI nc = 16 then 3 else 0) else 2) else 2) else 2) else 1) else 1) = 1 := by (try first | rw [if_pos c1] | rw [if_neg c1]); (try first | rw [if_pos c2] | rw [if_neg c2]); (try first | rw [if_pos c5] | rw [if_neg c5])
        refine lv_if_ne (tgt := 110) hx hb dX7_cable_105 (by decide) (fun c7 => ?_) (fun c7 => ?_)
        · exact absurd c7 (by decide)
        refine lv_iconst (v := 0) hx hb dX7_cable_108 (by decide) ?_
        exact z_iret hx hb hr (by rw [hpl]; rfl) rfl hw.2 (by rw [hpl]; exact hw.1) (Nat.le_of_ble_eq_true rfl) (Nat.le_of_ble_eq_true rfl) dX7_cable_109 hlocks
      · skip
        have c5 := zb_ne0.mp c5
        refine lv_iload hx hb dX7_cable_38 (lv_at hl 5 rfl) ?_
        refine lv_iconst (v := 1) hx hb dX7_cable_40 (by decide) ?_
        refine lv_sipush (v := 500) hx hb dX7_cable_41 (by decide) ?_
        refine z_ci0 (z_runS (As := [.int x, .int 1, .int 500]) (rest := []) M hw.2 zc_X7_91 (c_X7_in l base D cA ad ty I L P x 1 500) hw.1 rfl rfl ⟨Nat.le_of_ble_eq_true rfl, Nat.le_of_ble_eq_true rfl⟩ ⟨Nat.le_of_ble_eq_true rfl, Nat.le_of_ble_eq_true rfl⟩ hl.1 (Nat.le_of_ble_eq_true rfl) dX7_cable_44) hw (fun H locs hw => ?_)
        refine lv_if_eq (tgt := 66) hx hb dX7_cable_47 (by decide) (fun c8 => ?_) (fun c8 => ?_)
        · skip
          have c8 := zb_eq0.mp c8
          refine lv_iconst (v := 0) hx hb dX7_cable_66 (by decide) ?_
          refine lv_istore (lv' := [(7, .int 0), (6, .int 0), (0, .ref (ad 128)), (1, .int i), (2, .int j), (3, .int k), (4, .int x), (5, .int y)]) hx hb dX7_cable_67 hl (by decide) rfl (fun ls hl => ?_)
          refine lv_aload_n hx hb dX7_cable_69 rfl (lv_at hl 2 rfl) ?_
          refine lv_iload hx hb dX7_cable_70 (lv_at hl 1 rfl) ?_
          refine lv_if_ne (tgt := 79) hx hb dX7_cable_72 (by decide) (fun c9 => ?_) (fun c9 => ?_)
          · exact absurd c9 (by decide)
          refine lv_iconst (v := 1) hx hb dX7_cable_75 (by decide) ?_
          refine lv_goto (tgt := 102) hx hb dX7_cable_76 (by decide) ?_
          refine z_ci0 (z_runV (As := [.int 1]) (rest := []) M hw (zr_t hR 128 7 0 (by decide)) zc_X7_108 (c_X7_goesWell l base D cA ad ty I L P hR 1) hw.1 rfl rfl ⟨Nat.le_of_ble_eq_true rfl, Nat.le_of_ble_eq_true rfl⟩ ⟨Nat.le_of_ble_eq_true rfl, Nat.le_of_ble_eq_true rfl⟩ hl.1 (Nat.le_of_ble_eq_true rfl) dX7_cable_102) hw (fun H locs hw => ?_)
          refine z_topi (y := 0) (zb_0 (by decide)) ?_
          have hpl : (if zlt i ni then (if zlt j ni then (if i = j then 2 else if zin k 1 8 then (if zin x 1 500 then (if zin y 0 9999 then (if nI nc = 16 then 3 else 0) else 2) else 2) else 2) else 1) else 1) = 1 := by (try first | rw [if_pos c1] | rw [if_neg c1]); (try first | rw [if_pos c2] | rw [if_neg c2]); (try first | rw [if_pos c5] | rw [if_neg c5]); (try first | rw [if_pos c8] | rw [if_neg c8])
          refine lv_if_ne (tgt := 110) hx hb dX7_cable_105 (by decide) (fun c10 => ?_) (fun c10 => ?_)
          · exact absurd c10 (by decide)
          refine lv_iconst (v := 0) hx hb dX7_cable_108 (by decide) ?_
          exact z_iret hx hb hr (by rw [hpl]; rfl) rfl hw.2 (by rw [hpl]; exact hw.1) (Nat.le_of_ble_eq_true rfl) (Nat.le_of_ble_eq_true rfl) dX7_cable_109 hlocks
        · skip
          have c8 := zb_ne0.mp c8
          refine lv_iload hx hb dX7_cable_50 (lv_at hl 6 rfl) ?_
          refine lv_iconst (v := 0) hx hb dX7_cable_52 (by decide) ?_
          refine lv_sipush (v := 9999) hx hb dX7_cable_53 (by decide) ?_
          refine z_ci0 (z_runS (As := [.int y, .int 0, .int 9999]) (rest := []) M hw.2 zc_X7_91 (c_X7_in l base D cA ad ty I L P y 0 9999) hw.1 rfl rfl ⟨Nat.le_of_ble_eq_true rfl, Nat.le_of_ble_eq_true rfl⟩ ⟨Nat.le_of_ble_eq_true rfl, Nat.le_of_ble_eq_true rfl⟩ hl.1 (Nat.le_of_ble_eq_true rfl) dX7_cable_56) hw (fun H locs hw => ?_)
          refine lv_if_eq (tgt := 66) hx hb dX7_cable_59 (by decide) (fun c11 => ?_) (fun c11 => ?_)
          · skip
            have c11 := zb_eq0.mp c11
            refine lv_iconst (v := 0) hx hb dX7_cable_66 (by decide) ?_
            refine lv_istore (lv' := [(7, .int 0), (6, .int 0), (0, .ref (ad 128)), (1, .int i), (2, .int j), (3, .int k), (4, .int x), (5, .int y)]) hx hb dX7_cable_67 hl (by decide) rfl (fun ls hl => ?_)
            refine lv_aload_n hx hb dX7_cable_69 rfl (lv_at hl 2 rfl) ?_
            refine lv_iload hx hb dX7_cable_70 (lv_at hl 1 rfl) ?_
            refine lv_if_ne (tgt := 79) hx hb dX7_cable_72 (by decide) (fun c12 => ?_) (fun c12 => ?_)
            · exact absurd c12 (by decide)
            refine lv_iconst (v := 1) hx hb dX7_cable_75 (by decide) ?_
            refine lv_goto (tgt := 102) hx hb dX7_cable_76 (by decide) ?_
            refine z_ci0 (z_runV (As := [.int 1]) (rest := []) M hw (zr_t hR 128 7 0 (by decide)) zc_X7_108 (c_X7_goesWell l base D cA ad ty I L P hR 1) hw.1 rfl rfl ⟨Nat.le_of_ble_eq_true rfl, Nat.le_of_ble_eq_true rfl⟩ ⟨Nat.le_of_ble_eq_true rfl, Nat.le_of_ble_eq_true rfl⟩ hl.1 (Nat.le_of_ble_eq_true rfl) dX7_cable_102) hw (fun H locs hw => ?_)
            refine z_topi (y := 0) (zb_0 (by decide)) ?_
            have hpl : (if zlt i ni then (if zlt j ni then (if i = j then 2 else if zin k 1 8 then (if zin x 1 500 then (if zin y 0 9999 then (if nI nc = 16 then 3 else 0) else 2) else 2) else 2) else 1) else 1) = 1 := by (try first | rw [if_pos c1] | rw [if_neg c1]); (try first | rw [if_pos c2] | rw [if_neg c2]); (try first | rw [if_pos c5] | rw [if_neg c5]); (try first | rw [if_pos c8] | rw [if_neg c8]); (try first | rw [if_pos c11] | rw [if_neg c11])
            refine lv_if_ne (tgt := 110) hx hb dX7_cable_105 (by decide) (fun c13 => ?_) (fun c13 => ?_)
            · exact absurd c13 (by decide)
            refine lv_iconst (v := 0) hx hb dX7_cable_108 (by decide) ?_
            exact z_iret hx hb hr (by rw [hpl]; rfl) rfl hw.2 (by rw [hpl]; exact hw.1) (Nat.le_of_ble_eq_true rfl) (Nat.le_of_ble_eq_true rfl) dX7_cable_109 hlocks
          · skip
            have c11 := zb_ne0.mp c11
            refine lv_iconst (v := 1) hx hb dX7_cable_62 (by decide) ?_
            refine lv_goto (tgt := 67) hx hb dX7_cable_63 (by decide) ?_
            refine lv_istore (lv' := [(7, .int 1), (6, .int 0), (0, .ref (ad 128)), (1, .int i), (2, .int j), (3, .int k), (4, .int x), (5, .int y)]) hx hb dX7_cable_67 hl (by decide) rfl (fun ls hl => ?_)
            refine lv_aload_n hx hb dX7_cable_69 rfl (lv_at hl 2 rfl) ?_
            refine lv_iload hx hb dX7_cable_70 (lv_at hl 1 rfl) ?_
            refine lv_if_ne (tgt := 79) hx hb dX7_cable_72 (by decide) (fun c14 => ?_) (fun c14 => ?_)
            · exact absurd c14 (by decide)
            refine lv_iconst (v := 1) hx hb dX7_cable_75 (by decide) ?_
            refine lv_goto (tgt := 102) hx hb dX7_cable_76 (by decide) ?_
            refine z_ci0 (z_runV (As := [.int 1]) (rest := []) M hw (zr_t hR 128 7 0 (by decide)) zc_X7_108 (c_X7_goesWell l base D cA ad ty I L P hR 1) hw.1 rfl rfl ⟨Nat.le_of_ble_eq_true rfl, Nat.le_of_ble_eq_true rfl⟩ ⟨Nat.le_of_ble_eq_true rfl, Nat.le_of_ble_eq_true rfl⟩ hl.1 (Nat.le_of_ble_eq_true rfl) dX7_cable_102) hw (fun H locs hw => ?_)
            refine z_topi (y := 0) (zb_0 (by decide)) ?_
            have hpl : (if zlt i ni then (if zlt j ni then (if i = j then 2 else if zin k 1 8 then (if zin x 1 500 then (if zin y 0 9999 then (if nI nc = 16 then 3 else 0) else 2) else 2) else 2) else 1) else 1) = 1 := by (try first | rw [if_pos c1] | rw [if_neg c1]); (try first | rw [if_pos c2] | rw [if_neg c2]); (try first | rw [if_pos c5] | rw [if_neg c5]); (try first | rw [if_pos c8] | rw [if_neg c8]); (try first | rw [if_pos c11] | rw [if_neg c11])
            refine lv_if_ne (tgt := 110) hx hb dX7_cable_105 (by decide) (fun c15 => ?_) (fun c15 => ?_)
            · exact absurd c15 (by decide)
            refine lv_iconst (v := 0) hx hb dX7_cable_108 (by decide) ?_
            exact z_iret hx hb hr (by rw [hpl]; rfl) rfl hw.2 (by rw [hpl]; exact hw.1) (Nat.le_of_ble_eq_true rfl) (Nat.le_of_ble_eq_true rfl) dX7_cable_109 hlocks
  · skip
    have c1 := zb_ne0.mp c1
    refine lv_aload_n hx hb dX7_cable_8 rfl (lv_at hl 0 rfl) ?_
    refine lv_iload_n hx hb dX7_cable_9 rfl (lv_at hl 2 rfl) ?_
    refine z_ci0 (z_runV (As := [.int j]) (rest := []) M hw (zr_t hR 128 7 0 (by decide)) zc_X7_111 (c_X7_isIsland l base D cA ad ty I L P hR ni hV.1.1 (by omega) j) hw.1 rfl rfl ⟨Nat.le_of_ble_eq_true rfl, Nat.le_of_ble_eq_true rfl⟩ ⟨Nat.le_of_ble_eq_true rfl, Nat.le_of_ble_eq_true rfl⟩ hl.1 (Nat.le_of_ble_eq_true rfl) dX7_cable_10) hw (fun H locs hw => ?_)
    refine lv_if_eq (tgt := 20) hx hb dX7_cable_13 (by decide) (fun c16 => ?_) (fun c16 => ?_)
    · skip
      have c16 := zb_eq0.mp c16
      refine lv_iconst (v := 0) hx hb dX7_cable_20 (by decide) ?_
      refine lv_istore (lv' := [(6, .int 0), (0, .ref (ad 128)), (1, .int i), (2, .int j), (3, .int k), (4, .int x), (5, .int y)]) hx hb dX7_cable_21 hl (by decide) rfl (fun ls hl => ?_)
      refine lv_iload_n hx hb dX7_cable_23 rfl (lv_at hl 2 rfl) ?_
      refine lv_iload_n hx hb dX7_cable_24 rfl (lv_at hl 3 rfl) ?_
      refine lv_icmp_eq (tgt := 66) hx hb dX7_cable_25 (by decide) (fun c17 => ?_) (fun c17 => ?_)
      · skip
        refine lv_iconst (v := 0) hx hb dX7_cable_66 (by decide) ?_
        refine lv_istore (lv' := [(7, .int 0), (6, .int 0), (0, .ref (ad 128)), (1, .int i), (2, .int j), (3, .int k), (4, .int x), (5, .int y)]) hx hb dX7_cable_67 hl (by decide) rfl (fun ls hl => ?_)
        refine lv_aload_n hx hb dX7_cable_69 rfl (lv_at hl 2 rfl) ?_
        refine lv_iload hx hb dX7_cable_70 (lv_at hl 1 rfl) ?_
        refine lv_if_ne (tgt := 79) hx hb dX7_cable_72 (by decide) (fun c18 => ?_) (fun c18 => ?_)
        · exact absurd c18 (by decide)
        refine lv_iconst (v := 1) hx hb dX7_cable_75 (by decide) ?_
        refine lv_goto (tgt := 102) hx hb dX7_cable_76 (by decide) ?_
        refine z_ci0 (z_runV (As := [.int 1]) (rest := []) M hw (zr_t hR 128 7 0 (by decide)) zc_X7_108 (c_X7_goesWell l base D cA ad ty I L P hR 1) hw.1 rfl rfl ⟨Nat.le_of_ble_eq_true rfl, Nat.le_of_ble_eq_true rfl⟩ ⟨Nat.le_of_ble_eq_true rfl, Nat.le_of_ble_eq_true rfl⟩ hl.1 (Nat.le_of_ble_eq_true rfl) dX7_cable_102) hw (fun H locs hw => ?_)
        refine z_topi (y := 0) (zb_0 (by decide)) ?_
        have hpl : (if zlt i ni then (if zlt j ni then (if i = j then 2 else if zin k 1 8 then (if zin x 1 500 then (if zin y 0 9999 then (if nI nc = 16 then 3 else 0) else 2) else 2) else 2) else 1) else 1) = 1 := by (try first | rw [if_pos c1] | rw [if_neg c1]); (try first | rw [if_pos c16] | rw [if_neg c16]); (try first | rw [if_pos c17] | rw [if_neg c17])
        refine lv_if_ne (tgt := 110) hx hb dX7_cable_105 (by decide) (fun c19 => ?_) (fun c19 => ?_)
        · exact absurd c19 (by decide)
        refine lv_iconst (v := 0) hx hb dX7_cable_108 (by decide) ?_
        exact z_iret hx hb hr (by rw [hpl]; rfl) rfl hw.2 (by rw [hpl]; exact hw.1) (Nat.le_of_ble_eq_true rfl) (Nat.le_of_ble_eq_true rfl) dX7_cable_109 hlocks
      · skip
        refine lv_iload_n hx hb dX7_cable_28 rfl (lv_at hl 4 rfl) ?_
        refine lv_iconst (v := 1) hx hb dX7_cable_29 (by decide) ?_
        refine lv_bipush (v := 8) hx hb dX7_cable_30 (by decide) ?_
        refine z_ci0 (z_runS (As := [.int k, .int 1, .int 8]) (rest := []) M hw.2 zc_X7_91 (c_X7_in l base D cA ad ty I L P k 1 8) hw.1 rfl rfl ⟨Nat.le_of_ble_eq_true rfl, Nat.le_of_ble_eq_true rfl⟩ ⟨Nat.le_of_ble_eq_true rfl, Nat.le_of_ble_eq_true rfl⟩ hl.1 (Nat.le_of_ble_eq_true rfl) dX7_cable_32) hw (fun H locs hw => ?_)
        refine lv_if_eq (tgt := 66) hx hb dX7_cable_35 (by decide) (fun c20 => ?_) (fun c20 => ?_)
        · skip
          have c20 := zb_eq0.mp c20
          refine lv_iconst (v := 0) hx hb dX7_cable_66 (by decide) ?_
          refine lv_istore (lv' := [(7, .int 0), (6, .int 0), (0, .ref (ad 128)), (1, .int i), (2, .int j), (3, .int k), (4, .int x), (5, .int y)]) hx hb dX7_cable_67 hl (by decide) rfl (fun ls hl => ?_)
          refine lv_aload_n hx hb dX7_cable_69 rfl (lv_at hl 2 rfl) ?_
          refine lv_iload hx hb dX7_cable_70 (lv_at hl 1 rfl) ?_
          refine lv_if_ne (tgt := 79) hx hb dX7_cable_72 (by decide) (fun c21 => ?_) (fun c21 => ?_)
          · exact absurd c21 (by decide)
          refine lv_iconst (v := 1) hx hb dX7_cable_75 (by decide) ?_
          refine lv_goto (tgt := 102) hx hb dX7_cable_76 (by decide) ?_
          refine z_ci0 (z_runV (As := [.int 1]) (rest := []) M hw (zr_t hR 128 7 0 (by decide)) zc_X7_108 (c_X7_goesWell l base D cA ad ty I L P hR 1) hw.1 rfl rfl ⟨Nat.le_of_ble_eq_true rfl, Nat.le_of_ble_eq_true rfl⟩ ⟨Nat.le_of_ble_eq_true rfl, Nat.le_of_ble_eq_true rfl⟩ hl.1 (Nat.le_of_ble_eq_true rfl) dX7_cable_102) hw (fun H locs hw => ?_)
          refine z_topi (y := 0) (zb_0 (by decide)) ?_
          have hpl : (if zlt i ni then (if zlt j ni then (if i = j then 2 else if zin k 1 8 then (if zin x 1 500 then (if zin y 0 9999 then (if nI nc = 16 then 3 else 0) else 2) else 2) else 2) else 1) else 1) = 1 := by (try first | rw [if_pos c1] | rw [if_neg c1]); (try first | rw [if_pos c16] | rw [if_neg c16]); (try first | rw [if_pos c17] | rw [if_neg c17]); (try first | rw [if_pos c20] | rw [if_neg c20])
          refine lv_if_ne (tgt := 110) hx hb dX7_cable_105 (by decide) (fun c22 => ?_) (fun c22 => ?_)
          · exact absurd c22 (by decide)
          refine lv_iconst (v := 0) hx hb dX7_cable_108 (by decide) ?_
          exact z_iret hx hb hr (by rw [hpl]; rfl) rfl hw.2 (by rw [hpl]; exact hw.1) (Nat.le_of_ble_eq_true rfl) (Nat.le_of_ble_eq_true rfl) dX7_cable_109 hlocks
        · skip
          have c20 := zb_ne0.mp c20
          refine lv_iload hx hb dX7_cable_38 (lv_at hl 5 rfl) ?_
          refine lv_iconst (v := 1) hx hb dX7_cable_40 (by decide) ?_
          refine lv_sipush (v := 500) hx hb dX7_cable_41 (by decide) ?_
          refine z_ci0 (z_runS (As := [.int x, .int 1, .int 500]) (rest := []) M hw.2 zc_X7_91 (c_X7_in l base D cA ad ty I L P x 1 500) hw.1 rfl rfl ⟨Nat.le_of_ble_eq_true rfl, Nat.le_of_ble_eq_true rfl⟩ ⟨Nat.le_of_ble_eq_true rfl, Nat.le_of_ble_eq_true rfl⟩ hl.1 (Nat.le_of_ble_eq_true rfl) dX7_cable_44) hw (fun H locs hw => ?_)
          refine lv_if_eq (tgt := 66) hx hb dX7_cable_47 (by decide) (fun c23 => ?_) (fun c23 => ?_)
          · skip
            have c23 := zb_eq0.mp c23
            refine lv_iconst (v := 0) hx hb dX7_cable_66 (by decide) ?_
            refine lv_istore (lv' := [(7, .int 0), (6, .int 0), (0, .ref (ad 128)), (1, .int i), (2, .int j), (3, .int k), (4, .int x), (5, .int y)]) hx hb dX7_cable_67 hl (by decide) rfl (fun ls hl => ?_)
            refine lv_aload_n hx hb dX7_cable_69 rfl (lv_at hl 2 rfl) ?_
            refine lv_iload hx hb dX7_cable_70 (lv_at hl 1 rfl) ?_
            refine lv_if_ne (tgt := 79) hx hb dX7_cable_72 (by decide) (fun c24 => ?_) (fun c24 => ?_)
            · exact absurd c24 (by decide)
            refine lv_iconst (v := 1) hx hb dX7_cable_75 (by decide) ?_
            refine lv_goto (tgt := 102) hx hb dX7_cable_76 (by decide) ?_
            refine z_ci0 (z_runV (As := [.int 1]) (rest := []) M hw (zr_t hR 128 7 0 (by decide)) zc_X7_108 (c_X7_goesWell l base D cA ad ty I L P hR 1) hw.1 rfl rfl ⟨Nat.le_of_ble_eq_true rfl, Nat.le_of_ble_eq_true rfl⟩ ⟨Nat.le_of_ble_eq_true rfl, Nat.le_of_ble_eq_true rfl⟩ hl.1 (Nat.le_of_ble_eq_true rfl) dX7_cable_102) hw (fun H locs hw => ?_)
            refine z_topi (y := 0) (zb_0 (by decide)) ?_
            have hpl : (if zlt i ni then (if zlt j ni then (if i = j then 2 else if zin k 1 8 then (if zin x 1 500 then (if zin y 0 9999 then (if nI nc = 16 then 3 else 0) else 2) else 2) else 2) else 1) else 1) = 1 := by (try first | rw [if_pos c1] | rw [if_neg c1]); (try first | rw [if_pos c16] | rw [if_neg c16]); (try first | rw [if_pos c17] | rw [if_neg c17]); (try first | rw [if_pos c20] | rw [if_neg c20]); (try first | rw [if_pos c23] | rw [if_neg c23])
            refine lv_if_ne (tgt := 110) hx hb dX7_cable_105 (by decide) (fun c25 => ?_) (fun c25 => ?_)
            · exact absurd c25 (by decide)
            refine lv_iconst (v := 0) hx hb dX7_cable_108 (by decide) ?_
            exact z_iret hx hb hr (by rw [hpl]; rfl) rfl hw.2 (by rw [hpl]; exact hw.1) (Nat.le_of_ble_eq_true rfl) (Nat.le_of_ble_eq_true rfl) dX7_cable_109 hlocks
          · skip
            have c23 := zb_ne0.mp c23
            refine lv_iload hx hb dX7_cable_50 (lv_at hl 6 rfl) ?_
            refine lv_iconst (v := 0) hx hb dX7_cable_52 (by decide) ?_
            refine lv_sipush (v := 9999) hx hb dX7_cable_53 (by decide) ?_
            refine z_ci0 (z_runS (As := [.int y, .int 0, .int 9999]) (rest := []) M hw.2 zc_X7_91 (c_X7_in l base D cA ad ty I L P y 0 9999) hw.1 rfl rfl ⟨Nat.le_of_ble_eq_true rfl, Nat.le_of_ble_eq_true rfl⟩ ⟨Nat.le_of_ble_eq_true rfl, Nat.le_of_ble_eq_true rfl⟩ hl.1 (Nat.le_of_ble_eq_true rfl) dX7_cable_56) hw (fun H locs hw => ?_)
            refine lv_if_eq (tgt := 66) hx hb dX7_cable_59 (by decide) (fun c26 => ?_) (fun c26 => ?_)
            · skip
              have c26 := zb_eq0.mp c26
              refine lv_iconst (v := 0) hx hb dX7_cable_66 (by decide) ?_
              refine lv_istore (lv' := [(7, .int 0), (6, .int 0), (0, .ref (ad 128)), (1, .int i), (2, .int j), (3, .int k), (4, .int x), (5, .int y)]) hx hb dX7_cable_67 hl (by decide) rfl (fun ls hl => ?_)
              refine lv_aload_n hx hb dX7_cable_69 rfl (lv_at hl 2 rfl) ?_
              refine lv_iload hx hb dX7_cable_70 (lv_at hl 1 rfl) ?_
              refine lv_if_ne (tgt := 79) hx hb dX7_cable_72 (by decide) (fun c27 => ?_) (fun c27 => ?_)
              · exact absurd c27 (by decide)
              refine lv_iconst (v := 1) hx hb dX7_cable_75 (by decide) ?_
              refine lv_goto (tgt := 102) hx hb dX7_cable_76 (by decide) ?_
              refine z_ci0 (z_runV (As := [.int 1]) (rest := []) M hw (zr_t hR 128 7 0 (by decide)) zc_X7_108 (c_X7_goesWell l base D cA ad ty I L P hR 1) hw.1 rfl rfl ⟨Nat.le_of_ble_eq_true rfl, Nat.le_of_ble_eq_true rfl⟩ ⟨Nat.le_of_ble_eq_true rfl, Nat.le_of_ble_eq_true rfl⟩ hl.1 (Nat.le_of_ble_eq_true rfl) dX7_cable_102) hw (fun H locs hw => ?_)
              refine z_topi (y := 0) (zb_0 (by decide)) ?_
              have hpl : (if zlt i ni then (if zlt j ni then (if i = j then 2 else if zin k 1 8 then (if zin x 1 500 then (if zin y 0 9999 then (if nI nc = 16 then 3 else 0) else 2) else 2) else 2) else 1) else 1) = 1 := by (try first | rw [if_pos c1] | rw [if_neg c1]); (try first | rw [if_pos c16] | rw [if_neg c16]); (try first | rw [if_pos c17] | rw [if_neg c17]); (try first | rw [if_pos c20] | rw [if_neg c20]); (try first | rw [if_pos c23] | rw [if_neg c23]); (try first | rw [if_pos c26] | rw [if_neg c26])
              refine lv_if_ne (tgt := 110) hx hb dX7_cable_105 (by decide) (fun c28 => ?_) (fun c28 => ?_)
              · exact absurd c28 (by decide)
              refine lv_iconst (v := 0) hx hb dX7_cable_108 (by decide) ?_
              exact z_iret hx hb hr (by rw [hpl]; rfl) rfl hw.2 (by rw [hpl]; exact hw.1) (Nat.le_of_ble_eq_true rfl) (Nat.le_of_ble_eq_true rfl) dX7_cable_109 hlocks
            · skip
              have c26 := zb_ne0.mp c26
              refine lv_iconst (v := 1) hx hb dX7_cable_62 (by decide) ?_
              refine lv_goto (tgt := 67) hx hb dX7_cable_63 (by decide) ?_
              refine lv_istore (lv' := [(7, .int 1), (6, .int 0), (0, .ref (ad 128)), (1, .int i), (2, .int j), (3, .int k), (4, .int x), (5, .int y)]) hx hb dX7_cable_67 hl (by decide) rfl (fun ls hl => ?_)
              refine lv_aload_n hx hb dX7_cable_69 rfl (lv_at hl 2 rfl) ?_
              refine lv_iload hx hb dX7_cable_70 (lv_at hl 1 rfl) ?_
              refine lv_if_ne (tgt := 79) hx hb dX7_cable_72 (by decide) (fun c29 => ?_) (fun c29 => ?_)
              · exact absurd c29 (by decide)
              refine lv_iconst (v := 1) hx hb dX7_cable_75 (by decide) ?_
              refine lv_goto (tgt := 102) hx hb dX7_cable_76 (by decide) ?_
              refine z_ci0 (z_runV (As := [.int 1]) (rest := []) M hw (zr_t hR 128 7 0 (by decide)) zc_X7_108 (c_X7_goesWell l base D cA ad ty I L P hR 1) hw.1 rfl rfl ⟨Nat.le_of_ble_eq_true rfl, Nat.le_of_ble_eq_true rfl⟩ ⟨Nat.le_of_ble_eq_true rfl, Nat.le_of_ble_eq_true rfl⟩ hl.1 (Nat.le_of_ble_eq_true rfl) dX7_cable_102) hw (fun H locs hw => ?_)
              refine z_topi (y := 0) (zb_0 (by decide)) ?_
              have hpl : (if zlt i ni then (if zlt j ni then (if i = j then 2 else if zin k 1 8 then (if zin x 1 500 then (if zin y 0 9999 then (if nI nc = 16 then 3 else 0) else 2) else 2) else 2) else 1) else 1) = 1 := by (try first | rw [if_pos c1] | rw [if_neg c1]); (try first | rw [if_pos c16] | rw [if_neg c16]); (try first | rw [if_pos c17] | rw [if_neg c17]); (try first | rw [if_pos c20] | rw [if_neg c20]); (try first | rw [if_pos c23] | rw [if_neg c23]); (try first | rw [if_pos c26] | rw [if_neg c26])
              refine lv_if_ne (tgt := 110) hx hb dX7_cable_105 (by decide) (fun c30 => ?_) (fun c30 => ?_)
              · exact absurd c30 (by decide)
              refine lv_iconst (v := 0) hx hb dX7_cable_108 (by decide) ?_
              exact z_iret hx hb hr (by rw [hpl]; rfl) rfl hw.2 (by rw [hpl]; exact hw.1) (Nat.le_of_ble_eq_true rfl) (Nat.le_of_ble_eq_true rfl) dX7_cable_109 hlocks
    · skip
      have c16 := zb_ne0.mp c16
      refine lv_iconst (v := 1) hx hb dX7_cable_16 (by decide) ?_
      refine lv_goto (tgt := 21) hx hb dX7_cable_17 (by decide) ?_
      refine lv_istore (lv' := [(6, .int 1), (0, .ref (ad 128)), (1, .int i), (2, .int j), (3, .int k), (4, .int x), (5, .int y)]) hx hb dX7_cable_21 hl (by decide) rfl (fun ls hl => ?_)
      refine lv_iload_n hx hb dX7_cable_23 rfl (lv_at hl 2 rfl) ?_
      refine lv_iload_n hx hb dX7_cable_24 rfl (lv_at hl 3 rfl) ?_
      refine lv_icmp_eq (tgt := 66) hx hb dX7_cable_25 (by decide) (fun c31 => ?_) (fun c31 => ?_)
      · skip
        refine lv_iconst (v := 0) hx hb dX7_cable_66 (by decide) ?_
        refine lv_istore (lv' := [(7, .int 0), (6, .int 1), (0, .ref (ad 128)), (1, .int i), (2, .int j), (3, .int k), (4, .int x), (5, .int y)]) hx hb dX7_cable_67 hl (by decide) rfl (fun ls hl => ?_)
        refine lv_aload_n hx hb dX7_cable_69 rfl (lv_at hl 2 rfl) ?_
        refine lv_iload hx hb dX7_cable_70 (lv_at hl 1 rfl) ?_
        refine lv_if_ne (tgt := 79) hx hb dX7_cable_72 (by decide) (fun c32 => ?_) (fun c32 => ?_)
        rotate_left
        · exact absurd c32 (by decide)
        refine lv_iload hx hb dX7_cable_79 (lv_at hl 0 rfl) ?_
        refine lv_if_ne (tgt := 88) hx hb dX7_cable_81 (by decide) (fun c33 => ?_) (fun c33 => ?_)
        · exact absurd c33 (by decide)
        refine lv_iconst (v := 2) hx hb dX7_cable_84 (by decide) ?_
        refine lv_goto (tgt := 102) hx hb dX7_cable_85 (by decide) ?_
        refine z_ci0 (z_runV (As := [.int 2]) (rest := []) M hw (zr_t hR 128 7 0 (by decide)) zc_X7_108 (c_X7_goesWell l base D cA ad ty I L P hR 2) hw.1 rfl rfl ⟨Nat.le_of_ble_eq_true rfl, Nat.le_of_ble_eq_true rfl⟩ ⟨Nat.le_of_ble_eq_true rfl, Nat.le_of_ble_eq_true rfl⟩ hl.1 (Nat.le_of_ble_eq_true rfl) dX7_cable_102) hw (fun H locs hw => ?_)
        refine z_topi (y := 0) (zb_0 (by decide)) ?_
        have hpl : (if zlt i ni then (if zlt j ni then (if i = j then 2 else if zin k 1 8 then (if zin x 1 500 then (if zin y 0 9999 then (if nI nc = 16 then 3 else 0) else 2) else 2) else 2) else 1) else 1) = 2 := by (try first | rw [if_pos c1] | rw [if_neg c1]); (try first | rw [if_pos c16] | rw [if_neg c16]); (try first | rw [if_pos c31] | rw [if_neg c31])
        refine lv_if_ne (tgt := 110) hx hb dX7_cable_105 (by decide) (fun c34 => ?_) (fun c34 => ?_)
        · exact absurd c34 (by decide)
        refine lv_iconst (v := 0) hx hb dX7_cable_108 (by decide) ?_
        exact z_iret hx hb hr (by rw [hpl]; rfl) rfl hw.2 (by rw [hpl]; exact hw.1) (Nat.le_of_ble_eq_true rfl) (Nat.le_of_ble_eq_true rfl) dX7_cable_109 hlocks
      · skip
        refine lv_iload_n hx hb dX7_cable_28 rfl (lv_at hl 4 rfl) ?_
        refine lv_iconst (v := 1) hx hb dX7_cable_29 (by decide) ?_
        refine lv_bipush (v := 8) hx hb dX7_cable_30 (by decide) ?_
        refine z_ci0 (z_runS (As := [.int k, .int 1, .int 8]) (rest := []) M hw.2 zc_X7_91 (c_X7_in l base D cA ad ty I L P k 1 8) hw.1 rfl rfl ⟨Nat.le_of_ble_eq_true rfl, Nat.le_of_ble_eq_true rfl⟩ ⟨Nat.le_of_ble_eq_true rfl, Nat.le_of_ble_eq_true rfl⟩ hl.1 (Nat.le_of_ble_eq_true rfl) dX7_cable_32) hw (fun H locs hw => ?_)
        refine lv_if_eq (tgt := 66) hx hb dX7_cable_35 (by decide) (fun c35 => ?_) (fun c35 => ?_)
        · skip
          have c35 := zb_eq0.mp c35
          refine lv_iconst (v := 0) hx hb dX7_cable_66 (by decide) ?_
          refine lv_istore (lv' := [(7, .int 0), (6, .int 1), (0, .ref (ad 128)), (1, .int i), (2, .int j), (3, .int k), (4, .int x), (5, .int y)]) hx hb dX7_cable_67 hl (by decide) rfl (fun ls hl => ?_)
          refine lv_aload_n hx hb dX7_cable_69 rfl (lv_at hl 2 rfl) ?_
          refine lv_iload hx hb dX7_cable_70 (lv_at hl 1 rfl) ?_
          refine lv_if_ne (tgt := 79) hx hb dX7_cable_72 (by decide) (fun c36 => ?_) (fun c36 => ?_)
          rotate_left
          · exact absurd c36 (by decide)
          refine lv_iload hx hb dX7_cable_79 (lv_at hl 0 rfl) ?_
          refine lv_if_ne (tgt := 88) hx hb dX7_cable_81 (by decide) (fun c37 => ?_) (fun c37 => ?_)
          · exact absurd c37 (by decide)
          refine lv_iconst (v := 2) hx hb dX7_cable_84 (by decide) ?_
          refine lv_goto (tgt := 102) hx hb dX7_cable_85 (by decide) ?_
          refine z_ci0 (z_runV (As := [.int 2]) (rest := []) M hw (zr_t hR 128 7 0 (by decide)) zc_X7_108 (c_X7_goesWell l base D cA ad ty I L P hR 2) hw.1 rfl rfl ⟨Nat.le_of_ble_eq_true rfl, Nat.le_of_ble_eq_true rfl⟩ ⟨Nat.le_of_ble_eq_true rfl, Nat.le_of_ble_eq_true rfl⟩ hl.1 (Nat.le_of_ble_eq_true rfl) dX7_cable_102) hw (fun H locs hw => ?_)
          refine z_topi (y := 0) (zb_0 (by decide)) ?_
          have hpl : (if zlt i ni then (if zlt j ni then (if i = j then 2 else if zin k 1 8 then (if zin x 1 500 then (if zin y 0 9999 then (if nI nc = 16 then 3 else 0) else 2) else 2) else 2) else 1) else 1) = 2 := by (try first | rw [if_pos c1] | rw [if_neg c1]); (try first | rw [if_pos c16] | rw [if_neg c16]); (try first | rw [if_pos c31] | rw [if_neg c31]); (try first | rw [if_pos c35] | rw [if_neg c35])
          refine lv_if_ne (tgt := 110) hx hb dX7_cable_105 (by decide) (fun c38 => ?_) (fun c38 => ?_)
          · exact absurd c38 (by decide)
          refine lv_iconst (v := 0) hx hb dX7_cable_108 (by decide) ?_
          exact z_iret hx hb hr (by rw [hpl]; rfl) rfl hw.2 (by rw [hpl]; exact hw.1) (Nat.le_of_ble_eq_true rfl) (Nat.le_of_ble_eq_true rfl) dX7_cable_109 hlocks
        · skip
          have c35 := zb_ne0.mp c35
          refine lv_iload hx hb dX7_cable_38 (lv_at hl 5 rfl) ?_
          refine lv_iconst (v := 1) hx hb dX7_cable_40 (by decide) ?_
          refine lv_sipush (v := 500) hx hb dX7_cable_41 (by decide) ?_
          refine z_ci0 (z_runS (As := [.int x, .int 1, .int 500]) (rest := []) M hw.2 zc_X7_91 (c_X7_in l base D cA ad ty I L P x 1 500) hw.1 rfl rfl ⟨Nat.le_of_ble_eq_true rfl, Nat.le_of_ble_eq_true rfl⟩ ⟨Nat.le_of_ble_eq_true rfl, Nat.le_of_ble_eq_true rfl⟩ hl.1 (Nat.le_of_ble_eq_true rfl) dX7_cable_44) hw (fun H locs hw => ?_)
          refine lv_if_eq (tgt := 66) hx hb dX7_cable_47 (by decide) (fun c39 => ?_) (fun c39 => ?_)
          · skip
            have c39 := zb_eq0.mp c39
            refine lv_iconst (v := 0) hx hb dX7_cable_66 (by decide) ?_
            refine lv_istore (lv' := [(7, .int 0), (6, .int 1), (0, .ref (ad 128)), (1, .int i), (2, .int j), (3, .int k), (4, .int x), (5, .int y)]) hx hb dX7_cable_67 hl (by decide) rfl (fun ls hl => ?_)
            refine lv_aload_n hx hb dX7_cable_69 rfl (lv_at hl 2 rfl) ?_
            refine lv_iload hx hb dX7_cable_70 (lv_at hl 1 rfl) ?_
            refine lv_if_ne (tgt := 79) hx hb dX7_cable_72 (by decide) (fun c40 => ?_) (fun c40 => ?_)
            rotate_left
            · exact absurd c40 (by decide)
            refine lv_iload hx hb dX7_cable_79 (lv_at hl 0 rfl) ?_
            refine lv_if_ne (tgt := 88) hx hb dX7_cable_81 (by decide) (fun c41 => ?_) (fun c41 => ?_)
            · exact absurd c41 (by decide)
            refine lv_iconst (v := 2) hx hb dX7_cable_84 (by decide) ?_
            refine lv_goto (tgt := 102) hx hb dX7_cable_85 (by decide) ?_
            refine z_ci0 (z_runV (As := [.int 2]) (rest := []) M hw (zr_t hR 128 7 0 (by decide)) zc_X7_108 (c_X7_goesWell l base D cA ad ty I L P hR 2) hw.1 rfl rfl ⟨Nat.le_of_ble_eq_true rfl, Nat.le_of_ble_eq_true rfl⟩ ⟨Nat.le_of_ble_eq_true rfl, Nat.le_of_ble_eq_true rfl⟩ hl.1 (Nat.le_of_ble_eq_true rfl) dX7_cable_102) hw (fun H locs hw => ?_)
            refine z_topi (y := 0) (zb_0 (by decide)) ?_
            have hpl : (if zlt i ni then (if zlt j ni then (if i = j then 2 else if zin k 1 8 then (if zin x 1 500 then (if zin y 0 9999 then (if nI nc = 16 then 3 else 0) else 2) else 2) else 2) else 1) else 1) = 2 := by (try first | rw [if_pos c1] | rw [if_neg c1]); (try first | rw [if_pos c16] | rw [if_neg c16]); (try first | rw [if_pos c31] | rw [if_neg c31]); (try first | rw [if_pos c35] | rw [if_neg c35]); (try first | rw [if_pos c39] | rw [if_neg c39])
            refine lv_if_ne (tgt := 110) hx hb dX7_cable_105 (by decide) (fun c42 => ?_) (fun c42 => ?_)
            · exact absurd c42 (by decide)
            refine lv_iconst (v := 0) hx hb dX7_cable_108 (by decide) ?_
            exact z_iret hx hb hr (by rw [hpl]; rfl) rfl hw.2 (by rw [hpl]; exact hw.1) (Nat.le_of_ble_eq_true rfl) (Nat.le_of_ble_eq_true rfl) dX7_cable_109 hlocks
          · skip
            have c39 := zb_ne0.mp c39
            refine lv_iload hx hb dX7_cable_50 (lv_at hl 6 rfl) ?_
            refine lv_iconst (v := 0) hx hb dX7_cable_52 (by decide) ?_
            refine lv_sipush (v := 9999) hx hb dX7_cable_53 (by decide) ?_
            refine z_ci0 (z_runS (As := [.int y, .int 0, .int 9999]) (rest := []) M hw.2 zc_X7_91 (c_X7_in l base D cA ad ty I L P y 0 9999) hw.1 rfl rfl ⟨Nat.le_of_ble_eq_true rfl, Nat.le_of_ble_eq_true rfl⟩ ⟨Nat.le_of_ble_eq_true rfl, Nat.le_of_ble_eq_true rfl⟩ hl.1 (Nat.le_of_ble_eq_true rfl) dX7_cable_56) hw (fun H locs hw => ?_)
            refine lv_if_eq (tgt := 66) hx hb dX7_cable_59 (by decide) (fun c43 => ?_) (fun c43 => ?_)
            · skip
              have c43 := zb_eq0.mp c43
              refine lv_iconst (v := 0) hx hb dX7_cable_66 (by decide) ?_
              refine lv_istore (lv' := [(7, .int 0), (6, .int 1), (0, .ref (ad 128)), (1, .int i), (2, .int j), (3, .int k), (4, .int x), (5, .int y)]) hx hb dX7_cable_67 hl (by decide) rfl (fun ls hl => ?_)
              refine lv_aload_n hx hb dX7_cable_69 rfl (lv_at hl 2 rfl) ?_
              refine lv_iload hx hb dX7_cable_70 (lv_at hl 1 rfl) ?_
              refine lv_if_ne (tgt := 79) hx hb dX7_cable_72 (by decide) (fun c44 => ?_) (fun c44 => ?_)
              rotate_left
              · exact absurd c44 (by decide)
              refine lv_iload hx hb dX7_cable_79 (lv_at hl 0 rfl) ?_
              refine lv_if_ne (tgt := 88) hx hb dX7_cable_81 (by decide) (fun c45 => ?_) (fun c45 => ?_)
              · exact absurd c45 (by decide)
              refine lv_iconst (v := 2) hx hb dX7_cable_84 (by decide) ?_
              refine lv_goto (tgt := 102) hx hb dX7_cable_85 (by decide) ?_
              refine z_ci0 (z_runV (As := [.int 2]) (rest := []) M hw (zr_t hR 128 7 0 (by decide)) zc_X7_108 (c_X7_goesWell l base D cA ad ty I L P hR 2) hw.1 rfl rfl ⟨Nat.le_of_ble_eq_true rfl, Nat.le_of_ble_eq_true rfl⟩ ⟨Nat.le_of_ble_eq_true rfl, Nat.le_of_ble_eq_true rfl⟩ hl.1 (Nat.le_of_ble_eq_true rfl) dX7_cable_102) hw (fun H locs hw => ?_)
              refine z_topi (y := 0) (zb_0 (by decide)) ?_
              have hpl : (if zlt i ni then (if zlt j ni then (if i = j then 2 else if zin k 1 8 then (if zin x 1 500 then (if zin y 0 9999 then (if nI nc = 16 then 3 else 0) else 2) else 2) else 2) else 1) else 1) = 2 := by (try first | rw [if_pos c1] | rw [if_neg c1]); (try first | rw [if_pos c16] | rw [if_neg c16]); (try first | rw [if_pos c31] | rw [if_neg c31]); (try first | rw [if_pos c35] | rw [if_neg c35]); (try first | rw [if_pos c39] | rw [if_neg c39]); (try first | rw [if_pos c43] | rw [if_neg c43])
              refine lv_if_ne (tgt := 110) hx hb dX7_cable_105 (by decide) (fun c46 => ?_) (fun c46 => ?_)
              · exact absurd c46 (by decide)
              refine lv_iconst (v := 0) hx hb dX7_cable_108 (by decide) ?_
              exact z_iret hx hb hr (by rw [hpl]; rfl) rfl hw.2 (by rw [hpl]; exact hw.1) (Nat.le_of_ble_eq_true rfl) (Nat.le_of_ble_eq_true rfl) dX7_cable_109 hlocks
            · skip
              have c43 := zb_ne0.mp c43
              refine lv_iconst (v := 1) hx hb dX7_cable_62 (by decide) ?_
              refine lv_goto (tgt := 67) hx hb dX7_cable_63 (by decide) ?_
              refine lv_istore (lv' := [(7, .int 1), (6, .int 1), (0, .ref (ad 128)), (1, .int i), (2, .int j), (3, .int k), (4, .int x), (5, .int y)]) hx hb dX7_cable_67 hl (by decide) rfl (fun ls hl => ?_)
              refine lv_aload_n hx hb dX7_cable_69 rfl (lv_at hl 2 rfl) ?_
              refine lv_iload hx hb dX7_cable_70 (lv_at hl 1 rfl) ?_
              refine lv_if_ne (tgt := 79) hx hb dX7_cable_72 (by decide) (fun c47 => ?_) (fun c47 => ?_)
              rotate_left
              · exact absurd c47 (by decide)
              refine lv_iload hx hb dX7_cable_79 (lv_at hl 0 rfl) ?_
              refine lv_if_ne (tgt := 88) hx hb dX7_cable_81 (by decide) (fun c48 => ?_) (fun c48 => ?_)
              rotate_left
              · exact absurd c48 (by decide)
              refine lv_aload_n hx hb dX7_cable_88 rfl (lv_at hl 2 rfl) ?_
              refine z_geti M hw (zr_t hR 128 7 0 (by decide)) zf_X7_95 dX7_cable_89 ?_
              refine z_topi (y := nI nc) hV.1.2.1 ?_
              refine lv_bipush (v := 16) hx hb dX7_cable_92 (by decide) ?_
              refine lv_icmp_ne (tgt := 101) hx hb dX7_cable_94 (by decide) (fun c49 => ?_) (fun c49 => ?_)
              · skip
                have hlt : nc < 16 := z_nelt (show ¬ nI nc = nI 16 from c49) (by omega)
                refine lv_iconst (v := 0) hx hb dX7_cable_101 (by decide) ?_
                refine z_ci0 (z_runV (As := [.int 0]) (rest := []) M hw (zr_t hR 128 7 0 (by decide)) zc_X7_108 (c_X7_goesWell l base D cA ad ty I L P hR 0) hw.1 rfl rfl ⟨Nat.le_of_ble_eq_true rfl, Nat.le_of_ble_eq_true rfl⟩ ⟨Nat.le_of_ble_eq_true rfl, Nat.le_of_ble_eq_true rfl⟩ hl.1 (Nat.le_of_ble_eq_true rfl) dX7_cable_102) hw (fun H locs hw => ?_)
                refine z_topi (y := 1) (zb_1 (by decide)) ?_
                have hpl : (if zlt i ni then (if zlt j ni then (if i = j then 2 else if zin k 1 8 then (if zin x 1 500 then (if zin y 0 9999 then (if nI nc = 16 then 3 else 0) else 2) else 2) else 2) else 1) else 1) = 0 := by (try first | rw [if_pos c1] | rw [if_neg c1]); (try first | rw [if_pos c16] | rw [if_neg c16]); (try first | rw [if_pos c31] | rw [if_neg c31]); (try first | rw [if_pos c35] | rw [if_neg c35]); (try first | rw [if_pos c39] | rw [if_neg c39]); (try first | rw [if_pos c43] | rw [if_neg c43]); (try first | rw [if_pos c49] | rw [if_neg c49])
                have hVZ : zRv ni nc ns nt (zu I 128 0 0) := zRv_zu (by unfold zRl; omega) hV
                refine lv_if_ne (tgt := 110) hx hb dX7_cable_105 (by decide) (fun c50 => ?_) (fun c50 => ?_)
                rotate_left
                · exact absurd c50 (by decide)
                refine lv_aload_n hx hb dX7_cable_110 rfl (lv_at hl 2 rfl) ?_
                refine z_getr M hw (zr_t hR 128 7 0 (by decide)) zf_X7_16 (zr_p hR 6 (by decide)) dX7_cable_111 ?_
                refine lv_aload_n hx hb dX7_cable_114 rfl (lv_at hl 2 rfl) ?_
                refine z_geti M hw (zr_t hR 128 7 0 (by decide)) zf_X7_95 dX7_cable_115 ?_
                refine z_topi (y := I 128 5) (by rw [zu_ne _ _ (by omega)]) ?_
                refine z_topi (y := nI nc) hV.1.2.1 ?_
                refine lv_iload_n hx hb dX7_cable_118 rfl (lv_at hl 3 rfl) ?_
                refine z_iNast M hw (zr_t hR 134 8 16 (by decide)) rfl ⟨by omega, by omega⟩ dX7_cable_119 (fun H locs hw => ?_)
                refine lv_aload_n hx hb dX7_cable_120 rfl (lv_at hl 2 rfl) ?_
                refine z_getr M hw (zr_t hR 128 7 0 (by decide)) zf_X7_19 (zr_p hR 7 (by decide)) dX7_cable_121 ?_
                refine lv_aload_n hx hb dX7_cable_124 rfl (lv_at hl 2 rfl) ?_
                refine z_geti M hw (zr_t hR 128 7 0 (by decide)) zf_X7_95 dX7_cable_125 ?_
                refine z_topi (y := I 128 5) (by rw [zu_ne _ _ (by omega), zu_ne _ _ (by omega)]) ?_
                refine z_topi (y := nI nc) hV.1.2.1 ?_
                refine lv_iload_n hx hb dX7_cable_128 rfl (lv_at hl 4 rfl) ?_
                refine z_iNast M hw (zr_t hR 135 8 16 (by decide)) rfl ⟨by omega, by omega⟩ dX7_cable_129 (fun H locs hw => ?_)
                refine lv_aload_n hx hb dX7_cable_130 rfl (lv_at hl 2 rfl) ?_
                refine z_getr M hw (zr_t hR 128 7 0 (by decide)) zf_X7_22 (zr_p hR 8 (by decide)) dX7_cable_131 ?_
                refine lv_aload_n hx hb dX7_cable_134 rfl (lv_at hl 2 rfl) ?_
                refine z_geti M hw (zr_t hR 128 7 0 (by decide)) zf_X7_95 dX7_cable_135 ?_
                refine z_topi (y := I 128 5) (by rw [zu_ne _ _ (by omega), zu_ne _ _ (by omega), zu_ne _ _ (by omega)]) ?_
                refine z_topi (y := nI nc) hV.1.2.1 ?_
                refine lv_iload_n hx hb dX7_cable_138 rfl (lv_at hl 5 rfl) ?_
                refine z_iNast M hw (zr_t hR 136 8 16 (by decide)) rfl ⟨by omega, by omega⟩ dX7_cable_139 (fun H locs hw => ?_)
                refine lv_aload_n hx hb dX7_cable_140 rfl (lv_at hl 2 rfl) ?_
                refine z_getr M hw (zr_t hR 128 7 0 (by decide)) zf_X7_25 (zr_p hR 9 (by decide)) dX7_cable_141 ?_
                refine lv_aload_n hx hb dX7_cable_144 rfl (lv_at hl 2 rfl) ?_
                refine z_geti M hw (zr_t hR 128 7 0 (by decide)) zf_X7_95 dX7_cable_145 ?_
                refine z_topi (y := I 128 5) (by rw [zu_ne _ _ (by omega), zu_ne _ _ (by omega), zu_ne _ _ (by omega), zu_ne _ _ (by omega)]) ?_
                refine z_topi (y := nI nc) hV.1.2.1 ?_
                refine lv_iload hx hb dX7_cable_148 (lv_at hl 6 rfl) ?_
                refine z_iNast M hw (zr_t hR 137 8 16 (by decide)) rfl ⟨by omega, by omega⟩ dX7_cable_150 (fun H locs hw => ?_)
                refine lv_aload_n hx hb dX7_cable_151 rfl (lv_at hl 2 rfl) ?_
                refine z_getr M hw (zr_t hR 128 7 0 (by decide)) zf_X7_28 (zr_p hR 10 (by decide)) dX7_cable_152 ?_
                refine lv_aload_n hx hb dX7_cable_155 rfl (lv_at hl 2 rfl) ?_
                refine z_geti M hw (zr_t hR 128 7 0 (by decide)) zf_X7_95 dX7_cable_156 ?_
                refine z_topi (y := I 128 5) (by rw [zu_ne _ _ (by omega), zu_ne _ _ (by omega), zu_ne _ _ (by omega), zu_ne _ _ (by omega), zu_ne _ _ (by omega)]) ?_
                refine z_topi (y := nI nc) hV.1.2.1 ?_
                refine lv_iload hx hb dX7_cable_159 (lv_at hl 7 rfl) ?_
                refine z_iNast M hw (zr_t hR 138 8 16 (by decide)) rfl ⟨by omega, by omega⟩ dX7_cable_161 (fun H locs hw => ?_)
                refine lv_aload_n hx hb dX7_cable_162 rfl (lv_at hl 2 rfl) ?_
                refine lv_dup hx hb dX7_cable_163 rfl ?_
                refine z_geti M hw (zr_t hR 128 7 0 (by decide)) zf_X7_95 dX7_cable_164 ?_
                refine z_topi (y := I 128 5) (by rw [zu_ne _ _ (by omega), zu_ne _ _ (by omega), zu_ne _ _ (by omega), zu_ne _ _ (by omega), zu_ne _ _ (by omega), zu_ne _ _ (by omega)]) ?_
                refine z_topi (y := nI nc) hV.1.2.1 ?_
                refine lv_iconst (v := 1) hx hb dX7_cable_167 (by decide) ?_
                refine lv_iadd hx hb dX7_cable_168 ?_
                refine z_puti M hw (zr_t hR 128 7 0 (by decide)) zf_X7_95 (Or.inl rfl) rfl rfl dX7_cable_169 (fun H locs hw => ?_)
                refine lv_aload_n hx hb dX7_cable_172 rfl (lv_at hl 2 rfl) ?_
                refine z_geti M hw (zr_t hR 128 7 0 (by decide)) zf_X7_95 dX7_cable_173 ?_
                refine z_topi (y := (nI nc) + 1) (by rw [zu_self]) ?_
                refine lv_iconst (v := 1) hx hb dX7_cable_176 (by decide) ?_
                refine lv_isub hx hb dX7_cable_177 ?_
                exact z_iret hx hb hr (by rw [hpl, ← nI_succ, nI_pred]; rfl) rfl hw.2 (by rw [hpl]; rw [← nI_succ] at hw; exact hw.1) (Nat.le_of_ble_eq_true rfl) (Nat.le_of_ble_eq_true rfl) dX7_cable_178 hlocks
              · skip
                refine lv_iconst (v := 3) hx hb dX7_cable_97 (by decide) ?_
                refine lv_goto (tgt := 102) hx hb dX7_cable_98 (by decide) ?_
                refine z_ci0 (z_runV (As := [.int 3]) (rest := []) M hw (zr_t hR 128 7 0 (by decide)) zc_X7_108 (c_X7_goesWell l base D cA ad ty I L P hR 3) hw.1 rfl rfl ⟨Nat.le_of_ble_eq_true rfl, Nat.le_of_ble_eq_true rfl⟩ ⟨Nat.le_of_ble_eq_true rfl, Nat.le_of_ble_eq_true rfl⟩ hl.1 (Nat.le_of_ble_eq_true rfl) dX7_cable_102) hw (fun H locs hw => ?_)
                refine z_topi (y := 0) (zb_0 (by decide)) ?_
                have hpl : (if zlt i ni then (if zlt j ni then (if i = j then 2 else if zin k 1 8 then (if zin x 1 500 then (if zin y 0 9999 then (if nI nc = 16 then 3 else 0) else 2) else 2) else 2) else 1) else 1) = 3 := by (try first | rw [if_pos c1] | rw [if_neg c1]); (try first | rw [if_pos c16] | rw [if_neg c16]); (try first | rw [if_pos c31] | rw [if_neg c31]); (try first | rw [if_pos c35] | rw [if_neg c35]); (try first | rw [if_pos c39] | rw [if_neg c39]); (try first | rw [if_pos c43] | rw [if_neg c43]); (try first | rw [if_pos c49] | rw [if_neg c49])
                refine lv_if_ne (tgt := 110) hx hb dX7_cable_105 (by decide) (fun c51 => ?_) (fun c51 => ?_)
                · exact absurd c51 (by decide)
                refine lv_iconst (v := 0) hx hb dX7_cable_108 (by decide) ?_
                exact z_iret hx hb hr (by rw [hpl]; rfl) rfl hw.2 (by rw [hpl]; exact hw.1) (Nat.le_of_ble_eq_true rfl) (Nat.le_of_ble_eq_true rfl) dX7_cable_109 hlocks
set_option maxHeartbeats 4000000 in
set_option maxRecDepth 100000 in
theorem c_X7_price (l : Launch) (base : Nat) (D : va_G) (cA : Nat → ClassId) (ad : Nat → Nat) (ty : zTyp) (I : zIt) (L : zLt) (P : zPt) (hR : zref ty P) (ni nc ns nt : Nat) (hbd : zRbd ni nc ns nt) (hV : zRv ni nc ns nt I) (i x : Int32) : zMi l base D cA yX7_price cX7_price 5 .int 2 43 0 0 [.ref (ad 128), .int i, .int x] (zW base D cA ad ty I L P) (if (if zlt i nc then (if zin x 0 9999 then 0 else 2) else 1) = 0 then I 138 i.toNatClampNeg else 0) (zW base D cA ad ty (if (if zlt i nc then (if zin x 0 9999 then 0 else 2) else 1) = 0 then (zu (zu I 128 0 0) 138 i.toNatClampNeg x) else zu I 128 0 (nI (if zlt i nc then (if zin x 0 9999 then 0 else 2) else 1))) L P) := by
  refine z_start (by decide +kernel) (Nat.le_of_ble_eq_true rfl) fun p e s m below meth c ls M hP hS hl hr hlocks hnm => ?_
  have M : zM p s m c cX7_price RX7 5 base D cA := M
  have hw : zH base D cA s s.heap [] ad ty I L P := ⟨hP, hS⟩
  obtain ⟨hx, hb, -⟩ := id M
  have hl : lv_has ls 5 [(0, .ref (ad 128)), (1, .int i), (2, .int x)] := hl
  obtain ⟨hb1, hb2, hb3, hb4⟩ := id hbd
  refine lv_aload_n hx hb dX7_price_0 rfl (lv_at hl 0 rfl) ?_
  refine lv_iload_n hx hb dX7_price_1 rfl (lv_at hl 1 rfl) ?_
  refine z_ci0 (z_runV (As := [.int i]) (rest := []) M hw (zr_t hR 128 7 0 (by decide)) zc_X7_98 (c_X7_isCable l base D cA ad ty I L P hR nc hV.1.2.1 (by omega) i) hw.1 rfl rfl ⟨Nat.le_of_ble_eq_true rfl, Nat.le_of_ble_eq_true rfl⟩ ⟨Nat.le_of_ble_eq_true rfl, Nat.le_of_ble_eq_true rfl⟩ hl.1 (Nat.le_of_ble_eq_true rfl) dX7_price_2) hw (fun H locs hw => ?_)
  refine lv_istore_n (lv' := [(3, .int (zb (zlt i nc))), (0, .ref (ad 128)), (1, .int i), (2, .int x)]) hx hb dX7_price_5 rfl hl (by decide) rfl (fun ls hl => ?_)
  refine lv_aload_n hx hb dX7_price_6 rfl (lv_at hl 1 rfl) ?_
  refine lv_iload_n hx hb dX7_price_7 rfl (lv_at hl 0 rfl) ?_
  refine lv_if_ne (tgt := 15) hx hb dX7_price_8 (by decide) (fun c1 => ?_) (fun c1 => ?_)
  · skip
    have c1 := zb_ne0.mp c1
    refine lv_iload_n hx hb dX7_price_15 rfl (lv_at hl 3 rfl) ?_
    refine lv_iconst (v := 0) hx hb dX7_price_16 (by decide) ?_
    refine lv_sipush (v := 9999) hx hb dX7_price_17 (by decide) ?_
    refine z_ci0 (z_runS (As := [.int x, .int 0, .int 9999]) (rest := [.ref (ad 128)]) M hw.2 zc_X7_91 (c_X7_in l base D cA ad ty I L P x 0 9999) hw.1 rfl rfl ⟨Nat.le_of_ble_eq_true rfl, Nat.le_of_ble_eq_true rfl⟩ ⟨Nat.le_of_ble_eq_true rfl, Nat.le_of_ble_eq_true rfl⟩ hl.1 (Nat.le_of_ble_eq_true rfl) dX7_price_20) hw (fun H locs hw => ?_)
    refine lv_if_eq (tgt := 30) hx hb dX7_price_23 (by decide) (fun c2 => ?_) (fun c2 => ?_)
    · skip
      have c2 := zb_eq0.mp c2
      refine lv_iconst (v := 2) hx hb dX7_price_30 (by decide) ?_
      refine z_ci0 (z_runV (As := [.int 2]) (rest := []) M hw (zr_t hR 128 7 0 (by decide)) zc_X7_108 (c_X7_goesWell l base D cA ad ty I L P hR 2) hw.1 rfl rfl ⟨Nat.le_of_ble_eq_true rfl, Nat.le_of_ble_eq_true rfl⟩ ⟨Nat.le_of_ble_eq_true rfl, Nat.le_of_ble_eq_true rfl⟩ hl.1 (Nat.le_of_ble_eq_true rfl) dX7_price_31) hw (fun H locs hw => ?_)
      refine z_topi (y := 0) (zb_0 (by decide)) ?_
      have hpl : (if zlt i nc then (if zin x 0 9999 then 0 else 2) else 1) = 2 := by (try first | rw [if_pos c1] | rw [if_neg c1]); (try first | rw [if_pos c2] | rw [if_neg c2])
      refine lv_if_ne (tgt := 39) hx hb dX7_price_34 (by decide) (fun c3 => ?_) (fun c3 => ?_)
      · exact absurd c3 (by decide)
      refine lv_iconst (v := 0) hx hb dX7_price_37 (by decide) ?_
      exact z_iret hx hb hr (by rw [hpl]; rfl) rfl hw.2 (by rw [hpl]; exact hw.1) (Nat.le_of_ble_eq_true rfl) (Nat.le_of_ble_eq_true rfl) dX7_price_38 hlocks
    · skip
      have c2 := zb_ne0.mp c2
      refine lv_iconst (v := 0) hx hb dX7_price_26 (by decide) ?_
      refine lv_goto (tgt := 31) hx hb dX7_price_27 (by decide) ?_
      refine z_ci0 (z_runV (As := [.int 0]) (rest := []) M hw (zr_t hR 128 7 0 (by decide)) zc_X7_108 (c_X7_goesWell l base D cA ad ty I L P hR 0) hw.1 rfl rfl ⟨Nat.le_of_ble_eq_true rfl, Nat.le_of_ble_eq_true rfl⟩ ⟨Nat.le_of_ble_eq_true rfl, Nat.le_of_ble_eq_true rfl⟩ hl.1 (Nat.le_of_ble_eq_true rfl) dX7_price_31) hw (fun H locs hw => ?_)
      refine z_topi (y := 1) (zb_1 (by decide)) ?_
      have hpl : (if zlt i nc then (if zin x 0 9999 then 0 else 2) else 1) = 0 := by (try first | rw [if_pos c1] | rw [if_neg c1]); (try first | rw [if_pos c2] | rw [if_neg c2])
      have hVZ : zRv ni nc ns nt (zu I 128 0 0) := zRv_zu (by unfold zRl; omega) hV
      have qi := (zlt_nat c1).2
      rw [(zlt_nat c1).1] at hl
      refine lv_if_ne (tgt := 39) hx hb dX7_price_34 (by decide) (fun c4 => ?_) (fun c4 => ?_)
      rotate_left
      · exact absurd c4 (by decide)
      refine lv_aload_n hx hb dX7_price_39 rfl (lv_at hl 1 rfl) ?_
      refine z_getr M hw (zr_t hR 128 7 0 (by decide)) zf_X7_28 (zr_p hR 10 (by decide)) dX7_price_40 ?_
      refine lv_iload_n hx hb dX7_price_43 rfl (lv_at hl 2 rfl) ?_
      refine z_iNald M hw (zr_t hR 138 8 16 (by decide)) rfl ⟨by omega, by omega⟩ dX7_price_44 ?_
      refine z_topi (y := I 138 i.toNatClampNeg) (by rw [zu_ne _ _ (by omega)]) ?_
      refine lv_topi (fun x5 ex5 => ?_)
      refine lv_istore (lv' := [(4, .int x5), (3, .int (zb (zlt (nI i.toNatClampNeg) nc))), (0, .ref (ad 128)), (1, .int (nI i.toNatClampNeg)), (2, .int x)]) hx hb dX7_price_45 hl (by decide) rfl (fun ls hl => ?_)
      refine lv_aload_n hx hb dX7_price_47 rfl (lv_at hl 2 rfl) ?_
      refine z_getr M hw (zr_t hR 128 7 0 (by decide)) zf_X7_28 (zr_p hR 10 (by decide)) dX7_price_48 ?_
      refine lv_iload_n hx hb dX7_price_51 rfl (lv_at hl 3 rfl) ?_
      refine lv_iload_n hx hb dX7_price_52 rfl (lv_at hl 4 rfl) ?_
      refine z_iNast M hw (zr_t hR 138 8 16 (by decide)) rfl ⟨by omega, by omega⟩ dX7_price_53 (fun H locs hw => ?_)
      refine lv_iload hx hb dX7_price_54 (lv_at hl 0 rfl) ?_
      exact z_iret hx hb hr (by rw [hpl]; rw [ex5]; rfl) rfl hw.2 (by rw [hpl]; exact hw.1) (Nat.le_of_ble_eq_true rfl) (Nat.le_of_ble_eq_true rfl) dX7_price_56 hlocks
  · skip
    have c1 := zb_eq0.mp c1
    refine lv_iconst (v := 1) hx hb dX7_price_11 (by decide) ?_
    refine lv_goto (tgt := 31) hx hb dX7_price_12 (by decide) ?_
    refine z_ci0 (z_runV (As := [.int 1]) (rest := []) M hw (zr_t hR 128 7 0 (by decide)) zc_X7_108 (c_X7_goesWell l base D cA ad ty I L P hR 1) hw.1 rfl rfl ⟨Nat.le_of_ble_eq_true rfl, Nat.le_of_ble_eq_true rfl⟩ ⟨Nat.le_of_ble_eq_true rfl, Nat.le_of_ble_eq_true rfl⟩ hl.1 (Nat.le_of_ble_eq_true rfl) dX7_price_31) hw (fun H locs hw => ?_)
    refine z_topi (y := 0) (zb_0 (by decide)) ?_
    have hpl : (if zlt i nc then (if zin x 0 9999 then 0 else 2) else 1) = 1 := by (try first | rw [if_pos c1] | rw [if_neg c1])
    refine lv_if_ne (tgt := 39) hx hb dX7_price_34 (by decide) (fun c6 => ?_) (fun c6 => ?_)
    · exact absurd c6 (by decide)
    refine lv_iconst (v := 0) hx hb dX7_price_37 (by decide) ?_
    exact z_iret hx hb hr (by rw [hpl]; rfl) rfl hw.2 (by rw [hpl]; exact hw.1) (Nat.le_of_ble_eq_true rfl) (Nat.le_of_ble_eq_true rfl) dX7_price_38 hlocks
set_option maxHeartbeats 4000000 in
set_option maxRecDepth 100000 in
theorem c_X7_fault (l : Launch) (base : Nat) (D : va_G) (cA : Nat → ClassId) (ad : Nat → Nat) (ty : zTyp) (I : zIt) (L : zLt) (P : zPt) (hR : zref ty P) (ni nc ns nt : Nat) (hbd : zRbd ni nc ns nt) (hV : zRv ni nc ns nt I) (i k : Int32) (hroom : (if zlt i nc ∧ zlt k (zRsp I i) then (if zoi (zPl I (8 * i + k)) = -1 then 0 else 2) else 1) = 0 → zRn I < 128) : zMi l base D cA yX7_fault cX7_fault 4 .int 3 65 0 0 [.ref (ad 128), .int i, .int k] (zW base D cA ad ty I L P) (if (if zlt i nc ∧ zlt k (zRsp I i) then (if zoi (zPl I (8 * i + k)) = -1 then 0 else 2) else 1) = 0 then nI (zRn I + 1) else 0) (zW base D cA ad ty (if (if zlt i nc ∧ zlt k (zRsp I i) then (if zoi (zPl I (8 * i + k)) = -1 then 0 else 2) else 1) = 0 then (zu (zu (zu I 128 0 0) 140 (zRn I) (8 * i + k)) 128 11 (nI (zRn I + 1))) else zu I 128 0 (nI (if zlt i nc ∧ zlt k (zRsp I i) then (if zoi (zPl I (8 * i + k)) = -1 then 0 else 2) else 1))) L P) := by
  refine z_start (by decide +kernel) (Nat.le_of_ble_eq_true rfl) fun p e s m below meth c ls M hP hS hl hr hlocks hnm => ?_
  have M : zM p s m c cX7_fault RX7 4 base D cA := M
  have hw : zH base D cA s s.heap [] ad ty I L P := ⟨hP, hS⟩
  obtain ⟨hx, hb, -⟩ := id M
  have hl : lv_has ls 4 [(0, .ref (ad 128)), (1, .int i), (2, .int k)] := hl
  obtain ⟨hb1, hb2, hb3, hb4⟩ := id hbd
  refine lv_aload_n hx hb dX7_fault_0 rfl (lv_at hl 0 rfl) ?_
  refine lv_iload_n hx hb dX7_fault_1 rfl (lv_at hl 1 rfl) ?_
  refine lv_iload_n hx hb dX7_fault_2 rfl (lv_at hl 2 rfl) ?_
  refine z_ci0 (z_runV (As := [.int i, .int k]) (rest := []) M hw (zr_t hR 128 7 0 (by decide)) zc_X7_117 (c_X7_isSpan l base D cA ad ty I L P hR nc hV.1.2.1 (by omega) (zRspan hV) i k) hw.1 rfl rfl ⟨Nat.le_of_ble_eq_true rfl, Nat.le_of_ble_eq_true rfl⟩ ⟨Nat.le_of_ble_eq_true rfl, Nat.le_of_ble_eq_true rfl⟩ hl.1 (Nat.le_of_ble_eq_true rfl) dX7_fault_3) hw (fun H locs hw => ?_)
  refine lv_istore_n (lv' := [(3, .int (zb (zlt i nc ∧ zlt k (zRsp I i)))), (0, .ref (ad 128)), (1, .int i), (2, .int k)]) hx hb dX7_fault_6 rfl hl (by decide) rfl (fun ls hl => ?_)
  refine lv_aload_n hx hb dX7_fault_7 rfl (lv_at hl 1 rfl) ?_
  refine lv_iload_n hx hb dX7_fault_8 rfl (lv_at hl 0 rfl) ?_
  refine lv_if_ne (tgt := 16) hx hb dX7_fault_9 (by decide) (fun c1 => ?_) (fun c1 => ?_)
  · skip
    have c1 := zb_ne0.mp c1
    refine lv_aload_n hx hb dX7_fault_16 rfl (lv_at hl 1 rfl) ?_
    refine lv_bipush (v := 8) hx hb dX7_fault_17 (by decide) ?_
    refine lv_iload_n hx hb dX7_fault_19 rfl (lv_at hl 2 rfl) ?_
    refine lv_imul hx hb dX7_fault_20 ?_
    refine lv_iload_n hx hb dX7_fault_21 rfl (lv_at hl 3 rfl) ?_
    refine lv_iadd hx hb dX7_fault_22 ?_
    refine z_ci0 (z_runV (As := [.int ((8 * i) + k)]) (rest := [.ref (ad 128)]) M hw (zr_t hR 128 7 0 (by decide)) zc_X7_121 (c_X7_placeOf l base D cA ad ty I L P hR hV.2.1.1 hV.2.1.2 ((8 * i) + k)) hw.1 rfl rfl ⟨Nat.le_of_ble_eq_true rfl, Nat.le_of_ble_eq_true rfl⟩ ⟨Nat.le_of_ble_eq_true rfl, Nat.le_of_ble_eq_true rfl⟩ hl.1 (Nat.le_of_ble_eq_true rfl) dX7_fault_23) hw (fun H locs hw => ?_)
    refine lv_iconst (v := (-1)) hx hb dX7_fault_26 (by decide) ?_
    refine lv_icmp_eq (tgt := 34) hx hb dX7_fault_27 (by decide) (fun c2 => ?_) (fun c2 => ?_)
    · skip
      refine lv_iconst (v := 0) hx hb dX7_fault_34 (by decide) ?_
      refine z_ci0 (z_runV (As := [.int 0]) (rest := []) M hw (zr_t hR 128 7 0 (by decide)) zc_X7_108 (c_X7_goesWell l base D cA ad ty I L P hR 0) hw.1 rfl rfl ⟨Nat.le_of_ble_eq_true rfl, Nat.le_of_ble_eq_true rfl⟩ ⟨Nat.le_of_ble_eq_true rfl, Nat.le_of_ble_eq_true rfl⟩ hl.1 (Nat.le_of_ble_eq_true rfl) dX7_fault_35) hw (fun H locs hw => ?_)
      refine z_topi (y := 1) (zb_1 (by decide)) ?_
      have hpl : (if zlt i nc ∧ zlt k (zRsp I i) then (if zoi (zPl I (8 * i + k)) = -1 then 0 else 2) else 1) = 0 := by (try first | rw [if_pos c1] | rw [if_neg c1]); (try first | rw [if_pos c2] | rw [if_neg c2])
      have hVZ : zRv ni nc ns nt (zu I 128 0 0) := zRv_zu (by unfold zRl; omega) hV
      refine lv_if_ne (tgt := 43) hx hb dX7_fault_38 (by decide) (fun c3 => ?_) (fun c3 => ?_)
      rotate_left
      · exact absurd c3 (by decide)
      refine lv_aload_n hx hb dX7_fault_43 rfl (lv_at hl 1 rfl) ?_
      refine z_getr M hw (zr_t hR 128 7 0 (by decide)) zf_X7_31 (zr_p hR 12 (by decide)) dX7_fault_44 ?_
      refine lv_aload_n hx hb dX7_fault_47 rfl (lv_at hl 1 rfl) ?_
      refine z_geti M hw (zr_t hR 128 7 0 (by decide)) zf_X7_114 dX7_fault_48 ?_
      refine z_topi (y := I 128 11) (by rw [zu_ne _ _ (by omega)]) ?_
      refine z_topi (y := nI (zRn I)) hV.2.1.1 ?_
      refine lv_bipush (v := 8) hx hb dX7_fault_51 (by decide) ?_
      refine lv_iload_n hx hb dX7_fault_53 rfl (lv_at hl 2 rfl) ?_
      refine lv_imul hx hb dX7_fault_54 ?_
      refine lv_iload_n hx hb dX7_fault_55 rfl (lv_at hl 3 rfl) ?_
      refine lv_iadd hx hb dX7_fault_56 ?_
      refine z_iNast M hw (zr_t hR 140 8 128 (by decide)) rfl ⟨hroom hpl, by omega⟩ dX7_fault_57 (fun H locs hw => ?_)
      refine lv_aload_n hx hb dX7_fault_58 rfl (lv_at hl 1 rfl) ?_
      refine lv_dup hx hb dX7_fault_59 rfl ?_
      refine z_geti M hw (zr_t hR 128 7 0 (by decide)) zf_X7_114 dX7_fault_60 ?_
      refine z_topi (y := I 128 11) (by rw [zu_ne _ _ (by omega), zu_ne _ _ (by omega)]) ?_
      refine z_topi (y := nI (zRn I)) hV.2.1.1 ?_
      refine lv_iconst (v := 1) hx hb dX7_fault_63 (by decide) ?_
      refine lv_iadd hx hb dX7_fault_64 ?_
      refine z_puti M hw (zr_t hR 128 7 0 (by decide)) zf_X7_114 (Or.inl rfl) rfl rfl dX7_fault_65 (fun H locs hw => ?_)
      refine lv_aload_n hx hb dX7_fault_68 rfl (lv_at hl 1 rfl) ?_
      refine z_geti M hw (zr_t hR 128 7 0 (by decide)) zf_X7_114 dX7_fault_69 ?_
      refine z_topi (y := (nI (zRn I)) + 1) (by rw [zu_self]) ?_
      exact z_iret hx hb hr (by rw [hpl, ← nI_succ]; rfl) rfl hw.2 (by rw [hpl]; rw [← nI_succ] at hw; exact hw.1) (Nat.le_of_ble_eq_true rfl) (Nat.le_of_ble_eq_true rfl) dX7_fault_72 hlocks
    · skip
      refine lv_iconst (v := 2) hx hb dX7_fault_30 (by decide) ?_
      refine lv_goto (tgt := 35) hx hb dX7_fault_31 (by decide) ?_
      refine z_ci0 (z_runV (As := [.int 2]) (rest := []) M hw (zr_t hR 128 7 0 (by decide)) zc_X7_108 (c_X7_goesWell l base D cA ad ty I L P hR 2) hw.1 rfl rfl ⟨Nat.le_of_ble_eq_true rfl, Nat.le_of_ble_eq_true rfl⟩ ⟨Nat.le_of_ble_eq_true rfl, Nat.le_of_ble_eq_true rfl⟩ hl.1 (Nat.le_of_ble_eq_true rfl) dX7_fault_35) hw (fun H locs hw => ?_)
      refine z_topi (y := 0) (zb_0 (by decide)) ?_
      have hpl : (if zlt i nc ∧ zlt k (zRsp I i) then (if zoi (zPl I (8 * i + k)) = -1 then 0 else 2) else 1) = 2 := by (try first | rw [if_pos c1] | rw [if_neg c1]); (try first | rw [if_pos c2] | rw [if_neg c2])
      refine lv_if_ne (tgt := 43) hx hb dX7_fault_38 (by decide) (fun c4 => ?_) (fun c4 => ?_)
      · exact absurd c4 (by decide)
      refine lv_iconst (v := 0) hx hb dX7_fault_41 (by decide) ?_
      exact z_iret hx hb hr (by rw [hpl]; rfl) rfl hw.2 (by rw [hpl]; exact hw.1) (Nat.le_of_ble_eq_true rfl) (Nat.le_of_ble_eq_true rfl) dX7_fault_42 hlocks
  · skip
    have c1 := zb_eq0.mp c1
    refine lv_iconst (v := 1) hx hb dX7_fault_12 (by decide) ?_
    refine lv_goto (tgt := 35) hx hb dX7_fault_13 (by decide) ?_
    refine z_ci0 (z_runV (As := [.int 1]) (rest := []) M hw (zr_t hR 128 7 0 (by decide)) zc_X7_108 (c_X7_goesWell l base D cA ad ty I L P hR 1) hw.1 rfl rfl ⟨Nat.le_of_ble_eq_true rfl, Nat.le_of_ble_eq_true rfl⟩ ⟨Nat.le_of_ble_eq_true rfl, Nat.le_of_ble_eq_true rfl⟩ hl.1 (Nat.le_of_ble_eq_true rfl) dX7_fault_35) hw (fun H locs hw => ?_)
    refine z_topi (y := 0) (zb_0 (by decide)) ?_
    have hpl : (if zlt i nc ∧ zlt k (zRsp I i) then (if zoi (zPl I (8 * i + k)) = -1 then 0 else 2) else 1) = 1 := by (try first | rw [if_pos c1] | rw [if_neg c1])
    refine lv_if_ne (tgt := 43) hx hb dX7_fault_38 (by decide) (fun c5 => ?_) (fun c5 => ?_)
    · exact absurd c5 (by decide)
    refine lv_iconst (v := 0) hx hb dX7_fault_41 (by decide) ?_
    exact z_iret hx hb hr (by rw [hpl]; rfl) rfl hw.2 (by rw [hpl]; exact hw.1) (Nat.le_of_ble_eq_true rfl) (Nat.le_of_ble_eq_true rfl) dX7_fault_42 hlocks
set_option maxHeartbeats 4000000 in
set_option maxRecDepth 100000 in
theorem c_X7_ship (l : Launch) (base : Nat) (D : va_G) (cA : Nat → ClassId) (ad : Nat → Nat) (ty : zTyp) (I : zIt) (L : zLt) (P : zPt) (hR : zref ty P) (ni nc ns nt : Nat) (hbd : zRbd ni nc ns nt) (hV : zRv ni nc ns nt I) (i x : Int32) : zMi l base D cA yX7_ship cX7_ship 4 .int 2 43 0 0 [.ref (ad 128), .int i, .int x] (zW base D cA ad ty I L P) (if (if zlt i ni then (if zin x 1 20 then (if nI ns = 4 then 3 else 0) else 2) else 1) = 0 then nI ns else 0) (zW base D cA ad ty (if (if zlt i ni then (if zin x 1 20 then (if nI ns = 4 then 3 else 0) else 2) else 1) = 0 then (zu (zu (zu (zu (zu I 128 0 0) 142 ns x) 144 ns (I 131 i.toNatClampNeg)) 145 ns (I 132 i.toNatClampNeg)) 128 13 (nI (ns + 1))) else zu I 128 0 (nI (if zlt i ni then (if zin x 1 20 then (if nI ns = 4 then 3 else 0) else 2) else 1))) L P) := by
  refine z_start (by decide +kernel) (Nat.le_of_ble_eq_true rfl) fun p e s m below meth c ls M hP hS hl hr hlocks hnm => ?_
  have M : zM p s m c cX7_ship RX7 4 base D cA := M
  have hw : zH base D cA s s.heap [] ad ty I L P := ⟨hP, hS⟩
  obtain ⟨hx, hb, -⟩ := id M
  have hl : lv_has ls 4 [(0, .ref (ad 128)), (1, .int i), (2, .int x)] := hl
  obtain ⟨hb1, hb2, hb3, hb4⟩ := id hbd
  refine lv_aload_n hx hb dX7_ship_0 rfl (lv_at hl 0 rfl) ?_
  refine lv_iload_n hx hb dX7_ship_1 rfl (lv_at hl 1 rfl) ?_
  refine z_ci0 (z_runV (As := [.int i]) (rest := []) M hw (zr_t hR 128 7 0 (by decide)) zc_X7_111 (c_X7_isIsland l base D cA ad ty I L P hR ni hV.1.1 (by omega) i) hw.1 rfl rfl ⟨Nat.le_of_ble_eq_true rfl, Nat.le_of_ble_eq_true rfl⟩ ⟨Nat.le_of_ble_eq_true rfl, Nat.le_of_ble_eq_true rfl⟩ hl.1 (Nat.le_of_ble_eq_true rfl) dX7_ship_2) hw (fun H locs hw => ?_)
  refine lv_istore_n (lv' := [(3, .int (zb (zlt i ni))), (0, .ref (ad 128)), (1, .int i), (2, .int x)]) hx hb dX7_ship_5 rfl hl (by decide) rfl (fun ls hl => ?_)
  refine lv_aload_n hx hb dX7_ship_6 rfl (lv_at hl 1 rfl) ?_
  refine lv_iload_n hx hb dX7_ship_7 rfl (lv_at hl 0 rfl) ?_
  refine lv_if_ne (tgt := 15) hx hb dX7_ship_8 (by decide) (fun c1 => ?_) (fun c1 => ?_)
  · skip
    have c1 := zb_ne0.mp c1
    refine lv_iload_n hx hb dX7_ship_15 rfl (lv_at hl 3 rfl) ?_
    refine lv_iconst (v := 1) hx hb dX7_ship_16 (by decide) ?_
    refine lv_bipush (v := 20) hx hb dX7_ship_17 (by decide) ?_
    refine z_ci0 (z_runS (As := [.int x, .int 1, .int 20]) (rest := [.ref (ad 128)]) M hw.2 zc_X7_91 (c_X7_in l base D cA ad ty I L P x 1 20) hw.1 rfl rfl ⟨Nat.le_of_ble_eq_true rfl, Nat.le_of_ble_eq_true rfl⟩ ⟨Nat.le_of_ble_eq_true rfl, Nat.le_of_ble_eq_true rfl⟩ hl.1 (Nat.le_of_ble_eq_true rfl) dX7_ship_19) hw (fun H locs hw => ?_)
    refine lv_if_ne (tgt := 29) hx hb dX7_ship_22 (by decide) (fun c2 => ?_) (fun c2 => ?_)
    · skip
      have c2 := zb_ne0.mp c2
      refine lv_aload_n hx hb dX7_ship_29 rfl (lv_at hl 1 rfl) ?_
      refine z_geti M hw (zr_t hR 128 7 0 (by decide)) zf_X7_102 dX7_ship_30 ?_
      refine z_topi (y := nI ns) hV.1.2.2.1 ?_
      refine lv_iconst (v := 4) hx hb dX7_ship_33 (by decide) ?_
      refine lv_icmp_ne (tgt := 41) hx hb dX7_ship_34 (by decide) (fun c3 => ?_) (fun c3 => ?_)
      · skip
        have hlt : ns < 4 := z_nelt (show ¬ nI ns = nI 4 from c3) (by omega)
        refine lv_iconst (v := 0) hx hb dX7_ship_41 (by decide) ?_
        refine z_ci0 (z_runV (As := [.int 0]) (rest := []) M hw (zr_t hR 128 7 0 (by decide)) zc_X7_108 (c_X7_goesWell l base D cA ad ty I L P hR 0) hw.1 rfl rfl ⟨Nat.le_of_ble_eq_true rfl, Nat.le_of_ble_eq_true rfl⟩ ⟨Nat.le_of_ble_eq_true rfl, Nat.le_of_ble_eq_true rfl⟩ hl.1 (Nat.le_of_ble_eq_true rfl) dX7_ship_42) hw (fun H locs hw => ?_)
        refine z_topi (y := 1) (zb_1 (by decide)) ?_
        have hpl : (if zlt i ni then (if zin x 1 20 then (if nI ns = 4 then 3 else 0) else 2) else 1) = 0 := by (try first | rw [if_pos c1] | rw [if_neg c1]); (try first | rw [if_pos c2] | rw [if_neg c2]); (try first | rw [if_pos c3] | rw [if_neg c3])
        have hVZ : zRv ni nc ns nt (zu I 128 0 0) := zRv_zu (by unfold zRl; omega) hV
        have qi := (zlt_nat c1).2
        rw [(zlt_nat c1).1] at hl
        refine lv_if_ne (tgt := 50) hx hb dX7_ship_45 (by decide) (fun c4 => ?_) (fun c4 => ?_)
        rotate_left
        · exact absurd c4 (by decide)
        refine lv_aload_n hx hb dX7_ship_50 rfl (lv_at hl 1 rfl) ?_
        refine z_getr M hw (zr_t hR 128 7 0 (by decide)) zf_X7_34 (zr_p hR 14 (by decide)) dX7_ship_51 ?_
        refine lv_aload_n hx hb dX7_ship_54 rfl (lv_at hl 1 rfl) ?_
        refine z_geti M hw (zr_t hR 128 7 0 (by decide)) zf_X7_102 dX7_ship_55 ?_
        refine z_topi (y := I 128 13) (by rw [zu_ne _ _ (by omega)]) ?_
        refine z_topi (y := nI ns) hV.1.2.2.1 ?_
        refine lv_iload_n hx hb dX7_ship_58 rfl (lv_at hl 3 rfl) ?_
        refine z_iNast M hw (zr_t hR 142 8 4 (by decide)) rfl ⟨by omega, by omega⟩ dX7_ship_59 (fun H locs hw => ?_)
        refine lv_aload_n hx hb dX7_ship_60 rfl (lv_at hl 1 rfl) ?_
        refine z_getr M hw (zr_t hR 128 7 0 (by decide)) zf_X7_40 (zr_p hR 16 (by decide)) dX7_ship_61 ?_
        refine lv_aload_n hx hb dX7_ship_64 rfl (lv_at hl 1 rfl) ?_
        refine z_geti M hw (zr_t hR 128 7 0 (by decide)) zf_X7_102 dX7_ship_65 ?_
        refine z_topi (y := I 128 13) (by rw [zu_ne _ _ (by omega), zu_ne _ _ (by omega)]) ?_
        refine z_topi (y := nI ns) hV.1.2.2.1 ?_
        refine lv_aload_n hx hb dX7_ship_68 rfl (lv_at hl 1 rfl) ?_
        refine z_getr M hw (zr_t hR 128 7 0 (by decide)) zf_X7_7 (zr_p hR 3 (by decide)) dX7_ship_69 ?_
        refine lv_iload_n hx hb dX7_ship_72 rfl (lv_at hl 2 rfl) ?_
        refine z_iNald M hw (zr_t hR 131 8 10 (by decide)) rfl ⟨by omega, by omega⟩ dX7_ship_73 ?_
        refine z_topi (y := I 131 i.toNatClampNeg) (by rw [zu_ne _ _ (by omega), zu_ne _ _ (by omega)]) ?_
        refine z_iNast M hw (zr_t hR 144 8 4 (by decide)) rfl ⟨by omega, by omega⟩ dX7_ship_74 (fun H locs hw => ?_)
        refine lv_aload_n hx hb dX7_ship_75 rfl (lv_at hl 1 rfl) ?_
        refine z_getr M hw (zr_t hR 128 7 0 (by decide)) zf_X7_43 (zr_p hR 17 (by decide)) dX7_ship_76 ?_
        refine lv_aload_n hx hb dX7_ship_79 rfl (lv_at hl 1 rfl) ?_
        refine z_geti M hw (zr_t hR 128 7 0 (by decide)) zf_X7_102 dX7_ship_80 ?_
        refine z_topi (y := I 128 13) (by rw [zu_ne _ _ (by omega), zu_ne _ _ (by omega), zu_ne _ _ (by omega)]) ?_
        refine z_topi (y := nI ns) hV.1.2.2.1 ?_
        refine lv_aload_n hx hb dX7_ship_83 rfl (lv_at hl 1 rfl) ?_
        refine z_getr M hw (zr_t hR 128 7 0 (by decide)) zf_X7_13 (zr_p hR 4 (by decide)) dX7_ship_84 ?_
        refine lv_iload_n hx hb dX7_ship_87 rfl (lv_at hl 2 rfl) ?_
        refine z_iNald M hw (zr_t hR 132 8 10 (by decide)) rfl ⟨by omega, by omega⟩ dX7_ship_88 ?_
        refine z_topi (y := I 132 i.toNatClampNeg) (by rw [zu_ne _ _ (by omega), zu_ne _ _ (by omega), zu_ne _ _ (by omega)]) ?_
        refine z_iNast M hw (zr_t hR 145 8 4 (by decide)) rfl ⟨by omega, by omega⟩ dX7_ship_89 (fun H locs hw => ?_)
        refine lv_aload_n hx hb dX7_ship_90 rfl (lv_at hl 1 rfl) ?_
        refine lv_dup hx hb dX7_ship_91 rfl ?_
        refine z_geti M hw (zr_t hR 128 7 0 (by decide)) zf_X7_102 dX7_ship_92 ?_
        refine z_topi (y := I 128 13) (by rw [zu_ne _ _ (by omega), zu_ne _ _ (by omega), zu_ne _ _ (by omega), zu_ne _ _ (by omega)]) ?_
        refine z_topi (y := nI ns) hV.1.2.2.1 ?_
        refine lv_iconst (v := 1) hx hb dX7_ship_95 (by decide) ?_
        refine lv_iadd hx hb dX7_ship_96 ?_
        refine z_puti M hw (zr_t hR 128 7 0 (by decide)) zf_X7_102 (Or.inl rfl) rfl rfl dX7_ship_97 (fun H locs hw => ?_)
        refine lv_aload_n hx hb dX7_ship_100 rfl (lv_at hl 1 rfl) ?_
        refine z_geti M hw (zr_t hR 128 7 0 (by decide)) zf_X7_102 dX7_ship_101 ?_
        refine z_topi (y := (nI ns) + 1) (by rw [zu_self]) ?_
        refine lv_iconst (v := 1) hx hb dX7_ship_104 (by decide) ?_
        refine lv_isub hx hb dX7_ship_105 ?_
        exact z_iret hx hb hr (by rw [hpl, ← nI_succ, nI_pred]; rfl) rfl hw.2 (by rw [hpl]; rw [← nI_succ] at hw; exact hw.1) (Nat.le_of_ble_eq_true rfl) (Nat.le_of_ble_eq_true rfl) dX7_ship_106 hlocks
      · skip
        refine lv_iconst (v := 3) hx hb dX7_ship_37 (by decide) ?_
        refine lv_goto (tgt := 42) hx hb dX7_ship_38 (by decide) ?_
        refine z_ci0 (z_runV (As := [.int 3]) (rest := []) M hw (zr_t hR 128 7 0 (by decide)) zc_X7_108 (c_X7_goesWell l base D cA ad ty I L P hR 3) hw.1 rfl rfl ⟨Nat.le_of_ble_eq_true rfl, Nat.le_of_ble_eq_true rfl⟩ ⟨Nat.le_of_ble_eq_true rfl, Nat.le_of_ble_eq_true rfl⟩ hl.1 (Nat.le_of_ble_eq_true rfl) dX7_ship_42) hw (fun H locs hw => ?_)
        refine z_topi (y := 0) (zb_0 (by decide)) ?_
        have hpl : (if zlt i ni then (if zin x 1 20 then (if nI ns = 4 then 3 else 0) else 2) else 1) = 3 := by (try first | rw [if_pos c1] | rw [if_neg c1]); (try first | rw [if_pos c2] | rw [if_neg c2]); (try first | rw [if_pos c3] | rw [if_neg c3])
        refine lv_if_ne (tgt := 50) hx hb dX7_ship_45 (by decide) (fun c5 => ?_) (fun c5 => ?_)
        · exact absurd c5 (by decide)
        refine lv_iconst (v := 0) hx hb dX7_ship_48 (by decide) ?_
        exact z_iret hx hb hr (by rw [hpl]; rfl) rfl hw.2 (by rw [hpl]; exact hw.1) (Nat.le_of_ble_eq_true rfl) (Nat.le_of_ble_eq_true rfl) dX7_ship_49 hlocks
    · skip
      have c2 := zb_eq0.mp c2
      refine lv_iconst (v := 2) hx hb dX7_ship_25 (by decide) ?_
      refine lv_goto (tgt := 42) hx hb dX7_ship_26 (by decide) ?_
      refine z_ci0 (z_runV (As := [.int 2]) (rest := []) M hw (zr_t hR 128 7 0 (by decide)) zc_X7_108 (c_X7_goesWell l base D cA ad ty I L P hR 2) hw.1 rfl rfl ⟨Nat.le_of_ble_eq_true rfl, Nat.le_of_ble_eq_true rfl⟩ ⟨Nat.le_of_ble_eq_true rfl, Nat.le_of_ble_eq_true rfl⟩ hl.1 (Nat.le_of_ble_eq_true rfl) dX7_ship_42) hw (fun H locs hw => ?_)
      refine z_topi (y := 0) (zb_0 (by decide)) ?_
      have hpl : (if zlt i ni then (if zin x 1 20 then (if nI ns = 4 then 3 else 0) else 2) else 1) = 2 := by (try first | rw [if_pos c1] | rw [if_neg c1]); (try first | rw [if_pos c2] | rw [if_neg c2])
      refine lv_if_ne (tgt := 50) hx hb dX7_ship_45 (by decide) (fun c6 => ?_) (fun c6 => ?_)
      · exact absurd c6 (by decide)
      refine lv_iconst (v := 0) hx hb dX7_ship_48 (by decide) ?_
      exact z_iret hx hb hr (by rw [hpl]; rfl) rfl hw.2 (by rw [hpl]; exact hw.1) (Nat.le_of_ble_eq_true rfl) (Nat.le_of_ble_eq_true rfl) dX7_ship_49 hlocks
  · skip
    have c1 := zb_eq0.mp c1
    refine lv_iconst (v := 1) hx hb dX7_ship_11 (by decide) ?_
    refine lv_goto (tgt := 42) hx hb dX7_ship_12 (by decide) ?_
    refine z_ci0 (z_runV (As := [.int 1]) (rest := []) M hw (zr_t hR 128 7 0 (by decide)) zc_X7_108 (c_X7_goesWell l base D cA ad ty I L P hR 1) hw.1 rfl rfl ⟨Nat.le_of_ble_eq_true rfl, Nat.le_of_ble_eq_true rfl⟩ ⟨Nat.le_of_ble_eq_true rfl, Nat.le_of_ble_eq_true rfl⟩ hl.1 (Nat.le_of_ble_eq_true rfl) dX7_ship_42) hw (fun H locs hw => ?_)
    refine z_topi (y := 0) (zb_0 (by decide)) ?_
    have hpl : (if zlt i ni then (if zin x 1 20 then (if nI ns = 4 then 3 else 0) else 2) else 1) = 1 := by (try first | rw [if_pos c1] | rw [if_neg c1])
    refine lv_if_ne (tgt := 50) hx hb dX7_ship_45 (by decide) (fun c7 => ?_) (fun c7 => ?_)
    · exact absurd c7 (by decide)
    refine lv_iconst (v := 0) hx hb dX7_ship_48 (by decide) ?_
    exact z_iret hx hb hr (by rw [hpl]; rfl) rfl hw.2 (by rw [hpl]; exact hw.1) (Nat.le_of_ble_eq_true rfl) (Nat.le_of_ble_eq_true rfl) dX7_ship_49 hlocks
set_option maxHeartbeats 4000000 in
set_option maxRecDepth 100000 in
theorem c_X7_home (l : Launch) (base : Nat) (D : va_G) (cA : Nat → ClassId) (ad : Nat → Nat) (ty : zTyp) (I : zIt) (L : zLt) (P : zPt) (hR : zref ty P) (ni nc ns nt : Nat) (hbd : zRbd ni nc ns nt) (hV : zRv ni nc ns nt I) (i j : Int32) : zMi l base D cA yX7_home cX7_home 4 .int 3 70 0 0 [.ref (ad 128), .int i, .int j] (zW base D cA ad ty I L P) (if (if zlt i ns then (if zlt j ni then (if I 143 i.toNatClampNeg = 0 then 0 else 2) else 1) else 1) = 0 then zRh (zu I 128 0 0) i.toNatClampNeg (I 131 j.toNatClampNeg) (I 132 j.toNatClampNeg) else 0) (zW base D cA ad ty (if (if zlt i ns then (if zlt j ni then (if I 143 i.toNatClampNeg = 0 then 0 else 2) else 1) else 1) = 0 then (zSail (zu I 128 0 0) i.toNatClampNeg (I 131 j.toNatClampNeg) (I 132 j.toNatClampNeg) (-1)) else zu I 128 0 (nI (if zlt i ns then (if zlt j ni then (if I 143 i.toNatClampNeg = 0 then 0 else 2) else 1) else 1))) L P) := by
  refine z_start (by decide +kernel) (Nat.le_of_ble_eq_true rfl) fun p e s m below meth c ls M hP hS hl hr hlocks hnm => ?_
  have M : zM p s m c cX7_home RX7 4 base D cA := M
  have hw : zH base D cA s s.heap [] ad ty I L P := ⟨hP, hS⟩
  obtain ⟨hx, hb, -⟩ := id M
  have hl : lv_has ls 4 [(0, .ref (ad 128)), (1, .int i), (2, .int j)] := hl
  obtain ⟨hb1, hb2, hb3, hb4⟩ := id hbd
  refine lv_aload_n hx hb dX7_home_0 rfl (lv_at hl 0 rfl) ?_
  refine lv_iload_n hx hb dX7_home_1 rfl (lv_at hl 1 rfl) ?_
  refine z_ci0 (z_runV (As := [.int i]) (rest := []) M hw (zr_t hR 128 7 0 (by decide)) zc_X7_132 (c_X7_isShip l base D cA ad ty I L P hR ns hV.1.2.2.1 (by omega) i) hw.1 rfl rfl ⟨Nat.le_of_ble_eq_true rfl, Nat.le_of_ble_eq_true rfl⟩ ⟨Nat.le_of_ble_eq_true rfl, Nat.le_of_ble_eq_true rfl⟩ hl.1 (Nat.le_of_ble_eq_true rfl) dX7_home_2) hw (fun H locs hw => ?_)
  refine lv_if_eq (tgt := 20) hx hb dX7_home_5 (by decide) (fun c1 => ?_) (fun c1 => ?_)
  · skip
    have c1 := zb_eq0.mp c1
    refine lv_iconst (v := 0) hx hb dX7_home_20 (by decide) ?_
    refine lv_istore_n (lv' := [(3, .int 0), (0, .ref (ad 128)), (1, .int i), (2, .int j)]) hx hb dX7_home_21 rfl hl (by decide) rfl (fun ls hl => ?_)
    refine lv_aload_n hx hb dX7_home_22 rfl (lv_at hl 1 rfl) ?_
    refine lv_iload_n hx hb dX7_home_23 rfl (lv_at hl 0 rfl) ?_
    refine lv_if_ne (tgt := 31) hx hb dX7_home_24 (by decide) (fun c2 => ?_) (fun c2 => ?_)
    · exact absurd c2 (by decide)
    refine lv_iconst (v := 1) hx hb dX7_home_27 (by decide) ?_
    refine lv_goto (tgt := 45) hx hb dX7_home_28 (by decide) ?_
    refine z_ci0 (z_runV (As := [.int 1]) (rest := []) M hw (zr_t hR 128 7 0 (by decide)) zc_X7_108 (c_X7_goesWell l base D cA ad ty I L P hR 1) hw.1 rfl rfl ⟨Nat.le_of_ble_eq_true rfl, Nat.le_of_ble_eq_true rfl⟩ ⟨Nat.le_of_ble_eq_true rfl, Nat.le_of_ble_eq_true rfl⟩ hl.1 (Nat.le_of_ble_eq_true rfl) dX7_home_45) hw (fun H locs hw => ?_)
    refine z_topi (y := 0) (zb_0 (by decide)) ?_
    have hpl : (if zlt i ns then (if zlt j ni then (if I 143 i.toNatClampNeg = 0 then 0 else 2) else 1) else 1) = 1 := by (try first | rw [if_pos c1] | rw [if_neg c1])
    refine lv_if_ne (tgt := 53) hx hb dX7_home_48 (by decide) (fun c3 => ?_) (fun c3 => ?_)
    · exact absurd c3 (by decide)
    refine lv_iconst (v := 0) hx hb dX7_home_51 (by decide) ?_
    exact z_iret hx hb hr (by rw [hpl]; rfl) rfl hw.2 (by rw [hpl]; exact hw.1) (Nat.le_of_ble_eq_true rfl) (Nat.le_of_ble_eq_true rfl) dX7_home_52 hlocks
  · skip
    have c1 := zb_ne0.mp c1
    refine lv_aload_n hx hb dX7_home_8 rfl (lv_at hl 0 rfl) ?_
    refine lv_iload_n hx hb dX7_home_9 rfl (lv_at hl 2 rfl) ?_
    refine z_ci0 (z_runV (As := [.int j]) (rest := []) M hw (zr_t hR 128 7 0 (by decide)) zc_X7_111 (c_X7_isIsland l base D cA ad ty I L P hR ni hV.1.1 (by omega) j) hw.1 rfl rfl ⟨Nat.le_of_ble_eq_true rfl, Nat.le_of_ble_eq_true rfl⟩ ⟨Nat.le_of_ble_eq_true rfl, Nat.le_of_ble_eq_true rfl⟩ hl.1 (Nat.le_of_ble_eq_true rfl) dX7_home_10) hw (fun H locs hw => ?_)
    refine lv_if_eq (tgt := 20) hx hb dX7_home_13 (by decide) (fun c4 => ?_) (fun c4 => ?_)
    · skip
      have c4 := zb_eq0.mp c4
      refine lv_iconst (v := 0) hx hb dX7_home_20 (by decide) ?_
      refine lv_istore_n (lv' := [(3, .int 0), (0, .ref (ad 128)), (1, .int i), (2, .int j)]) hx hb dX7_home_21 rfl hl (by decide) rfl (fun ls hl => ?_)
      refine lv_aload_n hx hb dX7_home_22 rfl (lv_at hl 1 rfl) ?_
      refine lv_iload_n hx hb dX7_home_23 rfl (lv_at hl 0 rfl) ?_
      refine lv_if_ne (tgt := 31) hx hb dX7_home_24 (by decide) (fun c5 => ?_) (fun c5 => ?_)
      · exact absurd c5 (by decide)
      refine lv_iconst (v := 1) hx hb dX7_home_27 (by decide) ?_
      refine lv_goto (tgt := 45) hx hb dX7_home_28 (by decide) ?_
      refine z_ci0 (z_runV (As := [.int 1]) (rest := []) M hw (zr_t hR 128 7 0 (by decide)) zc_X7_108 (c_X7_goesWell l base D cA ad ty I L P hR 1) hw.1 rfl rfl ⟨Nat.le_of_ble_eq_true rfl, Nat.le_of_ble_eq_true rfl⟩ ⟨Nat.le_of_ble_eq_true rfl, Nat.le_of_ble_eq_true rfl⟩ hl.1 (Nat.le_of_ble_eq_true rfl) dX7_home_45) hw (fun H locs hw => ?_)
      refine z_topi (y := 0) (zb_0 (by decide)) ?_
      have hpl : (if zlt i ns then (if zlt j ni then (if I 143 i.toNatClampNeg = 0 then 0 else 2) else 1) else 1) = 1 := by (try first | rw [if_pos c1] | rw [if_neg c1]); (try first | rw [if_pos c4] | rw [if_neg c4])
      refine lv_if_ne (tgt := 53) hx hb dX7_home_48 (by decide) (fun c6 => ?_) (fun c6 => ?_)
      · exact absurd c6 (by decide)
      refine lv_iconst (v := 0) hx hb dX7_home_51 (by decide) ?_
      exact z_iret hx hb hr (by rw [hpl]; rfl) rfl hw.2 (by rw [hpl]; exact hw.1) (Nat.le_of_ble_eq_true rfl) (Nat.le_of_ble_eq_true rfl) dX7_home_52 hlocks
    · skip
      have c4 := zb_ne0.mp c4
      refine lv_iconst (v := 1) hx hb dX7_home_16 (by decide) ?_
      refine lv_goto (tgt := 21) hx hb dX7_home_17 (by decide) ?_
      refine lv_istore_n (lv' := [(3, .int 1), (0, .ref (ad 128)), (1, .int i), (2, .int j)]) hx hb dX7_home_21 rfl hl (by decide) rfl (fun ls hl => ?_)
      refine lv_aload_n hx hb dX7_home_22 rfl (lv_at hl 1 rfl) ?_
      refine lv_iload_n hx hb dX7_home_23 rfl (lv_at hl 0 rfl) ?_
      refine lv_if_ne (tgt := 31) hx hb dX7_home_24 (by decide) (fun c7 => ?_) (fun c7 => ?_)
      rotate_left
      · exact absurd c7 (by decide)
      refine lv_aload_n hx hb dX7_home_31 rfl (lv_at hl 1 rfl) ?_
      refine z_getr M hw (zr_t hR 128 7 0 (by decide)) zf_X7_37 (zr_p hR 15 (by decide)) dX7_home_32 ?_
      refine lv_iload_n hx hb dX7_home_35 rfl (lv_at hl 2 rfl) ?_
      refine z_iNald M hw (zr_t hR 143 8 4 (by decide)) (zlt_nat c1).1 ⟨by have := (zlt_nat c1).2; omega, by omega⟩ dX7_home_36 ?_
      refine lv_if_ne (tgt := 44) hx hb dX7_home_37 (by decide) (fun c8 => ?_) (fun c8 => ?_)
      · skip
        refine lv_iconst (v := 2) hx hb dX7_home_44 (by decide) ?_
        refine z_ci0 (z_runV (As := [.int 2]) (rest := []) M hw (zr_t hR 128 7 0 (by decide)) zc_X7_108 (c_X7_goesWell l base D cA ad ty I L P hR 2) hw.1 rfl rfl ⟨Nat.le_of_ble_eq_true rfl, Nat.le_of_ble_eq_true rfl⟩ ⟨Nat.le_of_ble_eq_true rfl, Nat.le_of_ble_eq_true rfl⟩ hl.1 (Nat.le_of_ble_eq_true rfl) dX7_home_45) hw (fun H locs hw => ?_)
        refine z_topi (y := 0) (zb_0 (by decide)) ?_
        have hpl : (if zlt i ns then (if zlt j ni then (if I 143 i.toNatClampNeg = 0 then 0 else 2) else 1) else 1) = 2 := by (try first | rw [if_pos c1] | rw [if_neg c1]); (try first | rw [if_pos c4] | rw [if_neg c4]); (try first | rw [if_pos c8] | rw [if_neg c8])
        refine lv_if_ne (tgt := 53) hx hb dX7_home_48 (by decide) (fun c9 => ?_) (fun c9 => ?_)
        · exact absurd c9 (by decide)
        refine lv_iconst (v := 0) hx hb dX7_home_51 (by decide) ?_
        exact z_iret hx hb hr (by rw [hpl]; rfl) rfl hw.2 (by rw [hpl]; exact hw.1) (Nat.le_of_ble_eq_true rfl) (Nat.le_of_ble_eq_true rfl) dX7_home_52 hlocks
      · skip
        refine lv_iconst (v := 0) hx hb dX7_home_40 (by decide) ?_
        refine lv_goto (tgt := 45) hx hb dX7_home_41 (by decide) ?_
        refine z_ci0 (z_runV (As := [.int 0]) (rest := []) M hw (zr_t hR 128 7 0 (by decide)) zc_X7_108 (c_X7_goesWell l base D cA ad ty I L P hR 0) hw.1 rfl rfl ⟨Nat.le_of_ble_eq_true rfl, Nat.le_of_ble_eq_true rfl⟩ ⟨Nat.le_of_ble_eq_true rfl, Nat.le_of_ble_eq_true rfl⟩ hl.1 (Nat.le_of_ble_eq_true rfl) dX7_home_45) hw (fun H locs hw => ?_)
        refine z_topi (y := 1) (zb_1 (by decide)) ?_
        have hpl : (if zlt i ns then (if zlt j ni then (if I 143 i.toNatClampNeg = 0 then 0 else 2) else 1) else 1) = 0 := by (try first | rw [if_pos c1] | rw [if_neg c1]); (try first | rw [if_pos c4] | rw [if_neg c4]); (try first | rw [if_pos c8] | rw [if_neg c8])
        have hVZ : zRv ni nc ns nt (zu I 128 0 0) := zRv_zu (by unfold zRl; omega) hV
        have qi := (zlt_nat c1).2
        rw [(zlt_nat c1).1] at hl
        have qj := (zlt_nat c4).2
        rw [(zlt_nat c4).1] at hl
        refine lv_if_ne (tgt := 53) hx hb dX7_home_48 (by decide) (fun c10 => ?_) (fun c10 => ?_)
        rotate_left
        · exact absurd c10 (by decide)
        refine lv_aload_n hx hb dX7_home_53 rfl (lv_at hl 1 rfl) ?_
        refine lv_iload_n hx hb dX7_home_54 rfl (lv_at hl 2 rfl) ?_
        refine lv_aload_n hx hb dX7_home_55 rfl (lv_at hl 1 rfl) ?_
        refine z_getr M hw (zr_t hR 128 7 0 (by decide)) zf_X7_7 (zr_p hR 3 (by decide)) dX7_home_56 ?_
        refine lv_iload_n hx hb dX7_home_59 rfl (lv_at hl 3 rfl) ?_
        refine z_iNald M hw (zr_t hR 131 8 10 (by decide)) rfl ⟨by omega, by omega⟩ dX7_home_60 ?_
        refine z_topi (y := I 131 j.toNatClampNeg) (by rw [zu_ne _ _ (by omega)]) ?_
        refine lv_aload_n hx hb dX7_home_61 rfl (lv_at hl 1 rfl) ?_
        refine z_getr M hw (zr_t hR 128 7 0 (by decide)) zf_X7_13 (zr_p hR 4 (by decide)) dX7_home_62 ?_
        refine lv_iload_n hx hb dX7_home_65 rfl (lv_at hl 3 rfl) ?_
        refine z_iNald M hw (zr_t hR 132 8 10 (by decide)) rfl ⟨by omega, by omega⟩ dX7_home_66 ?_
        refine z_topi (y := I 132 j.toNatClampNeg) (by rw [zu_ne _ _ (by omega)]) ?_
        refine lv_iconst (v := (-1)) hx hb dX7_home_67 (by decide) ?_
        refine z_ci0 (z_runV (As := [.int (nI i.toNatClampNeg), .int (I 131 j.toNatClampNeg), .int (I 132 j.toNatClampNeg), .int (-1)]) (rest := []) M hw (zr_t hR 128 7 0 (by decide)) zc_X7_139 (c_X7_sail l base D cA ad ty (zu I 128 0 0) L P hR hVZ.2.1.1 hVZ.2.1.2 i.toNatClampNeg (by omega) (I 131 j.toNatClampNeg) (I 132 j.toNatClampNeg) (-1) (zRsp0 hVZ qi)) hw.1 rfl rfl ⟨Nat.le_of_ble_eq_true rfl, Nat.le_of_ble_eq_true rfl⟩ ⟨Nat.le_of_ble_eq_true rfl, Nat.le_of_ble_eq_true rfl⟩ hl.1 (Nat.le_of_ble_eq_true rfl) dX7_home_68) hw (fun H locs hw => ?_)
        exact z_iret hx hb hr (by rw [hpl]; rfl) rfl hw.2 (by rw [hpl]; exact hw.1) (Nat.le_of_ble_eq_true rfl) (Nat.le_of_ble_eq_true rfl) dX7_home_71 hlocks
set_option maxHeartbeats 4000000 in
set_option maxRecDepth 100000 in
theorem c_X7_send (l : Launch) (base : Nat) (D : va_G) (cA : Nat → ClassId) (ad : Nat → Nat) (ty : zTyp) (I : zIt) (L : zLt) (P : zPt) (hR : zref ty P) (ni nc ns nt : Nat) (hbd : zRbd ni nc ns nt) (hV : zRv ni nc ns nt I) (i j k : Int32) (a b : Nat) (ha : zlt j nc → a < 10) (hb0 : zlt j nc → b < 10) (ea : zlt j nc → I 134 j.toNatClampNeg = nI a) (eb : zlt j nc → I 135 j.toNatClampNeg = nI b) : zMi l base D cA yX7_send cX7_send 6 .int 3 70 0 0 [.ref (ad 128), .int i, .int j, .int k] (zW base D cA ad ty I L P) (if (if zlt i ns then (if zlt j nc ∧ zlt k (zRsp I j) then (if I 143 i.toNatClampNeg = 0 then (if zoi (zPl I (8 * j + k)) = -1 then 2 else 0) else 2) else 1) else 1) = 0 then zRh (zu I 128 0 0) i.toNatClampNeg (zPlace k (I 131 a) (I 131 b) (I 136 j.toNatClampNeg)) (zPlace k (I 132 a) (I 132 b) (I 136 j.toNatClampNeg)) else 0) (zW base D cA ad ty (if (if zlt i ns then (if zlt j nc ∧ zlt k (zRsp I j) then (if I 143 i.toNatClampNeg = 0 then (if zoi (zPl I (8 * j + k)) = -1 then 2 else 0) else 2) else 1) else 1) = 0 then (zSail (zu I 128 0 0) i.toNatClampNeg (zPlace k (I 131 a) (I 131 b) (I 136 j.toNatClampNeg)) (zPlace k (I 132 a) (I 132 b) (I 136 j.toNatClampNeg)) (8 * (nI j.toNatClampNeg) + k)) else zu I 128 0 (nI (if zlt i ns then (if zlt j nc ∧ zlt k (zRsp I j) then (if I 143 i.toNatClampNeg = 0 then (if zoi (zPl I (8 * j + k)) = -1 then 2 else 0) else 2) else 1) else 1))) L P) := by
  refine z_start (by decide +kernel) (Nat.le_of_ble_eq_true rfl) fun p e s m below meth c ls M hP hS hl hr hlocks hnm => ?_
  have M : zM p s m c cX7_send RX7 6 base D cA := M
  have hw : zH base D cA s s.heap [] ad ty I L P := ⟨hP, hS⟩
  obtain ⟨hx, hb, -⟩ := id M
  have hl : lv_has ls 6 [(0, .ref (ad 128)), (1, .int i), (2, .int j), (3, .int k)] := hl
  obtain ⟨hb1, hb2, hb3, hb4⟩ := id hbd
  refine lv_aload_n hx hb dX7_send_0 rfl (lv_at hl 0 rfl) ?_
  refine lv_iload_n hx hb dX7_send_1 rfl (lv_at hl 1 rfl) ?_
  refine z_ci0 (z_runV (As := [.int i]) (rest := []) M hw (zr_t hR 128 7 0 (by decide)) zc_X7_132 (c_X7_isShip l base D cA ad ty I L P hR ns hV.1.2.2.1 (by omega) i) hw.1 rfl rfl ⟨Nat.le_of_ble_eq_true rfl, Nat.le_of_ble_eq_true rfl⟩ ⟨Nat.le_of_ble_eq_true rfl, Nat.le_of_ble_eq_true rfl⟩ hl.1 (Nat.le_of_ble_eq_true rfl) dX7_send_2) hw (fun H locs hw => ?_)
  refine lv_if_eq (tgt := 21) hx hb dX7_send_5 (by decide) (fun c1 => ?_) (fun c1 => ?_)
  · skip
    have c1 := zb_eq0.mp c1
    refine lv_iconst (v := 0) hx hb dX7_send_21 (by decide) ?_
    refine lv_istore (lv' := [(4, .int 0), (0, .ref (ad 128)), (1, .int i), (2, .int j), (3, .int k)]) hx hb dX7_send_22 hl (by decide) rfl (fun ls hl => ?_)
    refine lv_iload hx hb dX7_send_24 (lv_at hl 0 rfl) ?_
    refine lv_if_eq (tgt := 56) hx hb dX7_send_26 (by decide) (fun c2 => ?_) (fun c2 => ?_)
    rotate_left
    · exact absurd c2 (by decide)
    refine lv_iconst (v := 0) hx hb dX7_send_56 (by decide) ?_
    refine lv_istore (lv' := [(5, .int 0), (4, .int 0), (0, .ref (ad 128)), (1, .int i), (2, .int j), (3, .int k)]) hx hb dX7_send_57 hl (by decide) rfl (fun ls hl => ?_)
    refine lv_aload_n hx hb dX7_send_59 rfl (lv_at hl 2 rfl) ?_
    refine lv_iload hx hb dX7_send_60 (lv_at hl 1 rfl) ?_
    refine lv_if_ne (tgt := 69) hx hb dX7_send_62 (by decide) (fun c3 => ?_) (fun c3 => ?_)
    · exact absurd c3 (by decide)
    refine lv_iconst (v := 1) hx hb dX7_send_65 (by decide) ?_
    refine lv_goto (tgt := 79) hx hb dX7_send_66 (by decide) ?_
    refine z_ci0 (z_runV (As := [.int 1]) (rest := []) M hw (zr_t hR 128 7 0 (by decide)) zc_X7_108 (c_X7_goesWell l base D cA ad ty I L P hR 1) hw.1 rfl rfl ⟨Nat.le_of_ble_eq_true rfl, Nat.le_of_ble_eq_true rfl⟩ ⟨Nat.le_of_ble_eq_true rfl, Nat.le_of_ble_eq_true rfl⟩ hl.1 (Nat.le_of_ble_eq_true rfl) dX7_send_79) hw (fun H locs hw => ?_)
    refine z_topi (y := 0) (zb_0 (by decide)) ?_
    have hpl : (if zlt i ns then (if zlt j nc ∧ zlt k (zRsp I j) then (if I 143 i.toNatClampNeg = 0 then (if zoi (zPl I (8 * j + k)) = -1 then 2 else 0) else 2) else 1) else 1) = 1 := by (try first | rw [if_pos c1] | rw [if_neg c1])
    refine lv_if_ne (tgt := 87) hx hb dX7_send_82 (by decide) (fun c4 => ?_) (fun c4 => ?_)
    · exact absurd c4 (by decide)
    refine lv_iconst (v := 0) hx hb dX7_send_85 (by decide) ?_
    exact z_iret hx hb hr (by rw [hpl]; rfl) rfl hw.2 (by rw [hpl]; exact hw.1) (Nat.le_of_ble_eq_true rfl) (Nat.le_of_ble_eq_true rfl) dX7_send_86 hlocks
  · skip
    have c1 := zb_ne0.mp c1
    refine lv_aload_n hx hb dX7_send_8 rfl (lv_at hl 0 rfl) ?_
    refine lv_iload_n hx hb dX7_send_9 rfl (lv_at hl 2 rfl) ?_
    refine lv_iload_n hx hb dX7_send_10 rfl (lv_at hl 3 rfl) ?_
    refine z_ci0 (z_runV (As := [.int j, .int k]) (rest := []) M hw (zr_t hR 128 7 0 (by decide)) zc_X7_117 (c_X7_isSpan l base D cA ad ty I L P hR nc hV.1.2.1 (by omega) (zRspan hV) j k) hw.1 rfl rfl ⟨Nat.le_of_ble_eq_true rfl, Nat.le_of_ble_eq_true rfl⟩ ⟨Nat.le_of_ble_eq_true rfl, Nat.le_of_ble_eq_true rfl⟩ hl.1 (Nat.le_of_ble_eq_true rfl) dX7_send_11) hw (fun H locs hw => ?_)
    refine lv_if_eq (tgt := 21) hx hb dX7_send_14 (by decide) (fun c5 => ?_) (fun c5 => ?_)
    · skip
      have c5 := zb_eq0.mp c5
      refine lv_iconst (v := 0) hx hb dX7_send_21 (by decide) ?_
      refine lv_istore (lv' := [(4, .int 0), (0, .ref (ad 128)), (1, .int i), (2, .int j), (3, .int k)]) hx hb dX7_send_22 hl (by decide) rfl (fun ls hl => ?_)
      refine lv_iload hx hb dX7_send_24 (lv_at hl 0 rfl) ?_
      refine lv_if_eq (tgt := 56) hx hb dX7_send_26 (by decide) (fun c6 => ?_) (fun c6 => ?_)
      rotate_left
      · exact absurd c6 (by decide)
      refine lv_iconst (v := 0) hx hb dX7_send_56 (by decide) ?_
      refine lv_istore (lv' := [(5, .int 0), (4, .int 0), (0, .ref (ad 128)), (1, .int i), (2, .int j), (3, .int k)]) hx hb dX7_send_57 hl (by decide) rfl (fun ls hl => ?_)
      refine lv_aload_n hx hb dX7_send_59 rfl (lv_at hl 2 rfl) ?_
      refine lv_iload hx hb dX7_send_60 (lv_at hl 1 rfl) ?_
      refine lv_if_ne (tgt := 69) hx hb dX7_send_62 (by decide) (fun c7 => ?_) (fun c7 => ?_)
      · exact absurd c7 (by decide)
      refine lv_iconst (v := 1) hx hb dX7_send_65 (by decide) ?_
      refine lv_goto (tgt := 79) hx hb dX7_send_66 (by decide) ?_
      refine z_ci0 (z_runV (As := [.int 1]) (rest := []) M hw (zr_t hR 128 7 0 (by decide)) zc_X7_108 (c_X7_goesWell l base D cA ad ty I L P hR 1) hw.1 rfl rfl ⟨Nat.le_of_ble_eq_true rfl, Nat.le_of_ble_eq_true rfl⟩ ⟨Nat.le_of_ble_eq_true rfl, Nat.le_of_ble_eq_true rfl⟩ hl.1 (Nat.le_of_ble_eq_true rfl) dX7_send_79) hw (fun H locs hw => ?_)
      refine z_topi (y := 0) (zb_0 (by decide)) ?_
      have hpl : (if zlt i ns then (if zlt j nc ∧ zlt k (zRsp I j) then (if I 143 i.toNatClampNeg = 0 then (if zoi (zPl I (8 * j + k)) = -1 then 2 else 0) else 2) else 1) else 1) = 1 := by (try first | rw [if_pos c1] | rw [if_neg c1]); (try first | rw [if_pos c5] | rw [if_neg c5])
      refine lv_if_ne (tgt := 87) hx hb dX7_send_82 (by decide) (fun c8 => ?_) (fun c8 => ?_)
      · exact absurd c8 (by decide)
      refine lv_iconst (v := 0) hx hb dX7_send_85 (by decide) ?_
      exact z_iret hx hb hr (by rw [hpl]; rfl) rfl hw.2 (by rw [hpl]; exact hw.1) (Nat.le_of_ble_eq_true rfl) (Nat.le_of_ble_eq_true rfl) dX7_send_86 hlocks
    · skip
      have c5 := zb_ne0.mp c5
      refine lv_iconst (v := 1) hx hb dX7_send_17 (by decide) ?_
      refine lv_goto (tgt := 22) hx hb dX7_send_18 (by decide) ?_
      refine lv_istore (lv' := [(4, .int 1), (0, .ref (ad 128)), (1, .int i), (2, .int j), (3, .int k)]) hx hb dX7_send_22 hl (by decide) rfl (fun ls hl => ?_)
      refine lv_iload hx hb dX7_send_24 (lv_at hl 0 rfl) ?_
      refine lv_if_eq (tgt := 56) hx hb dX7_send_26 (by decide) (fun c9 => ?_) (fun c9 => ?_)
      · exact absurd c9 (by decide)
      refine lv_aload_n hx hb dX7_send_29 rfl (lv_at hl 1 rfl) ?_
      refine z_getr M hw (zr_t hR 128 7 0 (by decide)) zf_X7_37 (zr_p hR 15 (by decide)) dX7_send_30 ?_
      refine lv_iload_n hx hb dX7_send_33 rfl (lv_at hl 2 rfl) ?_
      refine z_iNald M hw (zr_t hR 143 8 4 (by decide)) (zlt_nat c1).1 ⟨by have := (zlt_nat c1).2; omega, by omega⟩ dX7_send_34 ?_
      refine lv_if_ne (tgt := 56) hx hb dX7_send_35 (by decide) (fun c10 => ?_) (fun c10 => ?_)
      · skip
        refine lv_iconst (v := 0) hx hb dX7_send_56 (by decide) ?_
        refine lv_istore (lv' := [(5, .int 0), (4, .int 1), (0, .ref (ad 128)), (1, .int i), (2, .int j), (3, .int k)]) hx hb dX7_send_57 hl (by decide) rfl (fun ls hl => ?_)
        refine lv_aload_n hx hb dX7_send_59 rfl (lv_at hl 2 rfl) ?_
        refine lv_iload hx hb dX7_send_60 (lv_at hl 1 rfl) ?_
        refine lv_if_ne (tgt := 69) hx hb dX7_send_62 (by decide) (fun c11 => ?_) (fun c11 => ?_)
        rotate_left
        · exact absurd c11 (by decide)
        refine lv_iload hx hb dX7_send_69 (lv_at hl 0 rfl) ?_
        refine lv_if_eq (tgt := 78) hx hb dX7_send_71 (by decide) (fun c12 => ?_) (fun c12 => ?_)
        rotate_left
        · exact absurd c12 (by decide)
        refine lv_iconst (v := 2) hx hb dX7_send_78 (by decide) ?_
        refine z_ci0 (z_runV (As := [.int 2]) (rest := []) M hw (zr_t hR 128 7 0 (by decide)) zc_X7_108 (c_X7_goesWell l base D cA ad ty I L P hR 2) hw.1 rfl rfl ⟨Nat.le_of_ble_eq_true rfl, Nat.le_of_ble_eq_true rfl⟩ ⟨Nat.le_of_ble_eq_true rfl, Nat.le_of_ble_eq_true rfl⟩ hl.1 (Nat.le_of_ble_eq_true rfl) dX7_send_79) hw (fun H locs hw => ?_)
        refine z_topi (y := 0) (zb_0 (by decide)) ?_
        have hpl : (if zlt i ns then (if zlt j nc ∧ zlt k (zRsp I j) then (if I 143 i.toNatClampNeg = 0 then (if zoi (zPl I (8 * j + k)) = -1 then 2 else 0) else 2) else 1) else 1) = 2 := by (try first | rw [if_pos c1] | rw [if_neg c1]); (try first | rw [if_pos c5] | rw [if_neg c5]); (try first | rw [if_pos c10] | rw [if_neg c10])
        refine lv_if_ne (tgt := 87) hx hb dX7_send_82 (by decide) (fun c13 => ?_) (fun c13 => ?_)
        · exact absurd c13 (by decide)
        refine lv_iconst (v := 0) hx hb dX7_send_85 (by decide) ?_
        exact z_iret hx hb hr (by rw [hpl]; rfl) rfl hw.2 (by rw [hpl]; exact hw.1) (Nat.le_of_ble_eq_true rfl) (Nat.le_of_ble_eq_true rfl) dX7_send_86 hlocks
      · skip
        refine lv_aload_n hx hb dX7_send_38 rfl (lv_at hl 1 rfl) ?_
        refine lv_bipush (v := 8) hx hb dX7_send_39 (by decide) ?_
        refine lv_iload_n hx hb dX7_send_41 rfl (lv_at hl 3 rfl) ?_
        refine lv_imul hx hb dX7_send_42 ?_
        refine lv_iload_n hx hb dX7_send_43 rfl (lv_at hl 4 rfl) ?_
        refine lv_iadd hx hb dX7_send_44 ?_
        refine z_ci0 (z_runV (As := [.int ((8 * j) + k)]) (rest := []) M hw (zr_t hR 128 7 0 (by decide)) zc_X7_121 (c_X7_placeOf l base D cA ad ty I L P hR hV.2.1.1 hV.2.1.2 ((8 * j) + k)) hw.1 rfl rfl ⟨Nat.le_of_ble_eq_true rfl, Nat.le_of_ble_eq_true rfl⟩ ⟨Nat.le_of_ble_eq_true rfl, Nat.le_of_ble_eq_true rfl⟩ hl.1 (Nat.le_of_ble_eq_true rfl) dX7_send_45) hw (fun H locs hw => ?_)
        refine lv_iconst (v := (-1)) hx hb dX7_send_48 (by decide) ?_
        refine lv_icmp_eq (tgt := 56) hx hb dX7_send_49 (by decide) (fun c14 => ?_) (fun c14 => ?_)
        · skip
          refine lv_iconst (v := 0) hx hb dX7_send_56 (by decide) ?_
          refine lv_istore (lv' := [(5, .int 0), (4, .int 1), (0, .ref (ad 128)), (1, .int i), (2, .int j), (3, .int k)]) hx hb dX7_send_57 hl (by decide) rfl (fun ls hl => ?_)
          refine lv_aload_n hx hb dX7_send_59 rfl (lv_at hl 2 rfl) ?_
          refine lv_iload hx hb dX7_send_60 (lv_at hl 1 rfl) ?_
          refine lv_if_ne (tgt := 69) hx hb dX7_send_62 (by decide) (fun c15 => ?_) (fun c15 => ?_)
          rotate_left
          · exact absurd c15 (by decide)
          refine lv_iload hx hb dX7_send_69 (lv_at hl 0 rfl) ?_
          refine lv_if_eq (tgt := 78) hx hb dX7_send_71 (by decide) (fun c16 => ?_) (fun c16 => ?_)
          rotate_left
          · exact absurd c16 (by decide)
          refine lv_iconst (v := 2) hx hb dX7_send_78 (by decide) ?_
          refine z_ci0 (z_runV (As := [.int 2]) (rest := []) M hw (zr_t hR 128 7 0 (by decide)) zc_X7_108 (c_X7_goesWell l base D cA ad ty I L P hR 2) hw.1 rfl rfl ⟨Nat.le_of_ble_eq_true rfl, Nat.le_of_ble_eq_true rfl⟩ ⟨Nat.le_of_ble_eq_true rfl, Nat.le_of_ble_eq_true rfl⟩ hl.1 (Nat.le_of_ble_eq_true rfl) dX7_send_79) hw (fun H locs hw => ?_)
          refine z_topi (y := 0) (zb_0 (by decide)) ?_
          have hpl : (if zlt i ns then (if zlt j nc ∧ zlt k (zRsp I j) then (if I 143 i.toNatClampNeg = 0 then (if zoi (zPl I (8 * j + k)) = -1 then 2 else 0) else 2) else 1) else 1) = 2 := by (try first | rw [if_pos c1] | rw [if_neg c1]); (try first | rw [if_pos c5] | rw [if_neg c5]); (try first | rw [if_pos c10] | rw [if_neg c10]); (try first | rw [if_pos c14] | rw [if_neg c14])
          refine lv_if_ne (tgt := 87) hx hb dX7_send_82 (by decide) (fun c17 => ?_) (fun c17 => ?_)
          · exact absurd c17 (by decide)
          refine lv_iconst (v := 0) hx hb dX7_send_85 (by decide) ?_
          exact z_iret hx hb hr (by rw [hpl]; rfl) rfl hw.2 (by rw [hpl]; exact hw.1) (Nat.le_of_ble_eq_true rfl) (Nat.le_of_ble_eq_true rfl) dX7_send_86 hlocks
        · skip
          refine lv_iconst (v := 1) hx hb dX7_send_52 (by decide) ?_
          refine lv_goto (tgt := 57) hx hb dX7_send_53 (by decide) ?_
          refine lv_istore (lv' := [(5, .int 1), (4, .int 1), (0, .ref (ad 128)), (1, .int i), (2, .int j), (3, .int k)]) hx hb dX7_send_57 hl (by decide) rfl (fun ls hl => ?_)
          refine lv_aload_n hx hb dX7_send_59 rfl (lv_at hl 2 rfl) ?_
          refine lv_iload hx hb dX7_send_60 (lv_at hl 1 rfl) ?_
          refine lv_if_ne (tgt := 69) hx hb dX7_send_62 (by decide) (fun c18 => ?_) (fun c18 => ?_)
          rotate_left
          · exact absurd c18 (by decide)
          refine lv_iload hx hb dX7_send_69 (lv_at hl 0 rfl) ?_
          refine lv_if_eq (tgt := 78) hx hb dX7_send_71 (by decide) (fun c19 => ?_) (fun c19 => ?_)
          · exact absurd c19 (by decide)
          refine lv_iconst (v := 0) hx hb dX7_send_74 (by decide) ?_
          refine lv_goto (tgt := 79) hx hb dX7_send_75 (by decide) ?_
          refine z_ci0 (z_runV (As := [.int 0]) (rest := []) M hw (zr_t hR 128 7 0 (by decide)) zc_X7_108 (c_X7_goesWell l base D cA ad ty I L P hR 0) hw.1 rfl rfl ⟨Nat.le_of_ble_eq_true rfl, Nat.le_of_ble_eq_true rfl⟩ ⟨Nat.le_of_ble_eq_true rfl, Nat.le_of_ble_eq_true rfl⟩ hl.1 (Nat.le_of_ble_eq_true rfl) dX7_send_79) hw (fun H locs hw => ?_)
          refine z_topi (y := 1) (zb_1 (by decide)) ?_
          have hpl : (if zlt i ns then (if zlt j nc ∧ zlt k (zRsp I j) then (if I 143 i.toNatClampNeg = 0 then (if zoi (zPl I (8 * j + k)) = -1 then 2 else 0) else 2) else 1) else 1) = 0 := by (try first | rw [if_pos c1] | rw [if_neg c1]); (try first | rw [if_pos c5] | rw [if_neg c5]); (try first | rw [if_pos c10] | rw [if_neg c10]); (try first | rw [if_pos c14] | rw [if_neg c14])
          have hVZ : zRv ni nc ns nt (zu I 128 0 0) := zRv_zu (by unfold zRl; omega) hV
          have qi := (zlt_nat c1).2
          rw [(zlt_nat c1).1] at hl
          have qj := (zlt_nat c5.1).2
          rw [(zlt_nat c5.1).1] at hl
          refine lv_if_ne (tgt := 87) hx hb dX7_send_82 (by decide) (fun c20 => ?_) (fun c20 => ?_)
          rotate_left
          · exact absurd c20 (by decide)
          refine lv_aload_n hx hb dX7_send_87 rfl (lv_at hl 2 rfl) ?_
          refine lv_iload_n hx hb dX7_send_88 rfl (lv_at hl 3 rfl) ?_
          refine lv_aload_n hx hb dX7_send_89 rfl (lv_at hl 2 rfl) ?_
          refine z_getr M hw (zr_t hR 128 7 0 (by decide)) zf_X7_7 (zr_p hR 3 (by decide)) dX7_send_90 ?_
          refine lv_aload_n hx hb dX7_send_93 rfl (lv_at hl 2 rfl) ?_
          refine z_getr M hw (zr_t hR 128 7 0 (by decide)) zf_X7_16 (zr_p hR 6 (by decide)) dX7_send_94 ?_
          refine lv_iload_n hx hb dX7_send_97 rfl (lv_at hl 4 rfl) ?_
          refine z_iNald M hw (zr_t hR 134 8 16 (by decide)) rfl ⟨by omega, by omega⟩ dX7_send_98 ?_
          refine z_topi (y := I 134 j.toNatClampNeg) (by rw [zu_ne _ _ (by omega)]) ?_
          refine z_topi (y := nI a) (ea c5.1) ?_
          refine z_iNald M hw (zr_t hR 131 8 10 (by decide)) rfl ⟨ha c5.1, by omega⟩ dX7_send_99 ?_
          refine z_topi (y := I 131 a) (by rw [zu_ne _ _ (by omega)]) ?_
          refine lv_aload_n hx hb dX7_send_100 rfl (lv_at hl 2 rfl) ?_
          refine z_getr M hw (zr_t hR 128 7 0 (by decide)) zf_X7_7 (zr_p hR 3 (by decide)) dX7_send_101 ?_
          refine lv_aload_n hx hb dX7_send_104 rfl (lv_at hl 2 rfl) ?_
          refine z_getr M hw (zr_t hR 128 7 0 (by decide)) zf_X7_19 (zr_p hR 7 (by decide)) dX7_send_105 ?_
          refine lv_iload_n hx hb dX7_send_108 rfl (lv_at hl 4 rfl) ?_
          refine z_iNald M hw (zr_t hR 135 8 16 (by decide)) rfl ⟨by omega, by omega⟩ dX7_send_109 ?_
          refine z_topi (y := I 135 j.toNatClampNeg) (by rw [zu_ne _ _ (by omega)]) ?_
          refine z_topi (y := nI b) (eb c5.1) ?_
          refine z_iNald M hw (zr_t hR 131 8 10 (by decide)) rfl ⟨hb0 c5.1, by omega⟩ dX7_send_110 ?_
          refine z_topi (y := I 131 b) (by rw [zu_ne _ _ (by omega)]) ?_
          refine lv_iload_n hx hb dX7_send_111 rfl (lv_at hl 5 rfl) ?_
          refine lv_aload_n hx hb dX7_send_112 rfl (lv_at hl 2 rfl) ?_
          refine z_getr M hw (zr_t hR 128 7 0 (by decide)) zf_X7_22 (zr_p hR 8 (by decide)) dX7_send_113 ?_
          refine lv_iload_n hx hb dX7_send_116 rfl (lv_at hl 4 rfl) ?_
          refine z_iNald M hw (zr_t hR 136 8 16 (by decide)) rfl ⟨by omega, by omega⟩ dX7_send_117 ?_
          refine z_topi (y := I 136 j.toNatClampNeg) (by rw [zu_ne _ _ (by omega)]) ?_
          refine z_ci0 (z_runS (As := [.int (I 131 a), .int (I 131 b), .int k, .int (I 136 j.toNatClampNeg)]) (rest := [.int (nI i.toNatClampNeg), .ref (ad 128)]) M hw.2 zc_X7_135 (c_X7_between l base D cA ad ty (zu I 128 0 0) L P (I 131 a) (I 131 b) k (I 136 j.toNatClampNeg) (zR2n hV qj)) hw.1 rfl rfl ⟨Nat.le_of_ble_eq_true rfl, Nat.le_of_ble_eq_true rfl⟩ ⟨Nat.le_of_ble_eq_true rfl, Nat.le_of_ble_eq_true rfl⟩ hl.1 (Nat.le_of_ble_eq_true rfl) dX7_send_118) hw (fun H locs hw => ?_)
          refine lv_aload_n hx hb dX7_send_121 rfl (lv_at hl 2 rfl) ?_
          refine z_getr M hw (zr_t hR 128 7 0 (by decide)) zf_X7_13 (zr_p hR 4 (by decide)) dX7_send_122 ?_
          refine lv_aload_n hx hb dX7_send_125 rfl (lv_at hl 2 rfl) ?_
          refine z_getr M hw (zr_t hR 128 7 0 (by decide)) zf_X7_16 (zr_p hR 6 (by decide)) dX7_send_126 ?_
          refine lv_iload_n hx hb dX7_send_129 rfl (lv_at hl 4 rfl) ?_
          refine z_iNald M hw (zr_t hR 134 8 16 (by decide)) rfl ⟨by omega, by omega⟩ dX7_send_130 ?_
          refine z_topi (y := I 134 j.toNatClampNeg) (by rw [zu_ne _ _ (by omega)]) ?_
          refine z_topi (y := nI a) (ea c5.1) ?_
          refine z_iNald M hw (zr_t hR 132 8 10 (by decide)) rfl ⟨ha c5.1, by omega⟩ dX7_send_131 ?_
          refine z_topi (y := I 132 a) (by rw [zu_ne _ _ (by omega)]) ?_
          refine lv_aload_n hx hb dX7_send_132 rfl (lv_at hl 2 rfl) ?_
          refine z_getr M hw (zr_t hR 128 7 0 (by decide)) zf_X7_13 (zr_p hR 4 (by decide)) dX7_send_133 ?_
          refine lv_aload_n hx hb dX7_send_136 rfl (lv_at hl 2 rfl) ?_
          refine z_getr M hw (zr_t hR 128 7 0 (by decide)) zf_X7_19 (zr_p hR 7 (by decide)) dX7_send_137 ?_
          refine lv_iload_n hx hb dX7_send_140 rfl (lv_at hl 4 rfl) ?_
          refine z_iNald M hw (zr_t hR 135 8 16 (by decide)) rfl ⟨by omega, by omega⟩ dX7_send_141 ?_
          refine z_topi (y := I 135 j.toNatClampNeg) (by rw [zu_ne _ _ (by omega)]) ?_
          refine z_topi (y := nI b) (eb c5.1) ?_
          refine z_iNald M hw (zr_t hR 132 8 10 (by decide)) rfl ⟨hb0 c5.1, by omega⟩ dX7_send_142 ?_
          refine z_topi (y := I 132 b) (by rw [zu_ne _ _ (by omega)]) ?_
          refine lv_iload_n hx hb dX7_send_143 rfl (lv_at hl 5 rfl) ?_
          refine lv_aload_n hx hb dX7_send_144 rfl (lv_at hl 2 rfl) ?_
          refine z_getr M hw (zr_t hR 128 7 0 (by decide)) zf_X7_22 (zr_p hR 8 (by decide)) dX7_send_145 ?_
          refine lv_iload_n hx hb dX7_send_148 rfl (lv_at hl 4 rfl) ?_
          refine z_iNald M hw (zr_t hR 136 8 16 (by decide)) rfl ⟨by omega, by omega⟩ dX7_send_149 ?_
          refine z_topi (y := I 136 j.toNatClampNeg) (by rw [zu_ne _ _ (by omega)]) ?_
          refine z_ci0 (z_runS (As := [.int (I 132 a), .int (I 132 b), .int k, .int (I 136 j.toNatClampNeg)]) (rest := [.int (zPlace k (I 131 a) (I 131 b) (I 136 j.toNatClampNeg)), .int (nI i.toNatClampNeg), .ref (ad 128)]) M hw.2 zc_X7_135 (c_X7_between l base D cA ad ty (zu I 128 0 0) L P (I 132 a) (I 132 b) k (I 136 j.toNatClampNeg) (zR2n hV qj)) hw.1 rfl rfl ⟨Nat.le_of_ble_eq_true rfl, Nat.le_of_ble_eq_true rfl⟩ ⟨Nat.le_of_ble_eq_true rfl, Nat.le_of_ble_eq_true rfl⟩ hl.1 (Nat.le_of_ble_eq_true rfl) dX7_send_150) hw (fun H locs hw => ?_)
          refine lv_bipush (v := 8) hx hb dX7_send_153 (by decide) ?_
          refine lv_iload_n hx hb dX7_send_155 rfl (lv_at hl 4 rfl) ?_
          refine lv_imul hx hb dX7_send_156 ?_
          refine lv_iload_n hx hb dX7_send_157 rfl (lv_at hl 5 rfl) ?_
          refine lv_iadd hx hb dX7_send_158 ?_
          refine z_ci0 (z_runV (As := [.int (nI i.toNatClampNeg), .int (zPlace k (I 131 a) (I 131 b) (I 136 j.toNatClampNeg)), .int (zPlace k (I 132 a) (I 132 b) (I 136 j.toNatClampNeg)), .int ((8 * (nI j.toNatClampNeg)) + k)]) (rest := []) M hw (zr_t hR 128 7 0 (by decide)) zc_X7_139 (c_X7_sail l base D cA ad ty (zu I 128 0 0) L P hR hVZ.2.1.1 hVZ.2.1.2 i.toNatClampNeg (by omega) (zPlace k (I 131 a) (I 131 b) (I 136 j.toNatClampNeg)) (zPlace k (I 132 a) (I 132 b) (I 136 j.toNatClampNeg)) ((8 * (nI j.toNatClampNeg)) + k) (zRsp0 hVZ qi)) hw.1 rfl rfl ⟨Nat.le_of_ble_eq_true rfl, Nat.le_of_ble_eq_true rfl⟩ ⟨Nat.le_of_ble_eq_true rfl, Nat.le_of_ble_eq_true rfl⟩ hl.1 (Nat.le_of_ble_eq_true rfl) dX7_send_159) hw (fun H locs hw => ?_)
          exact z_iret hx hb hr (by rw [hpl]; rfl) rfl hw.2 (by rw [hpl]; exact hw.1) (Nat.le_of_ble_eq_true rfl) (Nat.le_of_ble_eq_true rfl) dX7_send_162 hlocks
set_option maxHeartbeats 4000000 in
set_option maxRecDepth 100000 in
theorem c_X7_trader (l : Launch) (base : Nat) (D : va_G) (cA : Nat → ClassId) (ad : Nat → Nat) (ty : zTyp) (I : zIt) (L : zLt) (P : zPt) (hR : zref ty P) (ni nc ns nt : Nat) (hbd : zRbd ni nc ns nt) (hV : zRv ni nc ns nt I) (i j k x y w : Int32) : zMi l base D cA yX7_trader cX7_trader 9 .int 2 43 0 0 [.ref (ad 128), .int i, .int j, .int k, .int x, .int y, .int w] (zW base D cA ad ty I L P) (if (if zlt i ni then (if zlt j ni then (if i = j then 2 else if zin k 1 5000 then (if zin x 0 9999 then (if zin y 0 9999 then (if zin w 0 1000000 then (if nI nt = 12 then 3 else 0) else 2) else 2) else 2) else 2) else 1) else 1) = 0 then nI nt else 0) (zW base D cA ad ty (if (if zlt i ni then (if zlt j ni then (if i = j then 2 else if zin k 1 5000 then (if zin x 0 9999 then (if zin y 0 9999 then (if zin w 0 1000000 then (if nI nt = 12 then 3 else 0) else 2) else 2) else 2) else 2) else 1) else 1) = 0 then (zu (zu (zu (zu (zu (zu (zu (zu I 128 0 0) 150 nt i) 151 nt j) 152 nt k) 153 nt x) 154 nt y) 155 nt w) 128 21 (nI (nt + 1))) else zu I 128 0 (nI (if zlt i ni then (if zlt j ni then (if i = j then 2 else if zin k 1 5000 then (if zin x 0 9999 then (if zin y 0 9999 then (if zin w 0 1000000 then (if nI nt = 12 then 3 else 0) else 2) else 2) else 2) else 2) else 1) else 1))) L P) := by
  refine z_start (by decide +kernel) (Nat.le_of_ble_eq_true rfl) fun p e s m below meth c ls M hP hS hl hr hlocks hnm => ?_
  have M : zM p s m c cX7_trader RX7 9 base D cA := M
  have hw : zH base D cA s s.heap [] ad ty I L P := ⟨hP, hS⟩
  obtain ⟨hx, hb, -⟩ := id M
  have hl : lv_has ls 9 [(0, .ref (ad 128)), (1, .int i), (2, .int j), (3, .int k), (4, .int x), (5, .int y), (6, .int w)] := hl
  obtain ⟨hb1, hb2, hb3, hb4⟩ := id hbd
  refine lv_aload_n hx hb dX7_trader_0 rfl (lv_at hl 0 rfl) ?_
  refine lv_iload_n hx hb dX7_trader_1 rfl (lv_at hl 1 rfl) ?_
  refine z_ci0 (z_runV (As := [.int i]) (rest := []) M hw (zr_t hR 128 7 0 (by decide)) zc_X7_111 (c_X7_isIsland l base D cA ad ty I L P hR ni hV.1.1 (by omega) i) hw.1 rfl rfl ⟨Nat.le_of_ble_eq_true rfl, Nat.le_of_ble_eq_true rfl⟩ ⟨Nat.le_of_ble_eq_true rfl, Nat.le_of_ble_eq_true rfl⟩ hl.1 (Nat.le_of_ble_eq_true rfl) dX7_trader_2) hw (fun H locs hw => ?_)
  refine lv_if_eq (tgt := 20) hx hb dX7_trader_5 (by decide) (fun c1 => ?_) (fun c1 => ?_)
  · skip
    have c1 := zb_eq0.mp c1
    refine lv_iconst (v := 0) hx hb dX7_trader_20 (by decide) ?_
    refine lv_istore (lv' := [(7, .int 0), (0, .ref (ad 128)), (1, .int i), (2, .int j), (3, .int k), (4, .int x), (5, .int y), (6, .int w)]) hx hb dX7_trader_21 hl (by decide) rfl (fun ls hl => ?_)
    refine lv_iload_n hx hb dX7_trader_23 rfl (lv_at hl 2 rfl) ?_
    refine lv_iload_n hx hb dX7_trader_24 rfl (lv_at hl 3 rfl) ?_
    refine lv_icmp_eq (tgt := 78) hx hb dX7_trader_25 (by decide) (fun c2 => ?_) (fun c2 => ?_)
    · skip
      refine lv_iconst (v := 0) hx hb dX7_trader_78 (by decide) ?_
      refine lv_istore (lv' := [(8, .int 0), (7, .int 0), (0, .ref (ad 128)), (1, .int i), (2, .int j), (3, .int k), (4, .int x), (5, .int y), (6, .int w)]) hx hb dX7_trader_79 hl (by decide) rfl (fun ls hl => ?_)
      refine lv_aload_n hx hb dX7_trader_81 rfl (lv_at hl 2 rfl) ?_
      refine lv_iload hx hb dX7_trader_82 (lv_at hl 1 rfl) ?_
      refine lv_if_ne (tgt := 91) hx hb dX7_trader_84 (by decide) (fun c3 => ?_) (fun c3 => ?_)
      · exact absurd c3 (by decide)
      refine lv_iconst (v := 1) hx hb dX7_trader_87 (by decide) ?_
      refine lv_goto (tgt := 114) hx hb dX7_trader_88 (by decide) ?_
      refine z_ci0 (z_runV (As := [.int 1]) (rest := []) M hw (zr_t hR 128 7 0 (by decide)) zc_X7_108 (c_X7_goesWell l base D cA ad ty I L P hR 1) hw.1 rfl rfl ⟨Nat.le_of_ble_eq_true rfl, Nat.le_of_ble_eq_true rfl⟩ ⟨Nat.le_of_ble_eq_true rfl, Nat.le_of_ble_eq_true rfl⟩ hl.1 (Nat.le_of_ble_eq_true rfl) dX7_trader_114) hw (fun H locs hw => ?_)
      refine z_topi (y := 0) (zb_0 (by decide)) ?_
      have hpl : (if zlt i ni then (if zlt j ni then (if i = j then 2 else if zin k 1 5000 then (if zin x 0 9999 then (if zin y 0 9999 then (if zin w 0 1000000 then (if nI nt = 12 then 3 else 0) else 2) else 2) else 2) else 2) else 1) else 1) = 1 := by (try first | rw [if_pos c1] | rw [if_neg c1]); (try first | rw [if_pos c2] | rw [if_neg c2])
      refine lv_if_ne (tgt := 122) hx hb dX7_trader_117 (by decide) (fun c4 => ?_) (fun c4 => ?_)
      · exact absurd c4 (by decide)
      refine lv_iconst (v := 0) hx hb dX7_trader_120 (by decide) ?_
      exact z_iret hx hb hr (by rw [hpl]; rfl) rfl hw.2 (by rw [hpl]; exact hw.1) (Nat.le_of_ble_eq_true rfl) (Nat.le_of_ble_eq_true rfl) dX7_trader_121 hlocks
    · skip
      refine lv_iload_n hx hb dX7_trader_28 rfl (lv_at hl 4 rfl) ?_
      refine lv_iconst (v := 1) hx hb dX7_trader_29 (by decide) ?_
      refine lv_sipush (v := 5000) hx hb dX7_trader_30 (by decide) ?_
      refine z_ci0 (z_runS (As := [.int k, .int 1, .int 5000]) (rest := []) M hw.2 zc_X7_91 (c_X7_in l base D cA ad ty I L P k 1 5000) hw.1 rfl rfl ⟨Nat.le_of_ble_eq_true rfl, Nat.le_of_ble_eq_true rfl⟩ ⟨Nat.le_of_ble_eq_true rfl, Nat.le_of_ble_eq_true rfl⟩ hl.1 (Nat.le_of_ble_eq_true rfl) dX7_trader_33) hw (fun H locs hw => ?_)
      refine lv_if_eq (tgt := 78) hx hb dX7_trader_36 (by decide) (fun c5 => ?_) (fun c5 => ?_)
      · skip
        have c5 := zb_eq0.mp c5
        refine lv_iconst (v := 0) hx hb dX7_trader_78 (by decide) ?_
        refine lv_istore (lv' := [(8, .int 0), (7, .int 0), (0, .ref (ad 128)), (1, .int i), (2, .int j), (3, .int k), (4, .int x), (5, .int y), (6, .int w)]) hx hb dX7_trader_79 hl (by decide) rfl (fun ls hl => ?_)
        refine lv_aload_n hx hb dX7_trader_81 rfl (lv_at hl 2 rfl) ?_
        refine lv_iload hx hb dX7_trader_82 (lv_at hl 1 rfl) ?_
        refine lv_if_ne (tgt := 91) hx hb dX7_trader_84 (by decide) (fun c6 => ?_) (fun c6 => ?_)
        · exact absurd c6 (by decide)
        refine lv_iconst (v := 1) hx hb dX7_trader_87 (by decide) ?_
        refine lv_goto (tgt := 114) hx hb dX7_trader_88 (by decide) ?_
        refine z_ci0 (z_runV (As := [.int 1]) (rest := []) M hw (zr_t hR 128 7 0 (by decide)) zc_X7_108 (c_X7_goesWell l base D cA ad ty I L P hR 1) hw.1 rfl rfl ⟨Nat.le_of_ble_eq_true rfl, Nat.le_of_ble_eq_true rfl⟩ ⟨Nat.le_of_ble_eq_true rfl, Nat.le_of_ble_eq_true rfl⟩ hl.1 (Nat.le_of_ble_eq_true rfl) dX7_trader_114) hw (fun H locs hw => ?_)
        refine z_topi (y := 0) (zb_0 (by decide)) ?_
        have hpl : (if zlt i ni then (if zlt j ni then (if i = j then 2 else if zin k 1 5000 then (if zin x 0 9999 then (if zin y 0 9999 then (if zin w 0 1000000 then (if nI nt = 12 then 3 else 0) else 2) else 2) else 2) else 2) else 1) else 1) = 1 := by (try first | rw [if_pos c1] | rw [if_neg c1]); (try first | rw [if_pos c2] | rw [if_neg c2]); (try first | rw [if_pos c5] | rw [if_neg c5])
        refine lv_if_ne (tgt := 122) hx hb dX7_trader_117 (by decide) (fun c7 => ?_) (fun c7 => ?_)
        · exact absurd c7 (by decide)
        refine lv_iconst (v := 0) hx hb dX7_trader_120 (by decide) ?_
        exact z_iret hx hb hr (by rw [hpl]; rfl) rfl hw.2 (by rw [hpl]; exact hw.1) (Nat.le_of_ble_eq_true rfl) (Nat.le_of_ble_eq_true rfl) dX7_trader_121 hlocks
      · skip
        have c5 := zb_ne0.mp c5
        refine lv_iload hx hb dX7_trader_39 (lv_at hl 5 rfl) ?_
        refine lv_iconst (v := 0) hx hb dX7_trader_41 (by decide) ?_
        refine lv_sipush (v := 9999) hx hb dX7_trader_42 (by decide) ?_
        refine z_ci0 (z_runS (As := [.int x, .int 0, .int 9999]) (rest := []) M hw.2 zc_X7_91 (c_X7_in l base D cA ad ty I L P x 0 9999) hw.1 rfl rfl ⟨Nat.le_of_ble_eq_true rfl, Nat.le_of_ble_eq_true rfl⟩ ⟨Nat.le_of_ble_eq_true rfl, Nat.le_of_ble_eq_true rfl⟩ hl.1 (Nat.le_of_ble_eq_true rfl) dX7_trader_45) hw (fun H locs hw => ?_)
        refine lv_if_eq (tgt := 78) hx hb dX7_trader_48 (by decide) (fun c8 => ?_) (fun c8 => ?_)
        · skip
          have c8 := zb_eq0.mp c8
          refine lv_iconst (v := 0) hx hb dX7_trader_78 (by decide) ?_
          refine lv_istore (lv' := [(8, .int 0), (7, .int 0), (0, .ref (ad 128)), (1, .int i), (2, .int j), (3, .int k), (4, .int x), (5, .int y), (6, .int w)]) hx hb dX7_trader_79 hl (by decide) rfl (fun ls hl => ?_)
          refine lv_aload_n hx hb dX7_trader_81 rfl (lv_at hl 2 rfl) ?_
          refine lv_iload hx hb dX7_trader_82 (lv_at hl 1 rfl) ?_
          refine lv_if_ne (tgt := 91) hx hb dX7_trader_84 (by decide) (fun c9 => ?_) (fun c9 => ?_)
          · exact absurd c9 (by decide)
          refine lv_iconst (v := 1) hx hb dX7_trader_87 (by decide) ?_
          refine lv_goto (tgt := 114) hx hb dX7_trader_88 (by decide) ?_
          refine z_ci0 (z_runV (As := [.int 1]) (rest := []) M hw (zr_t hR 128 7 0 (by decide)) zc_X7_108 (c_X7_goesWell l base D cA ad ty I L P hR 1) hw.1 rfl rfl ⟨Nat.le_of_ble_eq_true rfl, Nat.le_of_ble_eq_true rfl⟩ ⟨Nat.le_of_ble_eq_true rfl, Nat.le_of_ble_eq_true rfl⟩ hl.1 (Nat.le_of_ble_eq_true rfl) dX7_trader_114) hw (fun H locs hw => ?_)
          refine z_topi (y := 0) (zb_0 (by decide)) ?_
          have hpl : (if zlt i ni then (if zlt j ni then (if i = j then 2 else if zin k 1 5000 then (if zin x 0 9999 then (if zin y 0 9999 then (if zin w 0 1000000 then (if nI nt = 12 then 3 else 0) else 2) else 2) else 2) else 2) else 1) else 1) = 1 := by (try first | rw [if_pos c1] | rw [if_neg c1]); (try first | rw [if_pos c2] | rw [if_neg c2]); (try first | rw [if_pos c5] | rw [if_neg c5]); (try first | rw [if_pos c8] | rw [if_neg c8])
          refine lv_if_ne (tgt := 122) hx hb dX7_trader_117 (by decide) (fun c10 => ?_) (fun c10 => ?_)
          · exact absurd c10 (by decide)
          refine lv_iconst (v := 0) hx hb dX7_trader_120 (by decide) ?_
          exact z_iret hx hb hr (by rw [hpl]; rfl) rfl hw.2 (by rw [hpl]; exact hw.1) (Nat.le_of_ble_eq_true rfl) (Nat.le_of_ble_eq_true rfl) dX7_trader_121 hlocks
        · skip
          have c8 := zb_ne0.mp c8
          refine lv_iload hx hb dX7_trader_51 (lv_at hl 6 rfl) ?_
          refine lv_iconst (v := 0) hx hb dX7_trader_53 (by decide) ?_
          refine lv_sipush (v := 9999) hx hb dX7_trader_54 (by decide) ?_
          refine z_ci0 (z_runS (As := [.int y, .int 0, .int 9999]) (rest := []) M hw.2 zc_X7_91 (c_X7_in l base D cA ad ty I L P y 0 9999) hw.1 rfl rfl ⟨Nat.le_of_ble_eq_true rfl, Nat.le_of_ble_eq_true rfl⟩ ⟨Nat.le_of_ble_eq_true rfl, Nat.le_of_ble_eq_true rfl⟩ hl.1 (Nat.le_of_ble_eq_true rfl) dX7_trader_57) hw (fun H locs hw => ?_)
          refine lv_if_eq (tgt := 78) hx hb dX7_trader_60 (by decide) (fun c11 => ?_) (fun c11 => ?_)
          · skip
            have c11 := zb_eq0.mp c11
            refine lv_iconst (v := 0) hx hb dX7_trader_78 (by decide) ?_
            refine lv_istore (lv' := [(8, .int 0), (7, .int 0), (0, .ref (ad 128)), (1, .int i), (2, .int j), (3, .int k), (4, .int x), (5, .int y), (6, .int w)]) hx hb dX7_trader_79 hl (by decide) rfl (fun ls hl => ?_)
            refine lv_aload_n hx hb dX7_trader_81 rfl (lv_at hl 2 rfl) ?_
            refine lv_iload hx hb dX7_trader_82 (lv_at hl 1 rfl) ?_
            refine lv_if_ne (tgt := 91) hx hb dX7_trader_84 (by decide) (fun c12 => ?_) (fun c12 => ?_)
            · exact absurd c12 (by decide)
            refine lv_iconst (v := 1) hx hb dX7_trader_87 (by decide) ?_
            refine lv_goto (tgt := 114) hx hb dX7_trader_88 (by decide) ?_
            refine z_ci0 (z_runV (As := [.int 1]) (rest := []) M hw (zr_t hR 128 7 0 (by decide)) zc_X7_108 (c_X7_goesWell l base D cA ad ty I L P hR 1) hw.1 rfl rfl ⟨Nat.le_of_ble_eq_true rfl, Nat.le_of_ble_eq_true rfl⟩ ⟨Nat.le_of_ble_eq_true rfl, Nat.le_of_ble_eq_true rfl⟩ hl.1 (Nat.le_of_ble_eq_true rfl) dX7_trader_114) hw (fun H locs hw => ?_)
            refine z_topi (y := 0) (zb_0 (by decide)) ?_
            have hpl : (if zlt i ni then (if zlt j ni then (if i = j then 2 else if zin k 1 5000 then (if zin x 0 9999 then (if zin y 0 9999 then (if zin w 0 1000000 then (if nI nt = 12 then 3 else 0) else 2) else 2) else 2) else 2) else 1) else 1) = 1 := by (try first | rw [if_pos c1] | rw [if_neg c1]); (try first | rw [if_pos c2] | rw [if_neg c2]); (try first | rw [if_pos c5] | rw [if_neg c5]); (try first | rw [if_pos c8] | rw [if_neg c8]); (try first | rw [if_pos c11] | rw [if_neg c11])
            refine lv_if_ne (tgt := 122) hx hb dX7_trader_117 (by decide) (fun c13 => ?_) (fun c13 => ?_)
            · exact absurd c13 (by decide)
            refine lv_iconst (v := 0) hx hb dX7_trader_120 (by decide) ?_
            exact z_iret hx hb hr (by rw [hpl]; rfl) rfl hw.2 (by rw [hpl]; exact hw.1) (Nat.le_of_ble_eq_true rfl) (Nat.le_of_ble_eq_true rfl) dX7_trader_121 hlocks
          · skip
            have c11 := zb_ne0.mp c11
            refine lv_iload hx hb dX7_trader_63 (lv_at hl 7 rfl) ?_
            refine lv_iconst (v := 0) hx hb dX7_trader_65 (by decide) ?_
            refine lv_ldc (v := 1000000) hx hb M.2.2.2.1 (M.2.2.2.2.1.use (tb 829 (by decide +kernel)) rfl) dX7_trader_66 ?_
            refine z_ci0 (z_runS (As := [.int w, .int 0, .int 1000000]) (rest := []) M hw.2 zc_X7_91 (c_X7_in l base D cA ad ty I L P w 0 1000000) hw.1 rfl rfl ⟨Nat.le_of_ble_eq_true rfl, Nat.le_of_ble_eq_true rfl⟩ ⟨Nat.le_of_ble_eq_true rfl, Nat.le_of_ble_eq_true rfl⟩ hl.1 (Nat.le_of_ble_eq_true rfl) dX7_trader_68) hw (fun H locs hw => ?_)
            refine lv_if_eq (tgt := 78) hx hb dX7_trader_71 (by decide) (fun c14 => ?_) (fun c14 => ?_)
            · skip
              have c14 := zb_eq0.mp c14
              refine lv_iconst (v := 0) hx hb dX7_trader_78 (by decide) ?_
              refine lv_istore (lv' := [(8, .int 0), (7, .int 0), (0, .ref (ad 128)), (1, .int i), (2, .int j), (3, .int k), (4, .int x), (5, .int y), (6, .int w)]) hx hb dX7_trader_79 hl (by decide) rfl (fun ls hl => ?_)
              refine lv_aload_n hx hb dX7_trader_81 rfl (lv_at hl 2 rfl) ?_
              refine lv_iload hx hb dX7_trader_82 (lv_at hl 1 rfl) ?_
              refine lv_if_ne (tgt := 91) hx hb dX7_trader_84 (by decide) (fun c15 => ?_) (fun c15 => ?_)
              · exact absurd c15 (by decide)
              refine lv_iconst (v := 1) hx hb dX7_trader_87 (by decide) ?_
              refine lv_goto (tgt := 114) hx hb dX7_trader_88 (by decide) ?_
              refine z_ci0 (z_runV (As := [.int 1]) (rest := []) M hw (zr_t hR 128 7 0 (by decide)) zc_X7_108 (c_X7_goesWell l base D cA ad ty I L P hR 1) hw.1 rfl rfl ⟨Nat.le_of_ble_eq_true rfl, Nat.le_of_ble_eq_true rfl⟩ ⟨Nat.le_of_ble_eq_true rfl, Nat.le_of_ble_eq_true rfl⟩ hl.1 (Nat.le_of_ble_eq_true rfl) dX7_trader_114) hw (fun H locs hw => ?_)
              refine z_topi (y := 0) (zb_0 (by decide)) ?_
              have hpl : (if zlt i ni then (if zlt j ni then (if i = j then 2 else if zin k 1 5000 then (if zin x 0 9999 then (if zin y 0 9999 then (if zin w 0 1000000 then (if nI nt = 12 then 3 else 0) else 2) else 2) else 2) else 2) else 1) else 1) = 1 := by (try first | rw [if_pos c1] | rw [if_neg c1]); (try first | rw [if_pos c2] | rw [if_neg c2]); (try first | rw [if_pos c5] | rw [if_neg c5]); (try first | rw [if_pos c8] | rw [if_neg c8]); (try first | rw [if_pos c11] | rw [if_neg c11]); (try first | rw [if_pos c14] | rw [if_neg c14])
              refine lv_if_ne (tgt := 122) hx hb dX7_trader_117 (by decide) (fun c16 => ?_) (fun c16 => ?_)
              · exact absurd c16 (by decide)
              refine lv_iconst (v := 0) hx hb dX7_trader_120 (by decide) ?_
              exact z_iret hx hb hr (by rw [hpl]; rfl) rfl hw.2 (by rw [hpl]; exact hw.1) (Nat.le_of_ble_eq_true rfl) (Nat.le_of_ble_eq_true rfl) dX7_trader_121 hlocks
            · skip
              have c14 := zb_ne0.mp c14
              refine lv_iconst (v := 1) hx hb dX7_trader_74 (by decide) ?_
              refine lv_goto (tgt := 79) hx hb dX7_trader_75 (by decide) ?_
              refine lv_istore (lv' := [(8, .int 1), (7, .int 0), (0, .ref (ad 128)), (1, .int i), (2, .int j), (3, .int k), (4, .int x), (5, .int y), (6, .int w)]) hx hb dX7_trader_79 hl (by decide) rfl (fun ls hl => ?_)
              refine lv_aload_n hx hb dX7_trader_81 rfl (lv_at hl 2 rfl) ?_
              refine lv_iload hx hb dX7_trader_82 (lv_at hl 1 rfl) ?_
              refine lv_if_ne (tgt := 91) hx hb dX7_trader_84 (by decide) (fun c17 => ?_) (fun c17 => ?_)
              · exact absurd c17 (by decide)
              refine lv_iconst (v := 1) hx hb dX7_trader_87 (by decide) ?_
              refine lv_goto (tgt := 114) hx hb dX7_trader_88 (by decide) ?_
              refine z_ci0 (z_runV (As := [.int 1]) (rest := []) M hw (zr_t hR 128 7 0 (by decide)) zc_X7_108 (c_X7_goesWell l base D cA ad ty I L P hR 1) hw.1 rfl rfl ⟨Nat.le_of_ble_eq_true rfl, Nat.le_of_ble_eq_true rfl⟩ ⟨Nat.le_of_ble_eq_true rfl, Nat.le_of_ble_eq_true rfl⟩ hl.1 (Nat.le_of_ble_eq_true rfl) dX7_trader_114) hw (fun H locs hw => ?_)
              refine z_topi (y := 0) (zb_0 (by decide)) ?_
              have hpl : (if zlt i ni then (if zlt j ni then (if i = j then 2 else if zin k 1 5000 then (if zin x 0 9999 then (if zin y 0 9999 then (if zin w 0 1000000 then (if nI nt = 12 then 3 else 0) else 2) else 2) else 2) else 2) else 1) else 1) = 1 := by (try first | rw [if_pos c1] | rw [if_neg c1]); (try first | rw [if_pos c2] | rw [if_neg c2]); (try first | rw [if_pos c5] | rw [if_neg c5]); (try first | rw [if_pos c8] | rw [if_neg c8]); (try first | rw [if_pos c11] | rw [if_neg c11]); (try first | rw [if_pos c14] | rw [if_neg c14])
              refine lv_if_ne (tgt := 122) hx hb dX7_trader_117 (by decide) (fun c18 => ?_) (fun c18 => ?_)
              · exact absurd c18 (by decide)
              refine lv_iconst (v := 0) hx hb dX7_trader_120 (by decide) ?_
              exact z_iret hx hb hr (by rw [hpl]; rfl) rfl hw.2 (by rw [hpl]; exact hw.1) (Nat.le_of_ble_eq_true rfl) (Nat.le_of_ble_eq_true rfl) dX7_trader_121 hlocks
  · skip
    have c1 := zb_ne0.mp c1
    refine lv_aload_n hx hb dX7_trader_8 rfl (lv_at hl 0 rfl) ?_
    refine lv_iload_n hx hb dX7_trader_9 rfl (lv_at hl 2 rfl) ?_
    refine z_ci0 (z_runV (As := [.int j]) (rest := []) M hw (zr_t hR 128 7 0 (by decide)) zc_X7_111 (c_X7_isIsland l base D cA ad ty I L P hR ni hV.1.1 (by omega) j) hw.1 rfl rfl ⟨Nat.le_of_ble_eq_true rfl, Nat.le_of_ble_eq_true rfl⟩ ⟨Nat.le_of_ble_eq_true rfl, Nat.le_of_ble_eq_true rfl⟩ hl.1 (Nat.le_of_ble_eq_true rfl) dX7_trader_10) hw (fun H locs hw => ?_)
    refine lv_if_eq (tgt := 20) hx hb dX7_trader_13 (by decide) (fun c19 => ?_) (fun c19 => ?_)
    · skip
      have c19 := zb_eq0.mp c19
      refine lv_iconst (v := 0) hx hb dX7_trader_20 (by decide) ?_
      refine lv_istore (lv' := [(7, .int 0), (0, .ref (ad 128)), (1, .int i), (2, .int j), (3, .int k), (4, .int x), (5, .int y), (6, .int w)]) hx hb dX7_trader_21 hl (by decide) rfl (fun ls hl => ?_)
      refine lv_iload_n hx hb dX7_trader_23 rfl (lv_at hl 2 rfl) ?_
      refine lv_iload_n hx hb dX7_trader_24 rfl (lv_at hl 3 rfl) ?_
      refine lv_icmp_eq (tgt := 78) hx hb dX7_trader_25 (by decide) (fun c20 => ?_) (fun c20 => ?_)
      · skip
        refine lv_iconst (v := 0) hx hb dX7_trader_78 (by decide) ?_
        refine lv_istore (lv' := [(8, .int 0), (7, .int 0), (0, .ref (ad 128)), (1, .int i), (2, .int j), (3, .int k), (4, .int x), (5, .int y), (6, .int w)]) hx hb dX7_trader_79 hl (by decide) rfl (fun ls hl => ?_)
        refine lv_aload_n hx hb dX7_trader_81 rfl (lv_at hl 2 rfl) ?_
        refine lv_iload hx hb dX7_trader_82 (lv_at hl 1 rfl) ?_
        refine lv_if_ne (tgt := 91) hx hb dX7_trader_84 (by decide) (fun c21 => ?_) (fun c21 => ?_)
        · exact absurd c21 (by decide)
        refine lv_iconst (v := 1) hx hb dX7_trader_87 (by decide) ?_
        refine lv_goto (tgt := 114) hx hb dX7_trader_88 (by decide) ?_
        refine z_ci0 (z_runV (As := [.int 1]) (rest := []) M hw (zr_t hR 128 7 0 (by decide)) zc_X7_108 (c_X7_goesWell l base D cA ad ty I L P hR 1) hw.1 rfl rfl ⟨Nat.le_of_ble_eq_true rfl, Nat.le_of_ble_eq_true rfl⟩ ⟨Nat.le_of_ble_eq_true rfl, Nat.le_of_ble_eq_true rfl⟩ hl.1 (Nat.le_of_ble_eq_true rfl) dX7_trader_114) hw (fun H locs hw => ?_)
        refine z_topi (y := 0) (zb_0 (by decide)) ?_
        have hpl : (if zlt i ni then (if zlt j ni then (if i = j then 2 else if zin k 1 5000 then (if zin x 0 9999 then (if zin y 0 9999 then (if zin w 0 1000000 then (if nI nt = 12 then 3 else 0) else 2) else 2) else 2) else 2) else 1) else 1) = 1 := by (try first | rw [if_pos c1] | rw [if_neg c1]); (try first | rw [if_pos c19] | rw [if_neg c19]); (try first | rw [if_pos c20] | rw [if_neg c20])
        refine lv_if_ne (tgt := 122) hx hb dX7_trader_117 (by decide) (fun c22 => ?_) (fun c22 => ?_)
        · exact absurd c22 (by decide)
        refine lv_iconst (v := 0) hx hb dX7_trader_120 (by decide) ?_
        exact z_iret hx hb hr (by rw [hpl]; rfl) rfl hw.2 (by rw [hpl]; exact hw.1) (Nat.le_of_ble_eq_true rfl) (Nat.le_of_ble_eq_true rfl) dX7_trader_121 hlocks
      · skip
        refine lv_iload_n hx hb dX7_trader_28 rfl (lv_at hl 4 rfl) ?_
        refine lv_iconst (v := 1) hx hb dX7_trader_29 (by decide) ?_
        refine lv_sipush (v := 5000) hx hb dX7_trader_30 (by decide) ?_
        refine z_ci0 (z_runS (As := [.int k, .int 1, .int 5000]) (rest := []) M hw.2 zc_X7_91 (c_X7_in l base D cA ad ty I L P k 1 5000) hw.1 rfl rfl ⟨Nat.le_of_ble_eq_true rfl, Nat.le_of_ble_eq_true rfl⟩ ⟨Nat.le_of_ble_eq_true rfl, Nat.le_of_ble_eq_true rfl⟩ hl.1 (Nat.le_of_ble_eq_true rfl) dX7_trader_33) hw (fun H locs hw => ?_)
        refine lv_if_eq (tgt := 78) hx hb dX7_trader_36 (by decide) (fun c23 => ?_) (fun c23 => ?_)
        · skip
          have c23 := zb_eq0.mp c23
          refine lv_iconst (v := 0) hx hb dX7_trader_78 (by decide) ?_
          refine lv_istore (lv' := [(8, .int 0), (7, .int 0), (0, .ref (ad 128)), (1, .int i), (2, .int j), (3, .int k), (4, .int x), (5, .int y), (6, .int w)]) hx hb dX7_trader_79 hl (by decide) rfl (fun ls hl => ?_)
          refine lv_aload_n hx hb dX7_trader_81 rfl (lv_at hl 2 rfl) ?_
          refine lv_iload hx hb dX7_trader_82 (lv_at hl 1 rfl) ?_
          refine lv_if_ne (tgt := 91) hx hb dX7_trader_84 (by decide) (fun c24 => ?_) (fun c24 => ?_)
          · exact absurd c24 (by decide)
          refine lv_iconst (v := 1) hx hb dX7_trader_87 (by decide) ?_
          refine lv_goto (tgt := 114) hx hb dX7_trader_88 (by decide) ?_
          refine z_ci0 (z_runV (As := [.int 1]) (rest := []) M hw (zr_t hR 128 7 0 (by decide)) zc_X7_108 (c_X7_goesWell l base D cA ad ty I L P hR 1) hw.1 rfl rfl ⟨Nat.le_of_ble_eq_true rfl, Nat.le_of_ble_eq_true rfl⟩ ⟨Nat.le_of_ble_eq_true rfl, Nat.le_of_ble_eq_true rfl⟩ hl.1 (Nat.le_of_ble_eq_true rfl) dX7_trader_114) hw (fun H locs hw => ?_)
          refine z_topi (y := 0) (zb_0 (by decide)) ?_
          have hpl : (if zlt i ni then (if zlt j ni then (if i = j then 2 else if zin k 1 5000 then (if zin x 0 9999 then (if zin y 0 9999 then (if zin w 0 1000000 then (if nI nt = 12 then 3 else 0) else 2) else 2) else 2) else 2) else 1) else 1) = 1 := by (try first | rw [if_pos c1] | rw [if_neg c1]); (try first | rw [if_pos c19] | rw [if_neg c19]); (try first | rw [if_pos c20] | rw [if_neg c20]); (try first | rw [if_pos c23] | rw [if_neg c23])
          refine lv_if_ne (tgt := 122) hx hb dX7_trader_117 (by decide) (fun c25 => ?_) (fun c25 => ?_)
          · exact absurd c25 (by decide)
          refine lv_iconst (v := 0) hx hb dX7_trader_120 (by decide) ?_
          exact z_iret hx hb hr (by rw [hpl]; rfl) rfl hw.2 (by rw [hpl]; exact hw.1) (Nat.le_of_ble_eq_true rfl) (Nat.le_of_ble_eq_true rfl) dX7_trader_121 hlocks
        · skip
          have c23 := zb_ne0.mp c23
          refine lv_iload hx hb dX7_trader_39 (lv_at hl 5 rfl) ?_
          refine lv_iconst (v := 0) hx hb dX7_trader_41 (by decide) ?_
          refine lv_sipush (v := 9999) hx hb dX7_trader_42 (by decide) ?_
          refine z_ci0 (z_runS (As := [.int x, .int 0, .int 9999]) (rest := []) M hw.2 zc_X7_91 (c_X7_in l base D cA ad ty I L P x 0 9999) hw.1 rfl rfl ⟨Nat.le_of_ble_eq_true rfl, Nat.le_of_ble_eq_true rfl⟩ ⟨Nat.le_of_ble_eq_true rfl, Nat.le_of_ble_eq_true rfl⟩ hl.1 (Nat.le_of_ble_eq_true rfl) dX7_trader_45) hw (fun H locs hw => ?_)
          refine lv_if_eq (tgt := 78) hx hb dX7_trader_48 (by decide) (fun c26 => ?_) (fun c26 => ?_)
          · skip
            have c26 := zb_eq0.mp c26
            refine lv_iconst (v := 0) hx hb dX7_trader_78 (by decide) ?_
            refine lv_istore (lv' := [(8, .int 0), (7, .int 0), (0, .ref (ad 128)), (1, .int i), (2, .int j), (3, .int k), (4, .int x), (5, .int y), (6, .int w)]) hx hb dX7_trader_79 hl (by decide) rfl (fun ls hl => ?_)
            refine lv_aload_n hx hb dX7_trader_81 rfl (lv_at hl 2 rfl) ?_
            refine lv_iload hx hb dX7_trader_82 (lv_at hl 1 rfl) ?_
            refine lv_if_ne (tgt := 91) hx hb dX7_trader_84 (by decide) (fun c27 => ?_) (fun c27 => ?_)
            · exact absurd c27 (by decide)
            refine lv_iconst (v := 1) hx hb dX7_trader_87 (by decide) ?_
            refine lv_goto (tgt := 114) hx hb dX7_trader_88 (by decide) ?_
            refine z_ci0 (z_runV (As := [.int 1]) (rest := []) M hw (zr_t hR 128 7 0 (by decide)) zc_X7_108 (c_X7_goesWell l base D cA ad ty I L P hR 1) hw.1 rfl rfl ⟨Nat.le_of_ble_eq_true rfl, Nat.le_of_ble_eq_true rfl⟩ ⟨Nat.le_of_ble_eq_true rfl, Nat.le_of_ble_eq_true rfl⟩ hl.1 (Nat.le_of_ble_eq_true rfl) dX7_trader_114) hw (fun H locs hw => ?_)
            refine z_topi (y := 0) (zb_0 (by decide)) ?_
            have hpl : (if zlt i ni then (if zlt j ni then (if i = j then 2 else if zin k 1 5000 then (if zin x 0 9999 then (if zin y 0 9999 then (if zin w 0 1000000 then (if nI nt = 12 then 3 else 0) else 2) else 2) else 2) else 2) else 1) else 1) = 1 := by (try first | rw [if_pos c1] | rw [if_neg c1]); (try first | rw [if_pos c19] | rw [if_neg c19]); (try first | rw [if_pos c20] | rw [if_neg c20]); (try first | rw [if_pos c23] | rw [if_neg c23]); (try first | rw [if_pos c26] | rw [if_neg c26])
            refine lv_if_ne (tgt := 122) hx hb dX7_trader_117 (by decide) (fun c28 => ?_) (fun c28 => ?_)
            · exact absurd c28 (by decide)
            refine lv_iconst (v := 0) hx hb dX7_trader_120 (by decide) ?_
            exact z_iret hx hb hr (by rw [hpl]; rfl) rfl hw.2 (by rw [hpl]; exact hw.1) (Nat.le_of_ble_eq_true rfl) (Nat.le_of_ble_eq_true rfl) dX7_trader_121 hlocks
          · skip
            have c26 := zb_ne0.mp c26
            refine lv_iload hx hb dX7_trader_51 (lv_at hl 6 rfl) ?_
            refine lv_iconst (v := 0) hx hb dX7_trader_53 (by decide) ?_
            refine lv_sipush (v := 9999) hx hb dX7_trader_54 (by decide) ?_
            refine z_ci0 (z_runS (As := [.int y, .int 0, .int 9999]) (rest := []) M hw.2 zc_X7_91 (c_X7_in l base D cA ad ty I L P y 0 9999) hw.1 rfl rfl ⟨Nat.le_of_ble_eq_true rfl, Nat.le_of_ble_eq_true rfl⟩ ⟨Nat.le_of_ble_eq_true rfl, Nat.le_of_ble_eq_true rfl⟩ hl.1 (Nat.le_of_ble_eq_true rfl) dX7_trader_57) hw (fun H locs hw => ?_)
            refine lv_if_eq (tgt := 78) hx hb dX7_trader_60 (by decide) (fun c29 => ?_) (fun c29 => ?_)
            · skip
              have c29 := zb_eq0.mp c29
              refine lv_iconst (v := 0) hx hb dX7_trader_78 (by decide) ?_
              refine lv_istore (lv' := [(8, .int 0), (7, .int 0), (0, .ref (ad 128)), (1, .int i), (2, .int j), (3, .int k), (4, .int x), (5, .int y), (6, .int w)]) hx hb dX7_trader_79 hl (by decide) rfl (fun ls hl => ?_)
              refine lv_aload_n hx hb dX7_trader_81 rfl (lv_at hl 2 rfl) ?_
              refine lv_iload hx hb dX7_trader_82 (lv_at hl 1 rfl) ?_
              refine lv_if_ne (tgt := 91) hx hb dX7_trader_84 (by decide) (fun c30 => ?_) (fun c30 => ?_)
              · exact absurd c30 (by decide)
              refine lv_iconst (v := 1) hx hb dX7_trader_87 (by decide) ?_
              refine lv_goto (tgt := 114) hx hb dX7_trader_88 (by decide) ?_
              refine z_ci0 (z_runV (As := [.int 1]) (rest := []) M hw (zr_t hR 128 7 0 (by decide)) zc_X7_108 (c_X7_goesWell l base D cA ad ty I L P hR 1) hw.1 rfl rfl ⟨Nat.le_of_ble_eq_true rfl, Nat.le_of_ble_eq_true rfl⟩ ⟨Nat.le_of_ble_eq_true rfl, Nat.le_of_ble_eq_true rfl⟩ hl.1 (Nat.le_of_ble_eq_true rfl) dX7_trader_114) hw (fun H locs hw => ?_)
              refine z_topi (y := 0) (zb_0 (by decide)) ?_
              have hpl : (if zlt i ni then (if zlt j ni then (if i = j then 2 else if zin k 1 5000 then (if zin x 0 9999 then (if zin y 0 9999 then (if zin w 0 1000000 then (if nI nt = 12 then 3 else 0) else 2) else 2) else 2) else 2) else 1) else 1) = 1 := by (try first | rw [if_pos c1] | rw [if_neg c1]); (try first | rw [if_pos c19] | rw [if_neg c19]); (try first | rw [if_pos c20] | rw [if_neg c20]); (try first | rw [if_pos c23] | rw [if_neg c23]); (try first | rw [if_pos c26] | rw [if_neg c26]); (try first | rw [if_pos c29] | rw [if_neg c29])
              refine lv_if_ne (tgt := 122) hx hb dX7_trader_117 (by decide) (fun c31 => ?_) (fun c31 => ?_)
              · exact absurd c31 (by decide)
              refine lv_iconst (v := 0) hx hb dX7_trader_120 (by decide) ?_
              exact z_iret hx hb hr (by rw [hpl]; rfl) rfl hw.2 (by rw [hpl]; exact hw.1) (Nat.le_of_ble_eq_true rfl) (Nat.le_of_ble_eq_true rfl) dX7_trader_121 hlocks
            · skip
              have c29 := zb_ne0.mp c29
              refine lv_iload hx hb dX7_trader_63 (lv_at hl 7 rfl) ?_
              refine lv_iconst (v := 0) hx hb dX7_trader_65 (by decide) ?_
              refine lv_ldc (v := 1000000) hx hb M.2.2.2.1 (M.2.2.2.2.1.use (tb 829 (by decide +kernel)) rfl) dX7_trader_66 ?_
              refine z_ci0 (z_runS (As := [.int w, .int 0, .int 1000000]) (rest := []) M hw.2 zc_X7_91 (c_X7_in l base D cA ad ty I L P w 0 1000000) hw.1 rfl rfl ⟨Nat.le_of_ble_eq_true rfl, Nat.le_of_ble_eq_true rfl⟩ ⟨Nat.le_of_ble_eq_true rfl, Nat.le_of_ble_eq_true rfl⟩ hl.1 (Nat.le_of_ble_eq_true rfl) dX7_trader_68) hw (fun H locs hw => ?_)
              refine lv_if_eq (tgt := 78) hx hb dX7_trader_71 (by decide) (fun c32 => ?_) (fun c32 => ?_)
              · skip
                have c32 := zb_eq0.mp c32
                refine lv_iconst (v := 0) hx hb dX7_trader_78 (by decide) ?_
                refine lv_istore (lv' := [(8, .int 0), (7, .int 0), (0, .ref (ad 128)), (1, .int i), (2, .int j), (3, .int k), (4, .int x), (5, .int y), (6, .int w)]) hx hb dX7_trader_79 hl (by decide) rfl (fun ls hl => ?_)
                refine lv_aload_n hx hb dX7_trader_81 rfl (lv_at hl 2 rfl) ?_
                refine lv_iload hx hb dX7_trader_82 (lv_at hl 1 rfl) ?_
                refine lv_if_ne (tgt := 91) hx hb dX7_trader_84 (by decide) (fun c33 => ?_) (fun c33 => ?_)
                · exact absurd c33 (by decide)
                refine lv_iconst (v := 1) hx hb dX7_trader_87 (by decide) ?_
                refine lv_goto (tgt := 114) hx hb dX7_trader_88 (by decide) ?_
                refine z_ci0 (z_runV (As := [.int 1]) (rest := []) M hw (zr_t hR 128 7 0 (by decide)) zc_X7_108 (c_X7_goesWell l base D cA ad ty I L P hR 1) hw.1 rfl rfl ⟨Nat.le_of_ble_eq_true rfl, Nat.le_of_ble_eq_true rfl⟩ ⟨Nat.le_of_ble_eq_true rfl, Nat.le_of_ble_eq_true rfl⟩ hl.1 (Nat.le_of_ble_eq_true rfl) dX7_trader_114) hw (fun H locs hw => ?_)
                refine z_topi (y := 0) (zb_0 (by decide)) ?_
                have hpl : (if zlt i ni then (if zlt j ni then (if i = j then 2 else if zin k 1 5000 then (if zin x 0 9999 then (if zin y 0 9999 then (if zin w 0 1000000 then (if nI nt = 12 then 3 else 0) else 2) else 2) else 2) else 2) else 1) else 1) = 1 := by (try first | rw [if_pos c1] | rw [if_neg c1]); (try first | rw [if_pos c19] | rw [if_neg c19]); (try first | rw [if_pos c20] | rw [if_neg c20]); (try first | rw [if_pos c23] | rw [if_neg c23]); (try first | rw [if_pos c26] | rw [if_neg c26]); (try first | rw [if_pos c29] | rw [if_neg c29]); (try first | rw [if_pos c32] | rw [if_neg c32])
                refine lv_if_ne (tgt := 122) hx hb dX7_trader_117 (by decide) (fun c34 => ?_) (fun c34 => ?_)
                · exact absurd c34 (by decide)
                refine lv_iconst (v := 0) hx hb dX7_trader_120 (by decide) ?_
                exact z_iret hx hb hr (by rw [hpl]; rfl) rfl hw.2 (by rw [hpl]; exact hw.1) (Nat.le_of_ble_eq_true rfl) (Nat.le_of_ble_eq_true rfl) dX7_trader_121 hlocks
              · skip
                have c32 := zb_ne0.mp c32
                refine lv_iconst (v := 1) hx hb dX7_trader_74 (by decide) ?_
                refine lv_goto (tgt := 79) hx hb dX7_trader_75 (by decide) ?_
                refine lv_istore (lv' := [(8, .int 1), (7, .int 0), (0, .ref (ad 128)), (1, .int i), (2, .int j), (3, .int k), (4, .int x), (5, .int y), (6, .int w)]) hx hb dX7_trader_79 hl (by decide) rfl (fun ls hl => ?_)
                refine lv_aload_n hx hb dX7_trader_81 rfl (lv_at hl 2 rfl) ?_
                refine lv_iload hx hb dX7_trader_82 (lv_at hl 1 rfl) ?_
                refine lv_if_ne (tgt := 91) hx hb dX7_trader_84 (by decide) (fun c35 => ?_) (fun c35 => ?_)
                · exact absurd c35 (by decide)
                refine lv_iconst (v := 1) hx hb dX7_trader_87 (by decide) ?_
                refine lv_goto (tgt := 114) hx hb dX7_trader_88 (by decide) ?_
                refine z_ci0 (z_runV (As := [.int 1]) (rest := []) M hw (zr_t hR 128 7 0 (by decide)) zc_X7_108 (c_X7_goesWell l base D cA ad ty I L P hR 1) hw.1 rfl rfl ⟨Nat.le_of_ble_eq_true rfl, Nat.le_of_ble_eq_true rfl⟩ ⟨Nat.le_of_ble_eq_true rfl, Nat.le_of_ble_eq_true rfl⟩ hl.1 (Nat.le_of_ble_eq_true rfl) dX7_trader_114) hw (fun H locs hw => ?_)
                refine z_topi (y := 0) (zb_0 (by decide)) ?_
                have hpl : (if zlt i ni then (if zlt j ni then (if i = j then 2 else if zin k 1 5000 then (if zin x 0 9999 then (if zin y 0 9999 then (if zin w 0 1000000 then (if nI nt = 12 then 3 else 0) else 2) else 2) else 2) else 2) else 1) else 1) = 1 := by (try first | rw [if_pos c1] | rw [if_neg c1]); (try first | rw [if_pos c19] | rw [if_neg c19]); (try first | rw [if_pos c20] | rw [if_neg c20]); (try first | rw [if_pos c23] | rw [if_neg c23]); (try first | rw [if_pos c26] | rw [if_neg c26]); (try first | rw [if_pos c29] | rw [if_neg c29]); (try first | rw [if_pos c32] | rw [if_neg c32])
                refine lv_if_ne (tgt := 122) hx hb dX7_trader_117 (by decide) (fun c36 => ?_) (fun c36 => ?_)
                · exact absurd c36 (by decide)
                refine lv_iconst (v := 0) hx hb dX7_trader_120 (by decide) ?_
                exact z_iret hx hb hr (by rw [hpl]; rfl) rfl hw.2 (by rw [hpl]; exact hw.1) (Nat.le_of_ble_eq_true rfl) (Nat.le_of_ble_eq_true rfl) dX7_trader_121 hlocks
    · skip
      have c19 := zb_ne0.mp c19
      refine lv_iconst (v := 1) hx hb dX7_trader_16 (by decide) ?_
      refine lv_goto (tgt := 21) hx hb dX7_trader_17 (by decide) ?_
      refine lv_istore (lv' := [(7, .int 1), (0, .ref (ad 128)), (1, .int i), (2, .int j), (3, .int k), (4, .int x), (5, .int y), (6, .int w)]) hx hb dX7_trader_21 hl (by decide) rfl (fun ls hl => ?_)
      refine lv_iload_n hx hb dX7_trader_23 rfl (lv_at hl 2 rfl) ?_
      refine lv_iload_n hx hb dX7_trader_24 rfl (lv_at hl 3 rfl) ?_
      refine lv_icmp_eq (tgt := 78) hx hb dX7_trader_25 (by decide) (fun c37 => ?_) (fun c37 => ?_)
      · skip
        refine lv_iconst (v := 0) hx hb dX7_trader_78 (by decide) ?_
        refine lv_istore (lv' := [(8, .int 0), (7, .int 1), (0, .ref (ad 128)), (1, .int i), (2, .int j), (3, .int k), (4, .int x), (5, .int y), (6, .int w)]) hx hb dX7_trader_79 hl (by decide) rfl (fun ls hl => ?_)
        refine lv_aload_n hx hb dX7_trader_81 rfl (lv_at hl 2 rfl) ?_
        refine lv_iload hx hb dX7_trader_82 (lv_at hl 1 rfl) ?_
        refine lv_if_ne (tgt := 91) hx hb dX7_trader_84 (by decide) (fun c38 => ?_) (fun c38 => ?_)
        rotate_left
        · exact absurd c38 (by decide)
        refine lv_iload hx hb dX7_trader_91 (lv_at hl 0 rfl) ?_
        refine lv_if_ne (tgt := 100) hx hb dX7_trader_93 (by decide) (fun c39 => ?_) (fun c39 => ?_)
        · exact absurd c39 (by decide)
        refine lv_iconst (v := 2) hx hb dX7_trader_96 (by decide) ?_
        refine lv_goto (tgt := 114) hx hb dX7_trader_97 (by decide) ?_
        refine z_ci0 (z_runV (As := [.int 2]) (rest := []) M hw (zr_t hR 128 7 0 (by decide)) zc_X7_108 (c_X7_goesWell l base D cA ad ty I L P hR 2) hw.1 rfl rfl ⟨Nat.le_of_ble_eq_true rfl, Nat.le_of_ble_eq_true rfl⟩ ⟨Nat.le_of_ble_eq_true rfl, Nat.le_of_ble_eq_true rfl⟩ hl.1 (Nat.le_of_ble_eq_true rfl) dX7_trader_114) hw (fun H locs hw => ?_)
        refine z_topi (y := 0) (zb_0 (by decide)) ?_
        have hpl : (if zlt i ni then (if zlt j ni then (if i = j then 2 else if zin k 1 5000 then (if zin x 0 9999 then (if zin y 0 9999 then (if zin w 0 1000000 then (if nI nt = 12 then 3 else 0) else 2) else 2) else 2) else 2) else 1) else 1) = 2 := by (try first | rw [if_pos c1] | rw [if_neg c1]); (try first | rw [if_pos c19] | rw [if_neg c19]); (try first | rw [if_pos c37] | rw [if_neg c37])
        refine lv_if_ne (tgt := 122) hx hb dX7_trader_117 (by decide) (fun c40 => ?_) (fun c40 => ?_)
        · exact absurd c40 (by decide)
        refine lv_iconst (v := 0) hx hb dX7_trader_120 (by decide) ?_
        exact z_iret hx hb hr (by rw [hpl]; rfl) rfl hw.2 (by rw [hpl]; exact hw.1) (Nat.le_of_ble_eq_true rfl) (Nat.le_of_ble_eq_true rfl) dX7_trader_121 hlocks
      · skip
        refine lv_iload_n hx hb dX7_trader_28 rfl (lv_at hl 4 rfl) ?_
        refine lv_iconst (v := 1) hx hb dX7_trader_29 (by decide) ?_
        refine lv_sipush (v := 5000) hx hb dX7_trader_30 (by decide) ?_
        refine z_ci0 (z_runS (As := [.int k, .int 1, .int 5000]) (rest := []) M hw.2 zc_X7_91 (c_X7_in l base D cA ad ty I L P k 1 5000) hw.1 rfl rfl ⟨Nat.le_of_ble_eq_true rfl, Nat.le_of_ble_eq_true rfl⟩ ⟨Nat.le_of_ble_eq_true rfl, Nat.le_of_ble_eq_true rfl⟩ hl.1 (Nat.le_of_ble_eq_true rfl) dX7_trader_33) hw (fun H locs hw => ?_)
        refine lv_if_eq (tgt := 78) hx hb dX7_trader_36 (by decide) (fun c41 => ?_) (fun c41 => ?_)
        · skip
          have c41 := zb_eq0.mp c41
          refine lv_iconst (v := 0) hx hb dX7_trader_78 (by decide) ?_
          refine lv_istore (lv' := [(8, .int 0), (7, .int 1), (0, .ref (ad 128)), (1, .int i), (2, .int j), (3, .int k), (4, .int x), (5, .int y), (6, .int w)]) hx hb dX7_trader_79 hl (by decide) rfl (fun ls hl => ?_)
          refine lv_aload_n hx hb dX7_trader_81 rfl (lv_at hl 2 rfl) ?_
          refine lv_iload hx hb dX7_trader_82 (lv_at hl 1 rfl) ?_
          refine lv_if_ne (tgt := 91) hx hb dX7_trader_84 (by decide) (fun c42 => ?_) (fun c42 => ?_)
          rotate_left
          · exact absurd c42 (by decide)
          refine lv_iload hx hb dX7_trader_91 (lv_at hl 0 rfl) ?_
          refine lv_if_ne (tgt := 100) hx hb dX7_trader_93 (by decide) (fun c43 => ?_) (fun c43 => ?_)
          · exact absurd c43 (by decide)
          refine lv_iconst (v := 2) hx hb dX7_trader_96 (by decide) ?_
          refine lv_goto (tgt := 114) hx hb dX7_trader_97 (by decide) ?_
          refine z_ci0 (z_runV (As := [.int 2]) (rest := []) M hw (zr_t hR 128 7 0 (by decide)) zc_X7_108 (c_X7_goesWell l base D cA ad ty I L P hR 2) hw.1 rfl rfl ⟨Nat.le_of_ble_eq_true rfl, Nat.le_of_ble_eq_true rfl⟩ ⟨Nat.le_of_ble_eq_true rfl, Nat.le_of_ble_eq_true rfl⟩ hl.1 (Nat.le_of_ble_eq_true rfl) dX7_trader_114) hw (fun H locs hw => ?_)
          refine z_topi (y := 0) (zb_0 (by decide)) ?_
          have hpl : (if zlt i ni then (if zlt j ni then (if i = j then 2 else if zin k 1 5000 then (if zin x 0 9999 then (if zin y 0 9999 then (if zin w 0 1000000 then (if nI nt = 12 then 3 else 0) else 2) else 2) else 2) else 2) else 1) else 1) = 2 := by (try first | rw [if_pos c1] | rw [if_neg c1]); (try first | rw [if_pos c19] | rw [if_neg c19]); (try first | rw [if_pos c37] | rw [if_neg c37]); (try first | rw [if_pos c41] | rw [if_neg c41])
          refine lv_if_ne (tgt := 122) hx hb dX7_trader_117 (by decide) (fun c44 => ?_) (fun c44 => ?_)
          · exact absurd c44 (by decide)
          refine lv_iconst (v := 0) hx hb dX7_trader_120 (by decide) ?_
          exact z_iret hx hb hr (by rw [hpl]; rfl) rfl hw.2 (by rw [hpl]; exact hw.1) (Nat.le_of_ble_eq_true rfl) (Nat.le_of_ble_eq_true rfl) dX7_trader_121 hlocks
        · skip
          have c41 := zb_ne0.mp c41
          refine lv_iload hx hb dX7_trader_39 (lv_at hl 5 rfl) ?_
          refine lv_iconst (v := 0) hx hb dX7_trader_41 (by decide) ?_
          refine lv_sipush (v := 9999) hx hb dX7_trader_42 (by decide) ?_
          refine z_ci0 (z_runS (As := [.int x, .int 0, .int 9999]) (rest := []) M hw.2 zc_X7_91 (c_X7_in l base D cA ad ty I L P x 0 9999) hw.1 rfl rfl ⟨Nat.le_of_ble_eq_true rfl, Nat.le_of_ble_eq_true rfl⟩ ⟨Nat.le_of_ble_eq_true rfl, Nat.le_of_ble_eq_true rfl⟩ hl.1 (Nat.le_of_ble_eq_true rfl) dX7_trader_45) hw (fun H locs hw => ?_)
          refine lv_if_eq (tgt := 78) hx hb dX7_trader_48 (by decide) (fun c45 => ?_) (fun c45 => ?_)
          · skip
            have c45 := zb_eq0.mp c45
            refine lv_iconst (v := 0) hx hb dX7_trader_78 (by decide) ?_
            refine lv_istore (lv' := [(8, .int 0), (7, .int 1), (0, .ref (ad 128)), (1, .int i), (2, .int j), (3, .int k), (4, .int x), (5, .int y), (6, .int w)]) hx hb dX7_trader_79 hl (by decide) rfl (fun ls hl => ?_)
            refine lv_aload_n hx hb dX7_trader_81 rfl (lv_at hl 2 rfl) ?_
            refine lv_iload hx hb dX7_trader_82 (lv_at hl 1 rfl) ?_
            refine lv_if_ne (tgt := 91) hx hb dX7_trader_84 (by decide) (fun c46 => ?_) (fun c46 => ?_)
            rotate_left
            · exact absurd c46 (by decide)
            refine lv_iload hx hb dX7_trader_91 (lv_at hl 0 rfl) ?_
            refine lv_if_ne (tgt := 100) hx hb dX7_trader_93 (by decide) (fun c47 => ?_) (fun c47 => ?_)
            · exact absurd c47 (by decide)
            refine lv_iconst (v := 2) hx hb dX7_trader_96 (by decide) ?_
            refine lv_goto (tgt := 114) hx hb dX7_trader_97 (by decide) ?_
            refine z_ci0 (z_runV (As := [.int 2]) (rest := []) M hw (zr_t hR 128 7 0 (by decide)) zc_X7_108 (c_X7_goesWell l base D cA ad ty I L P hR 2) hw.1 rfl rfl ⟨Nat.le_of_ble_eq_true rfl, Nat.le_of_ble_eq_true rfl⟩ ⟨Nat.le_of_ble_eq_true rfl, Nat.le_of_ble_eq_true rfl⟩ hl.1 (Nat.le_of_ble_eq_true rfl) dX7_trader_114) hw (fun H locs hw => ?_)
            refine z_topi (y := 0) (zb_0 (by decide)) ?_
            have hpl : (if zlt i ni then (if zlt j ni then (if i = j then 2 else if zin k 1 5000 then (if zin x 0 9999 then (if zin y 0 9999 then (if zin w 0 1000000 then (if nI nt = 12 then 3 else 0) else 2) else 2) else 2) else 2) else 1) else 1) = 2 := by (try first | rw [if_pos c1] | rw [if_neg c1]); (try first | rw [if_pos c19] | rw [if_neg c19]); (try first | rw [if_pos c37] | rw [if_neg c37]); (try first | rw [if_pos c41] | rw [if_neg c41]); (try first | rw [if_pos c45] | rw [if_neg c45])
            refine lv_if_ne (tgt := 122) hx hb dX7_trader_117 (by decide) (fun c48 => ?_) (fun c48 => ?_)
            · exact absurd c48 (by decide)
            refine lv_iconst (v := 0) hx hb dX7_trader_120 (by decide) ?_
            exact z_iret hx hb hr (by rw [hpl]; rfl) rfl hw.2 (by rw [hpl]; exact hw.1) (Nat.le_of_ble_eq_true rfl) (Nat.le_of_ble_eq_true rfl) dX7_trader_121 hlocks
          · skip
            have c45 := zb_ne0.mp c45
            refine lv_iload hx hb dX7_trader_51 (lv_at hl 6 rfl) ?_
            refine lv_iconst (v := 0) hx hb dX7_trader_53 (by decide) ?_
            refine lv_sipush (v := 9999) hx hb dX7_trader_54 (by decide) ?_
            refine z_ci0 (z_runS (As := [.int y, .int 0, .int 9999]) (rest := []) M hw.2 zc_X7_91 (c_X7_in l base D cA ad ty I L P y 0 9999) hw.1 rfl rfl ⟨Nat.le_of_ble_eq_true rfl, Nat.le_of_ble_eq_true rfl⟩ ⟨Nat.le_of_ble_eq_true rfl, Nat.le_of_ble_eq_true rfl⟩ hl.1 (Nat.le_of_ble_eq_true rfl) dX7_trader_57) hw (fun H locs hw => ?_)
            refine lv_if_eq (tgt := 78) hx hb dX7_trader_60 (by decide) (fun c49 => ?_) (fun c49 => ?_)
            · skip
              have c49 := zb_eq0.mp c49
              refine lv_iconst (v := 0) hx hb dX7_trader_78 (by decide) ?_
              refine lv_istore (lv' := [(8, .int 0), (7, .int 1), (0, .ref (ad 128)), (1, .int i), (2, .int j), (3, .int k), (4, .int x), (5, .int y), (6, .int w)]) hx hb dX7_trader_79 hl (by decide) rfl (fun ls hl => ?_)
              refine lv_aload_n hx hb dX7_trader_81 rfl (lv_at hl 2 rfl) ?_
              refine lv_iload hx hb dX7_trader_82 (lv_at hl 1 rfl) ?_
              refine lv_if_ne (tgt := 91) hx hb dX7_trader_84 (by decide) (fun c50 => ?_) (fun c50 => ?_)
              rotate_left
              · exact absurd c50 (by decide)
              refine lv_iload hx hb dX7_trader_91 (lv_at hl 0 rfl) ?_
              refine lv_if_ne (tgt := 100) hx hb dX7_trader_93 (by decide) (fun c51 => ?_) (fun c51 => ?_)
              · exact absurd c51 (by decide)
              refine lv_iconst (v := 2) hx hb dX7_trader_96 (by decide) ?_
              refine lv_goto (tgt := 114) hx hb dX7_trader_97 (by decide) ?_
              refine z_ci0 (z_runV (As := [.int 2]) (rest := []) M hw (zr_t hR 128 7 0 (by decide)) zc_X7_108 (c_X7_goesWell l base D cA ad ty I L P hR 2) hw.1 rfl rfl ⟨Nat.le_of_ble_eq_true rfl, Nat.le_of_ble_eq_true rfl⟩ ⟨Nat.le_of_ble_eq_true rfl, Nat.le_of_ble_eq_true rfl⟩ hl.1 (Nat.le_of_ble_eq_true rfl) dX7_trader_114) hw (fun H locs hw => ?_)
              refine z_topi (y := 0) (zb_0 (by decide)) ?_
              have hpl : (if zlt i ni then (if zlt j ni then (if i = j then 2 else if zin k 1 5000 then (if zin x 0 9999 then (if zin y 0 9999 then (if zin w 0 1000000 then (if nI nt = 12 then 3 else 0) else 2) else 2) else 2) else 2) else 1) else 1) = 2 := by (try first | rw [if_pos c1] | rw [if_neg c1]); (try first | rw [if_pos c19] | rw [if_neg c19]); (try first | rw [if_pos c37] | rw [if_neg c37]); (try first | rw [if_pos c41] | rw [if_neg c41]); (try first | rw [if_pos c45] | rw [if_neg c45]); (try first | rw [if_pos c49] | rw [if_neg c49])
              refine lv_if_ne (tgt := 122) hx hb dX7_trader_117 (by decide) (fun c52 => ?_) (fun c52 => ?_)
              · exact absurd c52 (by decide)
              refine lv_iconst (v := 0) hx hb dX7_trader_120 (by decide) ?_
              exact z_iret hx hb hr (by rw [hpl]; rfl) rfl hw.2 (by rw [hpl]; exact hw.1) (Nat.le_of_ble_eq_true rfl) (Nat.le_of_ble_eq_true rfl) dX7_trader_121 hlocks
            · skip
              have c49 := zb_ne0.mp c49
              refine lv_iload hx hb dX7_trader_63 (lv_at hl 7 rfl) ?_
              refine lv_iconst (v := 0) hx hb dX7_trader_65 (by decide) ?_
              refine lv_ldc (v := 1000000) hx hb M.2.2.2.1 (M.2.2.2.2.1.use (tb 829 (by decide +kernel)) rfl) dX7_trader_66 ?_
              refine z_ci0 (z_runS (As := [.int w, .int 0, .int 1000000]) (rest := []) M hw.2 zc_X7_91 (c_X7_in l base D cA ad ty I L P w 0 1000000) hw.1 rfl rfl ⟨Nat.le_of_ble_eq_true rfl, Nat.le_of_ble_eq_true rfl⟩ ⟨Nat.le_of_ble_eq_true rfl, Nat.le_of_ble_eq_true rfl⟩ hl.1 (Nat.le_of_ble_eq_true rfl) dX7_trader_68) hw (fun H locs hw => ?_)
              refine lv_if_eq (tgt := 78) hx hb dX7_trader_71 (by decide) (fun c53 => ?_) (fun c53 => ?_)
              · skip
                have c53 := zb_eq0.mp c53
                refine lv_iconst (v := 0) hx hb dX7_trader_78 (by decide) ?_
                refine lv_istore (lv' := [(8, .int 0), (7, .int 1), (0, .ref (ad 128)), (1, .int i), (2, .int j), (3, .int k), (4, .int x), (5, .int y), (6, .int w)]) hx hb dX7_trader_79 hl (by decide) rfl (fun ls hl => ?_)
                refine lv_aload_n hx hb dX7_trader_81 rfl (lv_at hl 2 rfl) ?_
                refine lv_iload hx hb dX7_trader_82 (lv_at hl 1 rfl) ?_
                refine lv_if_ne (tgt := 91) hx hb dX7_trader_84 (by decide) (fun c54 => ?_) (fun c54 => ?_)
                rotate_left
                · exact absurd c54 (by decide)
                refine lv_iload hx hb dX7_trader_91 (lv_at hl 0 rfl) ?_
                refine lv_if_ne (tgt := 100) hx hb dX7_trader_93 (by decide) (fun c55 => ?_) (fun c55 => ?_)
                · exact absurd c55 (by decide)
                refine lv_iconst (v := 2) hx hb dX7_trader_96 (by decide) ?_
                refine lv_goto (tgt := 114) hx hb dX7_trader_97 (by decide) ?_
                refine z_ci0 (z_runV (As := [.int 2]) (rest := []) M hw (zr_t hR 128 7 0 (by decide)) zc_X7_108 (c_X7_goesWell l base D cA ad ty I L P hR 2) hw.1 rfl rfl ⟨Nat.le_of_ble_eq_true rfl, Nat.le_of_ble_eq_true rfl⟩ ⟨Nat.le_of_ble_eq_true rfl, Nat.le_of_ble_eq_true rfl⟩ hl.1 (Nat.le_of_ble_eq_true rfl) dX7_trader_114) hw (fun H locs hw => ?_)
                refine z_topi (y := 0) (zb_0 (by decide)) ?_
                have hpl : (if zlt i ni then (if zlt j ni then (if i = j then 2 else if zin k 1 5000 then (if zin x 0 9999 then (if zin y 0 9999 then (if zin w 0 1000000 then (if nI nt = 12 then 3 else 0) else 2) else 2) else 2) else 2) else 1) else 1) = 2 := by (try first | rw [if_pos c1] | rw [if_neg c1]); (try first | rw [if_pos c19] | rw [if_neg c19]); (try first | rw [if_pos c37] | rw [if_neg c37]); (try first | rw [if_pos c41] | rw [if_neg c41]); (try first | rw [if_pos c45] | rw [if_neg c45]); (try first | rw [if_pos c49] | rw [if_neg c49]); (try first | rw [if_pos c53] | rw [if_neg c53])
                refine lv_if_ne (tgt := 122) hx hb dX7_trader_117 (by decide) (fun c56 => ?_) (fun c56 => ?_)
                · exact absurd c56 (by decide)
                refine lv_iconst (v := 0) hx hb dX7_trader_120 (by decide) ?_
                exact z_iret hx hb hr (by rw [hpl]; rfl) rfl hw.2 (by rw [hpl]; exact hw.1) (Nat.le_of_ble_eq_true rfl) (Nat.le_of_ble_eq_true rfl) dX7_trader_121 hlocks
              · skip
                have c53 := zb_ne0.mp c53
                refine lv_iconst (v := 1) hx hb dX7_trader_74 (by decide) ?_
                refine lv_goto (tgt := 79) hx hb dX7_trader_75 (by decide) ?_
                refine lv_istore (lv' := [(8, .int 1), (7, .int 1), (0, .ref (ad 128)), (1, .int i), (2, .int j), (3, .int k), (4, .int x), (5, .int y), (6, .int w)]) hx hb dX7_trader_79 hl (by decide) rfl (fun ls hl => ?_)
                refine lv_aload_n hx hb dX7_trader_81 rfl (lv_at hl 2 rfl) ?_
                refine lv_iload hx hb dX7_trader_82 (lv_at hl 1 rfl) ?_
                refine lv_if_ne (tgt := 91) hx hb dX7_trader_84 (by decide) (fun c57 => ?_) (fun c57 => ?_)
                rotate_left
                · exact absurd c57 (by decide)
                refine lv_iload hx hb dX7_trader_91 (lv_at hl 0 rfl) ?_
                refine lv_if_ne (tgt := 100) hx hb dX7_trader_93 (by decide) (fun c58 => ?_) (fun c58 => ?_)
                rotate_left
                · exact absurd c58 (by decide)
                refine lv_aload_n hx hb dX7_trader_100 rfl (lv_at hl 2 rfl) ?_
                refine z_geti M hw (zr_t hR 128 7 0 (by decide)) zf_X7_105 dX7_trader_101 ?_
                refine z_topi (y := nI nt) hV.1.2.2.2 ?_
                refine lv_bipush (v := 12) hx hb dX7_trader_104 (by decide) ?_
                refine lv_icmp_ne (tgt := 113) hx hb dX7_trader_106 (by decide) (fun c59 => ?_) (fun c59 => ?_)
                · skip
                  have hlt : nt < 12 := z_nelt (show ¬ nI nt = nI 12 from c59) (by omega)
                  refine lv_iconst (v := 0) hx hb dX7_trader_113 (by decide) ?_
                  refine z_ci0 (z_runV (As := [.int 0]) (rest := []) M hw (zr_t hR 128 7 0 (by decide)) zc_X7_108 (c_X7_goesWell l base D cA ad ty I L P hR 0) hw.1 rfl rfl ⟨Nat.le_of_ble_eq_true rfl, Nat.le_of_ble_eq_true rfl⟩ ⟨Nat.le_of_ble_eq_true rfl, Nat.le_of_ble_eq_true rfl⟩ hl.1 (Nat.le_of_ble_eq_true rfl) dX7_trader_114) hw (fun H locs hw => ?_)
                  refine z_topi (y := 1) (zb_1 (by decide)) ?_
                  have hpl : (if zlt i ni then (if zlt j ni then (if i = j then 2 else if zin k 1 5000 then (if zin x 0 9999 then (if zin y 0 9999 then (if zin w 0 1000000 then (if nI nt = 12 then 3 else 0) else 2) else 2) else 2) else 2) else 1) else 1) = 0 := by (try first | rw [if_pos c1] | rw [if_neg c1]); (try first | rw [if_pos c19] | rw [if_neg c19]); (try first | rw [if_pos c37] | rw [if_neg c37]); (try first | rw [if_pos c41] | rw [if_neg c41]); (try first | rw [if_pos c45] | rw [if_neg c45]); (try first | rw [if_pos c49] | rw [if_neg c49]); (try first | rw [if_pos c53] | rw [if_neg c53]); (try first | rw [if_pos c59] | rw [if_neg c59])
                  have hVZ : zRv ni nc ns nt (zu I 128 0 0) := zRv_zu (by unfold zRl; omega) hV
                  refine lv_if_ne (tgt := 122) hx hb dX7_trader_117 (by decide) (fun c60 => ?_) (fun c60 => ?_)
                  rotate_left
                  · exact absurd c60 (by decide)
                  refine lv_aload_n hx hb dX7_trader_122 rfl (lv_at hl 2 rfl) ?_
                  refine z_getr M hw (zr_t hR 128 7 0 (by decide)) zf_X7_55 (zr_p hR 22 (by decide)) dX7_trader_123 ?_
                  refine lv_aload_n hx hb dX7_trader_126 rfl (lv_at hl 2 rfl) ?_
                  refine z_geti M hw (zr_t hR 128 7 0 (by decide)) zf_X7_105 dX7_trader_127 ?_
                  refine z_topi (y := I 128 21) (by rw [zu_ne _ _ (by omega)]) ?_
                  refine z_topi (y := nI nt) hV.1.2.2.2 ?_
                  refine lv_iload_n hx hb dX7_trader_130 rfl (lv_at hl 3 rfl) ?_
                  refine z_iNast M hw (zr_t hR 150 8 12 (by decide)) rfl ⟨by omega, by omega⟩ dX7_trader_131 (fun H locs hw => ?_)
                  refine lv_aload_n hx hb dX7_trader_132 rfl (lv_at hl 2 rfl) ?_
                  refine z_getr M hw (zr_t hR 128 7 0 (by decide)) zf_X7_58 (zr_p hR 23 (by decide)) dX7_trader_133 ?_
                  refine lv_aload_n hx hb dX7_trader_136 rfl (lv_at hl 2 rfl) ?_
                  refine z_geti M hw (zr_t hR 128 7 0 (by decide)) zf_X7_105 dX7_trader_137 ?_
                  refine z_topi (y := I 128 21) (by rw [zu_ne _ _ (by omega), zu_ne _ _ (by omega)]) ?_
                  refine z_topi (y := nI nt) hV.1.2.2.2 ?_
                  refine lv_iload_n hx hb dX7_trader_140 rfl (lv_at hl 4 rfl) ?_
                  refine z_iNast M hw (zr_t hR 151 8 12 (by decide)) rfl ⟨by omega, by omega⟩ dX7_trader_141 (fun H locs hw => ?_)
                  refine lv_aload_n hx hb dX7_trader_142 rfl (lv_at hl 2 rfl) ?_
                  refine z_getr M hw (zr_t hR 128 7 0 (by decide)) zf_X7_61 (zr_p hR 24 (by decide)) dX7_trader_143 ?_
                  refine lv_aload_n hx hb dX7_trader_146 rfl (lv_at hl 2 rfl) ?_
                  refine z_geti M hw (zr_t hR 128 7 0 (by decide)) zf_X7_105 dX7_trader_147 ?_
                  refine z_topi (y := I 128 21) (by rw [zu_ne _ _ (by omega), zu_ne _ _ (by omega), zu_ne _ _ (by omega)]) ?_
                  refine z_topi (y := nI nt) hV.1.2.2.2 ?_
                  refine lv_iload_n hx hb dX7_trader_150 rfl (lv_at hl 5 rfl) ?_
                  refine z_iNast M hw (zr_t hR 152 8 12 (by decide)) rfl ⟨by omega, by omega⟩ dX7_trader_151 (fun H locs hw => ?_)
                  refine lv_aload_n hx hb dX7_trader_152 rfl (lv_at hl 2 rfl) ?_
                  refine z_getr M hw (zr_t hR 128 7 0 (by decide)) zf_X7_64 (zr_p hR 25 (by decide)) dX7_trader_153 ?_
                  refine lv_aload_n hx hb dX7_trader_156 rfl (lv_at hl 2 rfl) ?_
                  refine z_geti M hw (zr_t hR 128 7 0 (by decide)) zf_X7_105 dX7_trader_157 ?_
                  refine z_topi (y := I 128 21) (by rw [zu_ne _ _ (by omega), zu_ne _ _ (by omega), zu_ne _ _ (by omega), zu_ne _ _ (by omega)]) ?_
                  refine z_topi (y := nI nt) hV.1.2.2.2 ?_
                  refine lv_iload hx hb dX7_trader_160 (lv_at hl 6 rfl) ?_
                  refine z_iNast M hw (zr_t hR 153 8 12 (by decide)) rfl ⟨by omega, by omega⟩ dX7_trader_162 (fun H locs hw => ?_)
                  refine lv_aload_n hx hb dX7_trader_163 rfl (lv_at hl 2 rfl) ?_
                  refine z_getr M hw (zr_t hR 128 7 0 (by decide)) zf_X7_67 (zr_p hR 26 (by decide)) dX7_trader_164 ?_
                  refine lv_aload_n hx hb dX7_trader_167 rfl (lv_at hl 2 rfl) ?_
                  refine z_geti M hw (zr_t hR 128 7 0 (by decide)) zf_X7_105 dX7_trader_168 ?_
                  refine z_topi (y := I 128 21) (by rw [zu_ne _ _ (by omega), zu_ne _ _ (by omega), zu_ne _ _ (by omega), zu_ne _ _ (by omega), zu_ne _ _ (by omega)]) ?_
                  refine z_topi (y := nI nt) hV.1.2.2.2 ?_
                  refine lv_iload hx hb dX7_trader_171 (lv_at hl 7 rfl) ?_
                  refine z_iNast M hw (zr_t hR 154 8 12 (by decide)) rfl ⟨by omega, by omega⟩ dX7_trader_173 (fun H locs hw => ?_)
                  refine lv_aload_n hx hb dX7_trader_174 rfl (lv_at hl 2 rfl) ?_
                  refine z_getr M hw (zr_t hR 128 7 0 (by decide)) zf_X7_70 (zr_p hR 27 (by decide)) dX7_trader_175 ?_
                  refine lv_aload_n hx hb dX7_trader_178 rfl (lv_at hl 2 rfl) ?_
                  refine z_geti M hw (zr_t hR 128 7 0 (by decide)) zf_X7_105 dX7_trader_179 ?_
                  refine z_topi (y := I 128 21) (by rw [zu_ne _ _ (by omega), zu_ne _ _ (by omega), zu_ne _ _ (by omega), zu_ne _ _ (by omega), zu_ne _ _ (by omega), zu_ne _ _ (by omega)]) ?_
                  refine z_topi (y := nI nt) hV.1.2.2.2 ?_
                  refine lv_iload hx hb dX7_trader_182 (lv_at hl 8 rfl) ?_
                  refine z_iNast M hw (zr_t hR 155 8 12 (by decide)) rfl ⟨by omega, by omega⟩ dX7_trader_184 (fun H locs hw => ?_)
                  refine lv_aload_n hx hb dX7_trader_185 rfl (lv_at hl 2 rfl) ?_
                  refine lv_dup hx hb dX7_trader_186 rfl ?_
                  refine z_geti M hw (zr_t hR 128 7 0 (by decide)) zf_X7_105 dX7_trader_187 ?_
                  refine z_topi (y := I 128 21) (by rw [zu_ne _ _ (by omega), zu_ne _ _ (by omega), zu_ne _ _ (by omega), zu_ne _ _ (by omega), zu_ne _ _ (by omega), zu_ne _ _ (by omega), zu_ne _ _ (by omega)]) ?_
                  refine z_topi (y := nI nt) hV.1.2.2.2 ?_
                  refine lv_iconst (v := 1) hx hb dX7_trader_190 (by decide) ?_
                  refine lv_iadd hx hb dX7_trader_191 ?_
                  refine z_puti M hw (zr_t hR 128 7 0 (by decide)) zf_X7_105 (Or.inl rfl) rfl rfl dX7_trader_192 (fun H locs hw => ?_)
                  refine lv_aload_n hx hb dX7_trader_195 rfl (lv_at hl 2 rfl) ?_
                  refine z_geti M hw (zr_t hR 128 7 0 (by decide)) zf_X7_105 dX7_trader_196 ?_
                  refine z_topi (y := (nI nt) + 1) (by rw [zu_self]) ?_
                  refine lv_iconst (v := 1) hx hb dX7_trader_199 (by decide) ?_
                  refine lv_isub hx hb dX7_trader_200 ?_
                  exact z_iret hx hb hr (by rw [hpl, ← nI_succ, nI_pred]; rfl) rfl hw.2 (by rw [hpl]; rw [← nI_succ] at hw; exact hw.1) (Nat.le_of_ble_eq_true rfl) (Nat.le_of_ble_eq_true rfl) dX7_trader_201 hlocks
                · skip
                  refine lv_iconst (v := 3) hx hb dX7_trader_109 (by decide) ?_
                  refine lv_goto (tgt := 114) hx hb dX7_trader_110 (by decide) ?_
                  refine z_ci0 (z_runV (As := [.int 3]) (rest := []) M hw (zr_t hR 128 7 0 (by decide)) zc_X7_108 (c_X7_goesWell l base D cA ad ty I L P hR 3) hw.1 rfl rfl ⟨Nat.le_of_ble_eq_true rfl, Nat.le_of_ble_eq_true rfl⟩ ⟨Nat.le_of_ble_eq_true rfl, Nat.le_of_ble_eq_true rfl⟩ hl.1 (Nat.le_of_ble_eq_true rfl) dX7_trader_114) hw (fun H locs hw => ?_)
                  refine z_topi (y := 0) (zb_0 (by decide)) ?_
                  have hpl : (if zlt i ni then (if zlt j ni then (if i = j then 2 else if zin k 1 5000 then (if zin x 0 9999 then (if zin y 0 9999 then (if zin w 0 1000000 then (if nI nt = 12 then 3 else 0) else 2) else 2) else 2) else 2) else 1) else 1) = 3 := by (try first | rw [if_pos c1] | rw [if_neg c1]); (try first | rw [if_pos c19] | rw [if_neg c19]); (try first | rw [if_pos c37] | rw [if_neg c37]); (try first | rw [if_pos c41] | rw [if_neg c41]); (try first | rw [if_pos c45] | rw [if_neg c45]); (try first | rw [if_pos c49] | rw [if_neg c49]); (try first | rw [if_pos c53] | rw [if_neg c53]); (try first | rw [if_pos c59] | rw [if_neg c59])
                  refine lv_if_ne (tgt := 122) hx hb dX7_trader_117 (by decide) (fun c61 => ?_) (fun c61 => ?_)
                  · exact absurd c61 (by decide)
                  refine lv_iconst (v := 0) hx hb dX7_trader_120 (by decide) ?_
                  exact z_iret hx hb hr (by rw [hpl]; rfl) rfl hw.2 (by rw [hpl]; exact hw.1) (Nat.le_of_ble_eq_true rfl) (Nat.le_of_ble_eq_true rfl) dX7_trader_121 hlocks
