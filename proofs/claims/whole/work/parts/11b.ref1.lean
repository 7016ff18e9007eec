set_option maxHeartbeats 4000000 in
set_option maxRecDepth 100000 in
theorem c_X7_thrown (l : Launch) (base : Nat) (D : va_G) (cA : Nat → ClassId) (ad : Nat → Nat) (ty : zTyp) (I : zIt) (L : zLt) (P : zPt) (hR : zref ty P) : zMi l base D cA yX7_thrown cX7_thrown 1 .int 0 0 0 0 [.ref (ad 128)] (zW base D cA ad ty I L P) (I 128 0) (zW base D cA ad ty I L P) := by
  refine z_start (by decide +kernel) (Nat.le_of_ble_eq_true rfl) fun p e s m below meth c ls M hP hS hl hr hlocks hnm => ?_
  have M : zM p s m c cX7_thrown RX7 1 base D cA := M
  have hw : zH base D cA s s.heap [] ad ty I L P := ⟨hP, hS⟩
  obtain ⟨hx, hb, -⟩ := id M
  have hl : lv_has ls 1 [(0, .ref (ad 128))] := hl
  refine lv_aload_n hx hb dX7_thrown_0 rfl (lv_at hl 0 rfl) ?_
  refine z_geti M hw (zr_t hR 128 7 0 (by decide)) zf_X7_84 dX7_thrown_1 ?_
  exact z_iret hx hb hr (by rfl) rfl hw.2 hw.1 (Nat.le_of_ble_eq_true rfl) (Nat.le_of_ble_eq_true rfl) dX7_thrown_4 hlocks
set_option maxHeartbeats 4000000 in
set_option maxRecDepth 100000 in
theorem c_X7_goesWell (l : Launch) (base : Nat) (D : va_G) (cA : Nat → ClassId) (ad : Nat → Nat) (ty : zTyp) (I : zIt) (L : zLt) (P : zPt) (hR : zref ty P) (x : Int32) : zMi l base D cA yX7_goesWell cX7_goesWell 2 .boolean 0 0 0 0 [.ref (ad 128), .int x] (zW base D cA ad ty I L P) (zb (x = 0)) (zW base D cA ad ty (zu I 128 0 x) L P) := by
  refine z_start (by decide +kernel) (Nat.le_of_ble_eq_true rfl) fun p e s m below meth c ls M hP hS hl hr hlocks hnm => ?_
  have M : zM p s m c cX7_goesWell RX7 2 base D cA := M
  have hw : zH base D cA s s.heap [] ad ty I L P := ⟨hP, hS⟩
  obtain ⟨hx, hb, -⟩ := id M
  have hl : lv_has ls 2 [(0, .ref (ad 128)), (1, .int x)] := hl
  refine lv_aload_n hx hb dX7_goesWell_0 rfl (lv_at hl 0 rfl) ?_
  refine lv_iload_n hx hb dX7_goesWell_1 rfl (lv_at hl 1 rfl) ?_
  refine z_puti M hw (zr_t hR 128 7 0 (by decide)) zf_X7_84 (Or.inl rfl) rfl rfl dX7_goesWell_2 (fun H locs hw => ?_)
  refine lv_iload_n hx hb dX7_goesWell_5 rfl (lv_at hl 1 rfl) ?_
  refine lv_if_ne (tgt := 13) hx hb dX7_goesWell_6 (by decide) (fun c1 => ?_) (fun c1 => ?_)
  · skip
    refine lv_iconst (v := 0) hx hb dX7_goesWell_13 (by decide) ?_
    exact z_iret hx hb hr (by unfold zb; (try first | rw [if_pos c1] | rw [if_neg c1] | rw [if_neg (fun h => h c1)])) rfl hw.2 hw.1 (Nat.le_of_ble_eq_true rfl) (Nat.le_of_ble_eq_true rfl) dX7_goesWell_14 hlocks
  · skip
    refine lv_iconst (v := 1) hx hb dX7_goesWell_9 (by decide) ?_
    refine lv_goto (tgt := 14) hx hb dX7_goesWell_10 (by decide) ?_
    exact z_iret hx hb hr (by unfold zb; (try first | rw [if_pos c1] | rw [if_neg c1] | rw [if_neg (fun h => h c1)])) rfl hw.2 hw.1 (Nat.le_of_ble_eq_true rfl) (Nat.le_of_ble_eq_true rfl) dX7_goesWell_14 hlocks
set_option maxHeartbeats 4000000 in
set_option maxRecDepth 100000 in
theorem c_X7_in (l : Launch) (base : Nat) (D : va_G) (cA : Nat → ClassId) (ad : Nat → Nat) (ty : zTyp) (I : zIt) (L : zLt) (P : zPt) (v a b : Int32) : zMi l base D cA yX7_in cX7_in 3 .boolean 0 0 0 0 [.int v, .int a, .int b] (zW base D cA ad ty I L P) (zb (zin v a b)) (zW base D cA ad ty I L P) := by
  refine z_start (by decide +kernel) (Nat.le_of_ble_eq_true rfl) fun p e s m below meth c ls M hP hS hl hr hlocks hnm => ?_
  have M : zM p s m c cX7_in RX7 3 base D cA := M
  have hw : zH base D cA s s.heap [] ad ty I L P := ⟨hP, hS⟩
  obtain ⟨hx, hb, -⟩ := id M
  have hl : lv_has ls 3 [(0, .int v), (1, .int a), (2, .int b)] := hl
  refine lv_iload_n hx hb dX7_in_0 rfl (lv_at hl 0 rfl) ?_
  refine lv_iload_n hx hb dX7_in_1 rfl (lv_at hl 1 rfl) ?_
  refine lv_icmp_lt (tgt := 14) hx hb dX7_in_2 (by decide) (fun c1 => ?_) (fun c1 => ?_)
  · skip
    refine lv_iconst (v := 0) hx hb dX7_in_14 (by decide) ?_
    exact z_iret hx hb hr (by rw [zb_0 (fun h => absurd h.1 (Int32.not_le.mpr c1))]) rfl hw.2 hw.1 (Nat.le_of_ble_eq_true rfl) (Nat.le_of_ble_eq_true rfl) dX7_in_15 hlocks
  · skip
    refine lv_iload_n hx hb dX7_in_5 rfl (lv_at hl 0 rfl) ?_
    refine lv_iload_n hx hb dX7_in_6 rfl (lv_at hl 2 rfl) ?_
    refine lv_icmp_gt (tgt := 14) hx hb dX7_in_7 (by decide) (fun c2 => ?_) (fun c2 => ?_)
    · skip
      refine lv_iconst (v := 0) hx hb dX7_in_14 (by decide) ?_
      exact z_iret hx hb hr (by rw [zb_0 (fun h => absurd h.2 (Int32.not_le.mpr c2))]) rfl hw.2 hw.1 (Nat.le_of_ble_eq_true rfl) (Nat.le_of_ble_eq_true rfl) dX7_in_15 hlocks
    · skip
      refine lv_iconst (v := 1) hx hb dX7_in_10 (by decide) ?_
      refine lv_goto (tgt := 15) hx hb dX7_in_11 (by decide) ?_
      exact z_iret hx hb hr (by rw [zb_1 ⟨Int32.not_lt.mp c1, Int32.not_lt.mp c2⟩]) rfl hw.2 hw.1 (Nat.le_of_ble_eq_true rfl) (Nat.le_of_ble_eq_true rfl) dX7_in_15 hlocks
set_option maxHeartbeats 4000000 in
set_option maxRecDepth 100000 in
theorem c_X7_isIsland (l : Launch) (base : Nat) (D : va_G) (cA : Nat → ClassId) (ad : Nat → Nat) (ty : zTyp) (I : zIt) (L : zLt) (P : zPt) (hR : zref ty P) (ni : Nat) (hn : I 128 2 = nI ni) (hn4 : ni ≤ 4000) (i : Int32) : zMi l base D cA yX7_isIsland cX7_isIsland 2 .boolean 1 22 0 0 [.ref (ad 128), .int i] (zW base D cA ad ty I L P) (zb (zlt i ni)) (zW base D cA ad ty I L P) := by
  refine z_start (by decide +kernel) (Nat.le_of_ble_eq_true rfl) fun p e s m below meth c ls M hP hS hl hr hlocks hnm => ?_
  have M : zM p s m c cX7_isIsland RX7 2 base D cA := M
  have hw : zH base D cA s s.heap [] ad ty I L P := ⟨hP, hS⟩
  obtain ⟨hx, hb, -⟩ := id M
  have hl : lv_has ls 2 [(0, .ref (ad 128)), (1, .int i)] := hl
  refine lv_iload_n hx hb dX7_isIsland_0 rfl (lv_at hl 1 rfl) ?_
  refine lv_iconst (v := 0) hx hb dX7_isIsland_1 (by decide) ?_
  refine lv_aload_n hx hb dX7_isIsland_2 rfl (lv_at hl 0 rfl) ?_
  refine z_geti M hw (zr_t hR 128 7 0 (by decide)) zf_X7_88 dX7_isIsland_3 ?_
  refine z_topi (y := nI ni) hn ?_
  refine lv_iconst (v := 1) hx hb dX7_isIsland_6 (by decide) ?_
  refine lv_isub hx hb dX7_isIsland_7 ?_
  refine z_ci0 (z_runS (As := [.int i, .int 0, .int ((nI ni) - 1)]) (rest := []) M hw.2 zc_X7_91 (c_X7_in l base D cA ad ty I L P i 0 ((nI ni) - 1)) hw.1 rfl rfl ⟨Nat.le_of_ble_eq_true rfl, Nat.le_of_ble_eq_true rfl⟩ ⟨Nat.le_of_ble_eq_true rfl, Nat.le_of_ble_eq_true rfl⟩ hl.1 (Nat.le_of_ble_eq_true rfl) dX7_isIsland_8) hw (fun H locs hw => ?_)
  rw [show zb (zin i 0 (nI ni - 1)) = zb (zlt i ni) from by unfold zb; simp only [zin_lt hn4]]
  exact z_iret hx hb hr (by rfl) (zb_nb _) hw.2 hw.1 (Nat.le_of_ble_eq_true rfl) (Nat.le_of_ble_eq_true rfl) dX7_isIsland_11 hlocks
set_option maxHeartbeats 4000000 in
set_option maxRecDepth 100000 in
theorem c_X7_isCable (l : Launch) (base : Nat) (D : va_G) (cA : Nat → ClassId) (ad : Nat → Nat) (ty : zTyp) (I : zIt) (L : zLt) (P : zPt) (hR : zref ty P) (nc : Nat) (hn : I 128 5 = nI nc) (hn4 : nc ≤ 4000) (i : Int32) : zMi l base D cA yX7_isCable cX7_isCable 2 .boolean 1 22 0 0 [.ref (ad 128), .int i] (zW base D cA ad ty I L P) (zb (zlt i nc)) (zW base D cA ad ty I L P) := by
  refine z_start (by decide +kernel) (Nat.le_of_ble_eq_true rfl) fun p e s m below meth c ls M hP hS hl hr hlocks hnm => ?_
  have M : zM p s m c cX7_isCable RX7 2 base D cA := M
  have hw : zH base D cA s s.heap [] ad ty I L P := ⟨hP, hS⟩
  obtain ⟨hx, hb, -⟩ := id M
  have hl : lv_has ls 2 [(0, .ref (ad 128)), (1, .int i)] := hl
  refine lv_iload_n hx hb dX7_isCable_0 rfl (lv_at hl 1 rfl) ?_
  refine lv_iconst (v := 0) hx hb dX7_isCable_1 (by decide) ?_
  refine lv_aload_n hx hb dX7_isCable_2 rfl (lv_at hl 0 rfl) ?_
  refine z_geti M hw (zr_t hR 128 7 0 (by decide)) zf_X7_95 dX7_isCable_3 ?_
  refine z_topi (y := nI nc) hn ?_
  refine lv_iconst (v := 1) hx hb dX7_isCable_6 (by decide) ?_
  refine lv_isub hx hb dX7_isCable_7 ?_
  refine z_ci0 (z_runS (As := [.int i, .int 0, .int ((nI nc) - 1)]) (rest := []) M hw.2 zc_X7_91 (c_X7_in l base D cA ad ty I L P i 0 ((nI nc) - 1)) hw.1 rfl rfl ⟨Nat.le_of_ble_eq_true rfl, Nat.le_of_ble_eq_true rfl⟩ ⟨Nat.le_of_ble_eq_true rfl, Nat.le_of_ble_eq_true rfl⟩ hl.1 (Nat.le_of_ble_eq_true rfl) dX7_isCable_8) hw (fun H locs hw => ?_)
  rw [show zb (zin i 0 (nI nc - 1)) = zb (zlt i nc) from by unfold zb; simp only [zin_lt hn4]]
  exact z_iret hx hb hr (by rfl) (zb_nb _) hw.2 hw.1 (Nat.le_of_ble_eq_true rfl) (Nat.le_of_ble_eq_true rfl) dX7_isCable_11 hlocks
set_option maxHeartbeats 4000000 in
set_option maxRecDepth 100000 in
theorem c_X7_isShip (l : Launch) (base : Nat) (D : va_G) (cA : Nat → ClassId) (ad : Nat → Nat) (ty : zTyp) (I : zIt) (L : zLt) (P : zPt) (hR : zref ty P) (ns : Nat) (hn : I 128 13 = nI ns) (hn4 : ns ≤ 4000) (i : Int32) : zMi l base D cA yX7_isShip cX7_isShip 2 .boolean 1 22 0 0 [.ref (ad 128), .int i] (zW base D cA ad ty I L P) (zb (zlt i ns)) (zW base D cA ad ty I L P) := by
  refine z_start (by decide +kernel) (Nat.le_of_ble_eq_true rfl) fun p e s m below meth c ls M hP hS hl hr hlocks hnm => ?_
  have M : zM p s m c cX7_isShip RX7 2 base D cA := M
  have hw : zH base D cA s s.heap [] ad ty I L P := ⟨hP, hS⟩
  obtain ⟨hx, hb, -⟩ := id M
  have hl : lv_has ls 2 [(0, .ref (ad 128)), (1, .int i)] := hl
  refine lv_iload_n hx hb dX7_isShip_0 rfl (lv_at hl 1 rfl) ?_
  refine lv_iconst (v := 0) hx hb dX7_isShip_1 (by decide) ?_
  refine lv_aload_n hx hb dX7_isShip_2 rfl (lv_at hl 0 rfl) ?_
  refine z_geti M hw (zr_t hR 128 7 0 (by decide)) zf_X7_102 dX7_isShip_3 ?_
  refine z_topi (y := nI ns) hn ?_
  refine lv_iconst (v := 1) hx hb dX7_isShip_6 (by decide) ?_
  refine lv_isub hx hb dX7_isShip_7 ?_
  refine z_ci0 (z_runS (As := [.int i, .int 0, .int ((nI ns) - 1)]) (rest := []) M hw.2 zc_X7_91 (c_X7_in l base D cA ad ty I L P i 0 ((nI ns) - 1)) hw.1 rfl rfl ⟨Nat.le_of_ble_eq_true rfl, Nat.le_of_ble_eq_true rfl⟩ ⟨Nat.le_of_ble_eq_true rfl, Nat.le_of_ble_eq_true rfl⟩ hl.1 (Nat.le_of_ble_eq_true rfl) dX7_isShip_8) hw (fun H locs hw => ?_)
  rw [show zb (zin i 0 (nI ns - 1)) = zb (zlt i ns) from by unfold zb; simp only [zin_lt hn4]]
  exact z_iret hx hb hr (by rfl) (zb_nb _) hw.2 hw.1 (Nat.le_of_ble_eq_true rfl) (Nat.le_of_ble_eq_true rfl) dX7_isShip_11 hlocks
set_option maxHeartbeats 4000000 in
set_option maxRecDepth 100000 in
theorem c_X7_isTrader (l : Launch) (base : Nat) (D : va_G) (cA : Nat → ClassId) (ad : Nat → Nat) (ty : zTyp) (I : zIt) (L : zLt) (P : zPt) (hR : zref ty P) (nt : Nat) (hn : I 128 21 = nI nt) (hn4 : nt ≤ 4000) (i : Int32) : zMi l base D cA yX7_isTrader cX7_isTrader 2 .boolean 1 22 0 0 [.ref (ad 128), .int i] (zW base D cA ad ty I L P) (zb (zlt i nt)) (zW base D cA ad ty I L P) := by
  refine z_start (by decide +kernel) (Nat.le_of_ble_eq_true rfl) fun p e s m below meth c ls M hP hS hl hr hlocks hnm => ?_
  have M : zM p s m c cX7_isTrader RX7 2 base D cA := M
  have hw : zH base D cA s s.heap [] ad ty I L P := ⟨hP, hS⟩
  obtain ⟨hx, hb, -⟩ := id M
  have hl : lv_has ls 2 [(0, .ref (ad 128)), (1, .int i)] := hl
  refine lv_iload_n hx hb dX7_isTrader_0 rfl (lv_at hl 1 rfl) ?_
  refine lv_iconst (v := 0) hx hb dX7_isTrader_1 (by decide) ?_
  refine lv_aload_n hx hb dX7_isTrader_2 rfl (lv_at hl 0 rfl) ?_
  refine z_geti M hw (zr_t hR 128 7 0 (by decide)) zf_X7_105 dX7_isTrader_3 ?_
  refine z_topi (y := nI nt) hn ?_
  refine lv_iconst (v := 1) hx hb dX7_isTrader_6 (by decide) ?_
  refine lv_isub hx hb dX7_isTrader_7 ?_
  refine z_ci0 (z_runS (As := [.int i, .int 0, .int ((nI nt) - 1)]) (rest := []) M hw.2 zc_X7_91 (c_X7_in l base D cA ad ty I L P i 0 ((nI nt) - 1)) hw.1 rfl rfl ⟨Nat.le_of_ble_eq_true rfl, Nat.le_of_ble_eq_true rfl⟩ ⟨Nat.le_of_ble_eq_true rfl, Nat.le_of_ble_eq_true rfl⟩ hl.1 (Nat.le_of_ble_eq_true rfl) dX7_isTrader_8) hw (fun H locs hw => ?_)
  rw [show zb (zin i 0 (nI nt - 1)) = zb (zlt i nt) from by unfold zb; simp only [zin_lt hn4]]
  exact z_iret hx hb hr (by rfl) (zb_nb _) hw.2 hw.1 (Nat.le_of_ble_eq_true rfl) (Nat.le_of_ble_eq_true rfl) dX7_isTrader_11 hlocks
set_option maxHeartbeats 4000000 in
set_option maxRecDepth 100000 in
theorem c_X7_isSpan (l : Launch) (base : Nat) (D : va_G) (cA : Nat → ClassId) (ad : Nat → Nat) (ty : zTyp) (I : zIt) (L : zLt) (P : zPt) (hR : zref ty P) (nc : Nat) (hn : I 128 5 = nI nc) (hn4 : nc ≤ 16) (hs : ∀ j, j < nc → I 136 j = nI (I 136 j).toNatClampNeg ∧ (I 136 j).toNatClampNeg ≤ 8) (i k : Int32) : zMi l base D cA yX7_isSpan cX7_isSpan 3 .boolean 2 43 0 0 [.ref (ad 128), .int i, .int k] (zW base D cA ad ty I L P) (zb (zlt i nc ∧ zlt k (zRsp I i))) (zW base D cA ad ty I L P) := by
  refine z_start (by decide +kernel) (Nat.le_of_ble_eq_true rfl) fun p e s m below meth c ls M hP hS hl hr hlocks hnm => ?_
  have M : zM p s m c cX7_isSpan RX7 3 base D cA := M
  have hw : zH base D cA s s.heap [] ad ty I L P := ⟨hP, hS⟩
  obtain ⟨hx, hb, -⟩ := id M
  have hl : lv_has ls 3 [(0, .ref (ad 128)), (1, .int i), (2, .int k)] := hl
  refine lv_aload_n hx hb dX7_isSpan_0 rfl (lv_at hl 0 rfl) ?_
  refine lv_iload_n hx hb dX7_isSpan_1 rfl (lv_at hl 1 rfl) ?_
  refine z_ci0 (z_runV (As := [.int i]) (rest := []) M hw (zr_t hR 128 7 0 (by decide)) zc_X7_98 (c_X7_isCable l base D cA ad ty I L P hR nc hn (by omega) i) hw.1 rfl rfl ⟨Nat.le_of_ble_eq_true rfl, Nat.le_of_ble_eq_true rfl⟩ ⟨Nat.le_of_ble_eq_true rfl, Nat.le_of_ble_eq_true rfl⟩ hl.1 (Nat.le_of_ble_eq_true rfl) dX7_isSpan_2) hw (fun H locs hw => ?_)
  refine lv_if_eq (tgt := 28) hx hb dX7_isSpan_5 (by decide) (fun c1 => ?_) (fun c1 => ?_)
  · skip
    have c1 := zb_eq0.mp c1
    refine lv_iconst (v := 0) hx hb dX7_isSpan_28 (by decide) ?_
    exact z_iret hx hb hr (by rw [zb_0 (fun h => c1 h.1)]) rfl hw.2 hw.1 (Nat.le_of_ble_eq_true rfl) (Nat.le_of_ble_eq_true rfl) dX7_isSpan_29 hlocks
  · skip
    have c1 := zb_ne0.mp c1
    refine lv_iload_n hx hb dX7_isSpan_8 rfl (lv_at hl 2 rfl) ?_
    refine lv_iconst (v := 0) hx hb dX7_isSpan_9 (by decide) ?_
    refine lv_aload_n hx hb dX7_isSpan_10 rfl (lv_at hl 0 rfl) ?_
    refine z_getr M hw (zr_t hR 128 7 0 (by decide)) zf_X7_22 (zr_p hR 8 (by decide)) dX7_isSpan_11 ?_
    refine lv_iload_n hx hb dX7_isSpan_14 rfl (lv_at hl 1 rfl) ?_
    refine z_iNald M hw (zr_t hR 136 8 16 (by decide)) (zlt_nat c1).1 ⟨by have := (zlt_nat c1).2; omega, by omega⟩ dX7_isSpan_15 ?_
    refine z_topi (y := nI (zRsp I i)) (hs _ (zlt_nat c1).2).1 ?_
    refine lv_iconst (v := 1) hx hb dX7_isSpan_16 (by decide) ?_
    refine lv_isub hx hb dX7_isSpan_17 ?_
    refine z_ci0 (z_runS (As := [.int k, .int 0, .int ((nI (zRsp I i)) - 1)]) (rest := []) M hw.2 zc_X7_91 (c_X7_in l base D cA ad ty I L P k 0 ((nI (zRsp I i)) - 1)) hw.1 rfl rfl ⟨Nat.le_of_ble_eq_true rfl, Nat.le_of_ble_eq_true rfl⟩ ⟨Nat.le_of_ble_eq_true rfl, Nat.le_of_ble_eq_true rfl⟩ hl.1 (Nat.le_of_ble_eq_true rfl) dX7_isSpan_18) hw (fun H locs hw => ?_)
    rw [show zb (zin k 0 (nI (zRsp I i) - 1)) = zb (zlt k (zRsp I i)) from by unfold zb; simp only [zin_lt (show zRsp I i ≤ 4000 by have := (hs _ (zlt_nat c1).2).2; unfold zRsp; omega)]]
    refine lv_if_eq (tgt := 28) hx hb dX7_isSpan_21 (by decide) (fun c2 => ?_) (fun c2 => ?_)
    · skip
      have c2 := zb_eq0.mp c2
      refine lv_iconst (v := 0) hx hb dX7_isSpan_28 (by decide) ?_
      exact z_iret hx hb hr (by rw [zb_0 (fun h => c2 h.2)]) rfl hw.2 hw.1 (Nat.le_of_ble_eq_true rfl) (Nat.le_of_ble_eq_true rfl) dX7_isSpan_29 hlocks
    · skip
      have c2 := zb_ne0.mp c2
      refine lv_iconst (v := 1) hx hb dX7_isSpan_24 (by decide) ?_
      refine lv_goto (tgt := 29) hx hb dX7_isSpan_25 (by decide) ?_
      exact z_iret hx hb hr (by rw [zb_1 ⟨c1, c2⟩]) rfl hw.2 hw.1 (Nat.le_of_ble_eq_true rfl) (Nat.le_of_ble_eq_true rfl) dX7_isSpan_29 hlocks
set_option maxHeartbeats 4000000 in
set_option maxRecDepth 100000 in
theorem c_X7_size (l : Launch) (base : Nat) (D : va_G) (cA : Nat → ClassId) (ad : Nat → Nat) (ty : zTyp) (I : zIt) (L : zLt) (P : zPt) (x : Int32) : zMi l base D cA yX7_size cX7_size 1 .int 0 0 0 0 [.int x] (zW base D cA ad ty I L P) (zsz x) (zW base D cA ad ty I L P) := by
  refine z_start (by decide +kernel) (Nat.le_of_ble_eq_true rfl) fun p e s m below meth c ls M hP hS hl hr hlocks hnm => ?_
  have M : zM p s m c cX7_size RX7 1 base D cA := M
  have hw : zH base D cA s s.heap [] ad ty I L P := ⟨hP, hS⟩
  obtain ⟨hx, hb, -⟩ := id M
  have hl : lv_has ls 1 [(0, .int x)] := hl
  refine lv_iload_n hx hb dX7_size_0 rfl (lv_at hl 0 rfl) ?_
  refine lv_if_ge (tgt := 9) hx hb dX7_size_1 (by decide) (fun c1 => ?_) (fun c1 => ?_)
  · skip
    refine lv_iload_n hx hb dX7_size_9 rfl (lv_at hl 0 rfl) ?_
    exact z_iret hx hb hr (by unfold zsz; (try first | rw [if_pos c1] | rw [if_neg c1] | rw [if_neg (fun h => h c1)])) rfl hw.2 hw.1 (Nat.le_of_ble_eq_true rfl) (Nat.le_of_ble_eq_true rfl) dX7_size_10 hlocks
  · skip
    refine lv_iload_n hx hb dX7_size_4 rfl (lv_at hl 0 rfl) ?_
    refine lv_ineg hx hb dX7_size_5 ?_
    refine lv_goto (tgt := 10) hx hb dX7_size_6 (by decide) ?_
    exact z_iret hx hb hr (by unfold zsz; (try first | rw [if_pos c1] | rw [if_neg c1] | rw [if_neg (fun h => h c1)])) rfl hw.2 hw.1 (Nat.le_of_ble_eq_true rfl) (Nat.le_of_ble_eq_true rfl) dX7_size_10 hlocks
set_option maxHeartbeats 4000000 in
set_option maxRecDepth 100000 in
theorem c_X7_between (l : Launch) (base : Nat) (D : va_G) (cA : Nat → ClassId) (ad : Nat → Nat) (ty : zTyp) (I : zIt) (L : zLt) (P : zPt) (a b k n : Int32) (hne : ¬ 2 * n = 0) : zMi l base D cA yX7_between cX7_between 4 .int 0 0 0 0 [.int a, .int b, .int k, .int n] (zW base D cA ad ty I L P) (zPlace k a b n) (zW base D cA ad ty I L P) := by
  refine z_start (by decide +kernel) (Nat.le_of_ble_eq_true rfl) fun p e s m below meth c ls M hP hS hl hr hlocks hnm => ?_
  have M : zM p s m c cX7_between RX7 4 base D cA := M
  have hw : zH base D cA s s.heap [] ad ty I L P := ⟨hP, hS⟩
  obtain ⟨hx, hb, -⟩ := id M
  have hl : lv_has ls 4 [(0, .int a), (1, .int b), (2, .int k), (3, .int n)] := hl
  refine lv_iload_n hx hb dX7_between_0 rfl (lv_at hl 0 rfl) ?_
  refine lv_iconst (v := 2) hx hb dX7_between_1 (by decide) ?_
  refine lv_iload_n hx hb dX7_between_2 rfl (lv_at hl 2 rfl) ?_
  refine lv_imul hx hb dX7_between_3 ?_
  refine lv_iconst (v := 1) hx hb dX7_between_4 (by decide) ?_
  refine lv_iadd hx hb dX7_between_5 ?_
  refine lv_iload_n hx hb dX7_between_6 rfl (lv_at hl 1 rfl) ?_
  refine lv_iload_n hx hb dX7_between_7 rfl (lv_at hl 0 rfl) ?_
  refine lv_isub hx hb dX7_between_8 ?_
  refine lv_imul hx hb dX7_between_9 ?_
  refine lv_iconst (v := 2) hx hb dX7_between_10 (by decide) ?_
  refine lv_iload_n hx hb dX7_between_11 rfl (lv_at hl 3 rfl) ?_
  refine lv_imul hx hb dX7_between_12 ?_
  refine lv_idiv hx hb dX7_between_13 hne ?_
  refine lv_iadd hx hb dX7_between_14 ?_
  exact z_iret hx hb hr (by rfl) rfl hw.2 hw.1 (Nat.le_of_ble_eq_true rfl) (Nat.le_of_ble_eq_true rfl) dX7_between_15 hlocks
set_option maxHeartbeats 4000000 in
set_option maxRecDepth 100000 in
theorem c_X7_placeOf (l : Launch) (base : Nat) (D : va_G) (cA : Nat → ClassId) (ad : Nat → Nat) (ty : zTyp) (I : zIt) (L : zLt) (P : zPt) (hR : zref ty P) (hf : I 128 11 = nI (zRn I)) (hf8 : zRn I ≤ 128) (x : Int32) : zMi l base D cA yX7_placeOf cX7_placeOf 3 .int 0 0 0 0 [.ref (ad 128), .int x] (zW base D cA ad ty I L P) (zoi (zPl I x)) (zW base D cA ad ty I L P) := by
  refine z_start (by decide +kernel) (Nat.le_of_ble_eq_true rfl) fun p e s m below meth c ls M hP hS hl hr hlocks hnm => ?_
  have M : zM p s m c cX7_placeOf RX7 3 base D cA := M
  have hw : zH base D cA s s.heap [] ad ty I L P := ⟨hP, hS⟩
  obtain ⟨hx, hb, -⟩ := id M
  have hl : lv_has ls 3 [(0, .ref (ad 128)), (1, .int x)] := hl
  refine lv_iconst (v := 0) hx hb dX7_placeOf_0 (by decide) ?_
  refine lv_istore_n (lv' := [(2, .int 0), (0, .ref (ad 128)), (1, .int x)]) hx hb dX7_placeOf_1 rfl hl (by decide) rfl (fun ls hl => ?_)
  refine z_loop (zRn I) (fun (k : Nat) H locs ls => (∀ j, j < k → (fun j => decide (I 140 j = x)) j = false) ∧ zH base D cA s H locs ad ty I L P ∧ lv_has ls 3 [(0, .ref (ad 128)), (1, .int x), (2, .int (nI k))]) 0 ⟨(fun j hj => absurd hj (by omega)), hw, lv_sub hl [1, 2, 0] rfl⟩ (by omega) (fun k hk_k ih_k H locs ls hI => ?_)
  obtain ⟨hno, hw, hl⟩ := hI
  refine lv_iload_n hx hb dX7_placeOf_2 rfl (lv_at hl 2 rfl) ?_
  refine lv_aload_n hx hb dX7_placeOf_3 rfl (lv_at hl 0 rfl) ?_
  refine z_geti M hw (zr_t hR 128 7 0 (by decide)) zf_X7_114 dX7_placeOf_4 ?_
  refine z_topi (y := nI (zRn I)) hf ?_
  refine lv_icmp_ge (tgt := 26) hx hb dX7_placeOf_7 (by decide) (fun c1 => ?_) (fun c1 => ?_)
  · skip
    have hge : k = zRn I := Nat.le_antisymm (by omega) (z_ge (show nI (zRn I) ≤ nI k from c1) (by omega) (by omega))
    refine lv_iload_n hx hb dX7_placeOf_26 rfl (lv_at hl 2 rfl) ?_
    refine lv_aload_n hx hb dX7_placeOf_27 rfl (lv_at hl 0 rfl) ?_
    refine z_geti M hw (zr_t hR 128 7 0 (by decide)) zf_X7_114 dX7_placeOf_28 ?_
    refine z_topi (y := nI (zRn I)) hf ?_
    refine lv_icmp_ge (tgt := 38) hx hb dX7_placeOf_31 (by decide) (fun c2 => ?_) (fun c2 => ?_)
    · skip
      refine lv_iconst (v := (-1)) hx hb dX7_placeOf_38 (by decide) ?_
      exact z_iret hx hb hr (by unfold zPl; rw [zfst_none (by rw [← hge]; exact hno)]; rfl) rfl hw.2 hw.1 (Nat.le_of_ble_eq_true rfl) (Nat.le_of_ble_eq_true rfl) dX7_placeOf_39 hlocks
    · skip
      exact absurd (by rw [hge]; exact nI_le (Nat.le_refl _) (by omega)) c2
  · skip
    have hlt : k < zRn I := z_lt (show ¬ nI (zRn I) ≤ nI k from c1) (by omega)
    refine lv_aload_n hx hb dX7_placeOf_10 rfl (lv_at hl 0 rfl) ?_
    refine z_getr M hw (zr_t hR 128 7 0 (by decide)) zf_X7_31 (zr_p hR 12 (by decide)) dX7_placeOf_11 ?_
    refine lv_iload_n hx hb dX7_placeOf_14 rfl (lv_at hl 2 rfl) ?_
    refine z_iNald M hw (zr_t hR 140 8 128 (by decide)) rfl ⟨by omega, by omega⟩ dX7_placeOf_15 ?_
    refine lv_iload_n hx hb dX7_placeOf_16 rfl (lv_at hl 1 rfl) ?_
    refine lv_icmp_eq (tgt := 26) hx hb dX7_placeOf_17 (by decide) (fun c3 => ?_) (fun c3 => ?_)
    · skip
      refine lv_iload_n hx hb dX7_placeOf_26 rfl (lv_at hl 2 rfl) ?_
      refine lv_aload_n hx hb dX7_placeOf_27 rfl (lv_at hl 0 rfl) ?_
      refine z_geti M hw (zr_t hR 128 7 0 (by decide)) zf_X7_114 dX7_placeOf_28 ?_
      refine z_topi (y := nI (zRn I)) hf ?_
      refine lv_icmp_ge (tgt := 38) hx hb dX7_placeOf_31 (by decide) (fun c4 => ?_) (fun c4 => ?_)
      · skip
        exact absurd c4 (nI_ge hlt (by omega))
      · skip
        refine lv_iload_n hx hb dX7_placeOf_34 rfl (lv_at hl 2 rfl) ?_
        refine lv_goto (tgt := 39) hx hb dX7_placeOf_35 (by decide) ?_
        exact z_iret hx hb hr (by unfold zPl; rw [zfst_some hlt (decide_eq_true c3) hno]; rfl) rfl hw.2 hw.1 (Nat.le_of_ble_eq_true rfl) (Nat.le_of_ble_eq_true rfl) dX7_placeOf_39 hlocks
    · skip
      refine lv_iinc (v := nI (k + 1)) (lv' := [(2, .int (nI (k + 1))), (0, .ref (ad 128)), (1, .int x)]) hx hb dX7_placeOf_20 hl (k := 2) rfl (nI_succ _).symm (by decide) rfl (fun ls hl => ?_)
      refine lv_goto (tgt := 2) hx hb dX7_placeOf_23 (by decide) ?_
      exact ih_k hlt _ _ _ ⟨(fun j hj => by
            rcases Nat.lt_or_ge j k with q | q
            · exact hno j q
            · have e : j = k := by omega
              subst e; exact decide_eq_false c3), hw, lv_sub hl [1, 2, 0] rfl⟩
