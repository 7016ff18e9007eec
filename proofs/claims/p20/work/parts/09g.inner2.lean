set_option maxHeartbeats 4000000 in
set_option maxRecDepth 100000 in
theorem c_X6_goOn (l : Launch) (base : Nat) (D : zDD) (cA : Nat → ClassId) (ad : Nat → Nat) (ty : zTyp) (I : zIt) (L : zLt) (P : zPt) (ni nc ns nt : Nat) (hC : zcls ni nc ns nt ty P) (i : Nat) (hi : i < ns) (hsc : I (48 + i) 5 = -1 ∨ (I (48 + i) 5 = nI (I (48 + i) 5).toNatClampNeg ∧ (I (48 + i) 5).toNatClampNeg < nc)) (hf : I 1 3 = nI (zNf I)) (hf8 : zNf I ≤ 128) : zMv l base D cA yX6_goOn cX6_goOn 2 3 66 0 0 [.ref (ad 0), .ref (ad (48 + i))] (zW base D cA ad ty I L P) (zW base D cA ad ty (zGo I (48 + i)) L P) := by
  refine z_start (by decide +kernel) (Nat.le_of_ble_eq_true rfl) fun p e s m below meth c ls M hP hS hl hr hlocks hnm => ?_
  have M : zM p s m c cX6_goOn RX6 2 base D cA := M
  have hw : zH base D cA s s.heap [] ad ty I L P := ⟨hP, hS⟩
  obtain ⟨hx, hb, -⟩ := id M
  have hl : lv_has ls 2 [(0, .ref (ad 0)), (1, .ref (ad (48 + i)))] := hl
  obtain ⟨hb1, hb2, hb3, hb4⟩ := zc_b hC
  refine lv_aload_n hx hb dX6_goOn_0 rfl (lv_at hl 1 rfl) ?_
  refine z_geti M hw (zc_tS hC (by omega)) zf_X6_155 dX6_goOn_1 ?_
  by_cases h1 : I (48 + i) 3 = 1
  · refine z_topi (y := 1) h1 ?_
    refine lv_lookup (off := 28) (tgt := 32) hx hb dX6_goOn_4 (by decide) (by decide) (by decide) ?_
    refine lv_aload_n hx hb dX6_goOn_32 rfl (lv_at hl 0 rfl) ?_
    refine lv_aload_n hx hb dX6_goOn_33 rfl (lv_at hl 1 rfl) ?_
    refine z_cv0 (z_runV (As := [.ref (ad (48 + i))]) (rest := []) M hw (zc_t0 hC) zc_X6_243 (c_X6_arrive l base D cA ad ty I L P ni nc ns nt hC i hi hsc) hw.1 rfl rfl ⟨Nat.le_of_ble_eq_true rfl, Nat.le_of_ble_eq_true rfl⟩ ⟨Nat.le_of_ble_eq_true rfl, Nat.le_of_ble_eq_true rfl⟩ hl.1 (Nat.le_of_ble_eq_true rfl) dX6_goOn_34) hw (fun H locs hw => ?_)
    refine lv_goto (tgt := 54) hx hb dX6_goOn_37 (by decide) ?_
    exact z_vret hx hb hr hw.2 (by unfold zGo; (try first | rw [if_pos h1] | rw [if_neg h1]); exact hw.1) (Nat.le_of_ble_eq_true rfl) (Nat.le_of_ble_eq_true rfl) dX6_goOn_54 hlocks
  by_cases h2 : I (48 + i) 3 = 2
  · refine z_topi (y := 2) h2 ?_
    refine lv_lookup (off := 36) (tgt := 40) hx hb dX6_goOn_4 (by decide) (by decide) (by decide) ?_
    refine lv_aload_n hx hb dX6_goOn_40 rfl (lv_at hl 1 rfl) ?_
    refine lv_iconst (v := 3) hx hb dX6_goOn_41 (by decide) ?_
    refine lv_iconst (v := 2) hx hb dX6_goOn_42 (by decide) ?_
    refine z_cv0 (z_runV (As := [.int 3, .int 2]) (rest := []) M hw (zc_tS hC (by omega)) zc_X6_246 (c_X3_begin l base D cA ad ty I L P (48 + i) 0 (zc_tS hC hi) 3 2) hw.1 rfl rfl ⟨Nat.le_of_ble_eq_true rfl, Nat.le_of_ble_eq_true rfl⟩ ⟨Nat.le_of_ble_eq_true rfl, Nat.le_of_ble_eq_true rfl⟩ hl.1 (Nat.le_of_ble_eq_true rfl) dX6_goOn_43) hw (fun H locs hw => ?_)
    refine lv_goto (tgt := 54) hx hb dX6_goOn_46 (by decide) ?_
    exact z_vret hx hb hr hw.2 (by unfold zGo; (try first | rw [if_pos h1] | rw [if_neg h1]); (try first | rw [if_pos h2] | rw [if_neg h2]); exact hw.1) (Nat.le_of_ble_eq_true rfl) (Nat.le_of_ble_eq_true rfl) dX6_goOn_54 hlocks
  refine lv_lookup (off := 45) (tgt := 49) hx hb dX6_goOn_4 (by decide) (by simp [Op.lookupswitch.offset, z_t1 1 rfl h1, z_t1 2 rfl h2]) (by decide) ?_
  refine lv_aload_n hx hb dX6_goOn_49 rfl (lv_at hl 0 rfl) ?_
  refine lv_aload_n hx hb dX6_goOn_50 rfl (lv_at hl 1 rfl) ?_
  refine z_cv0 (z_runV (As := [.ref (ad (48 + i))]) (rest := []) M hw (zc_t0 hC) zc_X6_249 (c_X6_mend l base D cA ad ty I L P ni nc ns nt hC i hi hsc (hf) (hf8)) hw.1 rfl rfl ⟨Nat.le_of_ble_eq_true rfl, Nat.le_of_ble_eq_true rfl⟩ ⟨Nat.le_of_ble_eq_true rfl, Nat.le_of_ble_eq_true rfl⟩ hl.1 (Nat.le_of_ble_eq_true rfl) dX6_goOn_51) hw (fun H locs hw => ?_)
  exact z_vret hx hb hr hw.2 (by unfold zGo; (try first | rw [if_pos h1] | rw [if_neg h1]); (try first | rw [if_pos h2] | rw [if_neg h2]); exact hw.1) (Nat.le_of_ble_eq_true rfl) (Nat.le_of_ble_eq_true rfl) dX6_goOn_54 hlocks
set_option maxHeartbeats 4000000 in
set_option maxRecDepth 100000 in
theorem c_X6_workHour (l : Launch) (base : Nat) (D : zDD) (cA : Nat → ClassId) (ad : Nat → Nat) (ty : zTyp) (I : zIt) (L : zLt) (P : zPt) (ni nc ns nt : Nat) (hC : zcls ni nc ns nt ty P) (i : Nat) (hi : i < ns) (hsc : I (48 + i) 5 = -1 ∨ (I (48 + i) 5 = nI (I (48 + i) 5).toNatClampNeg ∧ (I (48 + i) 5).toNatClampNeg < nc)) (hf : I 1 3 = nI (zNf I)) (hf8 : zNf I ≤ 128) : zMv l base D cA yX6_workHour cX6_workHour 2 4 87 0 0 [.ref (ad 0), .ref (ad (48 + i))] (zW base D cA ad ty I L P) (zW base D cA ad ty (zWork I (48 + i)) L P) := by
  refine z_start (by decide +kernel) (Nat.le_of_ble_eq_true rfl) fun p e s m below meth c ls M hP hS hl hr hlocks hnm => ?_
  have M : zM p s m c cX6_workHour RX6 2 base D cA := M
  have hw : zH base D cA s s.heap [] ad ty I L P := ⟨hP, hS⟩
  obtain ⟨hx, hb, -⟩ := id M
  have hl : lv_has ls 2 [(0, .ref (ad 0)), (1, .ref (ad (48 + i)))] := hl
  obtain ⟨hb1, hb2, hb3, hb4⟩ := zc_b hC
  refine lv_aload_n hx hb dX6_workHour_0 rfl (lv_at hl 1 rfl) ?_
  refine z_geti M hw (zc_tS hC (by omega)) zf_X6_155 dX6_workHour_1 ?_
  refine lv_if_ne (tgt := 8) hx hb dX6_workHour_4 (by decide) (fun c1 => ?_) (fun c1 => ?_)
  · skip
    refine lv_aload_n hx hb dX6_workHour_8 rfl (lv_at hl 1 rfl) ?_
    refine lv_dup hx hb dX6_workHour_9 rfl ?_
    refine z_geti M hw (zc_tS hC (by omega)) zf_X6_160 dX6_workHour_10 ?_
    refine lv_iconst (v := 1) hx hb dX6_workHour_13 (by decide) ?_
    refine lv_isub hx hb dX6_workHour_14 ?_
    refine z_puti M hw (zc_tS hC (by omega)) zf_X6_160 (Or.inl rfl) rfl rfl dX6_workHour_15 (fun H locs hw => ?_)
    refine lv_aload_n hx hb dX6_workHour_18 rfl (lv_at hl 1 rfl) ?_
    refine z_geti M hw (zc_tS hC (by omega)) zf_X6_160 dX6_workHour_19 ?_
    refine z_topi (y := (I (48 + i) 4) - 1) (by rw [zu_self]) ?_
    refine lv_if_ne (tgt := 30) hx hb dX6_workHour_22 (by decide) (fun c2 => ?_) (fun c2 => ?_)
    · skip
      exact z_vret hx hb hr hw.2 (by unfold zWork; (try first | rw [if_pos c1] | rw [if_neg c1]); (try first | rw [if_pos c2] | rw [if_neg c2]); exact hw.1) (Nat.le_of_ble_eq_true rfl) (Nat.le_of_ble_eq_true rfl) dX6_workHour_30 hlocks
    · skip
      refine lv_aload_n hx hb dX6_workHour_25 rfl (lv_at hl 0 rfl) ?_
      refine lv_aload_n hx hb dX6_workHour_26 rfl (lv_at hl 1 rfl) ?_
      refine z_cv0 (z_runV (As := [.ref (ad (48 + i))]) (rest := []) M hw (zc_t0 hC) zc_X6_240 (c_X6_goOn l base D cA ad ty (zu I (48 + i) 4 ((I (48 + i) 4) - 1)) L P ni nc ns nt hC i hi (zSc_c (by first | rfl | ((try simp only [zBeg]); (repeat rw [zu_ne _ _ (by omega)]))) hsc) ((zNfo_c (by first | rfl | ((try simp only [zBeg]); (repeat rw [zu_ne _ _ (by omega)]))) ⟨hf, hf8⟩).1) ((zNfo_c (by first | rfl | ((try simp only [zBeg]); (repeat rw [zu_ne _ _ (by omega)]))) ⟨hf, hf8⟩).2)) hw.1 rfl rfl ⟨Nat.le_of_ble_eq_true rfl, Nat.le_of_ble_eq_true rfl⟩ ⟨Nat.le_of_ble_eq_true rfl, Nat.le_of_ble_eq_true rfl⟩ hl.1 (Nat.le_of_ble_eq_true rfl) dX6_workHour_27) hw (fun H locs hw => ?_)
      exact z_vret hx hb hr hw.2 (by unfold zWork; (try first | rw [if_pos c1] | rw [if_neg c1]); (try first | rw [if_pos c2] | rw [if_neg c2]); exact hw.1) (Nat.le_of_ble_eq_true rfl) (Nat.le_of_ble_eq_true rfl) dX6_workHour_30 hlocks
  · skip
    exact z_vret hx hb hr hw.2 (by unfold zWork; (try first | rw [if_pos c1] | rw [if_neg c1]); exact hw.1) (Nat.le_of_ble_eq_true rfl) (Nat.le_of_ble_eq_true rfl) dX6_workHour_7 hlocks
set_option maxHeartbeats 4000000 in
set_option maxRecDepth 100000 in
theorem c_X6_setOff (l : Launch) (base : Nat) (D : zDD) (cA : Nat → ClassId) (ad : Nat → Nat) (ty : zTyp) (I : zIt) (L : zLt) (P : zPt) (ni nc ns nt : Nat) (hC : zcls ni nc ns nt ty P) (i : Nat) (hi : i < ns) (hsc : I (48 + i) 5 = -1 ∨ (I (48 + i) 5 = nI (I (48 + i) 5).toNatClampNeg ∧ (I (48 + i) 5).toNatClampNeg < nc)) (hf : I 1 3 = nI (zNf I)) (hf8 : zNf I ≤ 128) (a b : Int32) (hsp : ¬ I (48 + i) 0 = 0) : zMi l base D cA yX6_setOff cX6_setOff 5 .int 3 63 0 0 [.ref (ad 0), .ref (ad (48 + i)), .int a, .int b] (zW base D cA ad ty I L P) (zHours (I (48 + i) 1) (I (48 + i) 2) (I (48 + i) 0) a b) (zW base D cA ad ty (zSet I (48 + i) a b) L P) := by
  refine z_start (by decide +kernel) (Nat.le_of_ble_eq_true rfl) fun p e s m below meth c ls M hP hS hl hr hlocks hnm => ?_
  have M : zM p s m c cX6_setOff RX6 5 base D cA := M
  have hw : zH base D cA s s.heap [] ad ty I L P := ⟨hP, hS⟩
  obtain ⟨hx, hb, -⟩ := id M
  have hl : lv_has ls 5 [(0, .ref (ad 0)), (1, .ref (ad (48 + i))), (2, .int a), (3, .int b)] := hl
  obtain ⟨hb1, hb2, hb3, hb4⟩ := zc_b hC
  refine lv_aload_n hx hb dX6_setOff_0 rfl (lv_at hl 1 rfl) ?_
  refine lv_iload_n hx hb dX6_setOff_1 rfl (lv_at hl 2 rfl) ?_
  refine lv_iload_n hx hb dX6_setOff_2 rfl (lv_at hl 3 rfl) ?_
  refine z_ci0 (z_runV (As := [.int a, .int b]) (rest := []) M hw (zc_tS hC (by omega)) zc_X6_252 (c_X3_hoursTo l base D cA ad ty I L P (48 + i) 0 (zc_tS hC hi) a b hsp) hw.1 rfl rfl ⟨Nat.le_of_ble_eq_true rfl, Nat.le_of_ble_eq_true rfl⟩ ⟨Nat.le_of_ble_eq_true rfl, Nat.le_of_ble_eq_true rfl⟩ hl.1 (Nat.le_of_ble_eq_true rfl) dX6_setOff_3) hw (fun H locs hw => ?_)
  refine lv_istore (lv' := [(4, .int (zHours (I (48 + i) 1) (I (48 + i) 2) (I (48 + i) 0) a b)), (0, .ref (ad 0)), (1, .ref (ad (48 + i))), (2, .int a), (3, .int b)]) hx hb dX6_setOff_6 hl (by decide) rfl (fun ls hl => ?_)
  refine lv_aload_n hx hb dX6_setOff_8 rfl (lv_at hl 2 rfl) ?_
  refine lv_iload_n hx hb dX6_setOff_9 rfl (lv_at hl 3 rfl) ?_
  refine z_puti M hw (zc_tS hC (by omega)) zf_X6_158 (Or.inl rfl) rfl rfl dX6_setOff_10 (fun H locs hw => ?_)
  refine lv_aload_n hx hb dX6_setOff_13 rfl (lv_at hl 2 rfl) ?_
  refine lv_iload_n hx hb dX6_setOff_14 rfl (lv_at hl 4 rfl) ?_
  refine z_puti M hw (zc_tS hC (by omega)) zf_X6_159 (Or.inl rfl) rfl rfl dX6_setOff_15 (fun H locs hw => ?_)
  refine lv_aload_n hx hb dX6_setOff_18 rfl (lv_at hl 2 rfl) ?_
  refine lv_iconst (v := 1) hx hb dX6_setOff_19 (by decide) ?_
  refine lv_iload hx hb dX6_setOff_20 (lv_at hl 0 rfl) ?_
  refine z_cv0 (z_runV (As := [.int 1, .int (zHours (I (48 + i) 1) (I (48 + i) 2) (I (48 + i) 0) a b)]) (rest := []) M hw (zc_tS hC (by omega)) zc_X6_246 (c_X3_begin l base D cA ad ty (zu (zu I (48 + i) 1 a) (48 + i) 2 b) L P (48 + i) 0 (zc_tS hC hi) 1 (zHours (I (48 + i) 1) (I (48 + i) 2) (I (48 + i) 0) a b)) hw.1 rfl rfl ⟨Nat.le_of_ble_eq_true rfl, Nat.le_of_ble_eq_true rfl⟩ ⟨Nat.le_of_ble_eq_true rfl, Nat.le_of_ble_eq_true rfl⟩ hl.1 (Nat.le_of_ble_eq_true rfl) dX6_setOff_22) hw (fun H locs hw => ?_)
  refine lv_iload hx hb dX6_setOff_25 (lv_at hl 0 rfl) ?_
  refine lv_if_ne (tgt := 35) hx hb dX6_setOff_27 (by decide) (fun c1 => ?_) (fun c1 => ?_)
  · skip
    refine lv_iload hx hb dX6_setOff_35 (lv_at hl 0 rfl) ?_
    exact z_iret hx hb hr (by rfl) rfl hw.2 (by unfold zSet; (try first | rw [if_pos c1] | rw [if_neg c1]); exact hw.1) (Nat.le_of_ble_eq_true rfl) (Nat.le_of_ble_eq_true rfl) dX6_setOff_37 hlocks
  · skip
    refine lv_aload_n hx hb dX6_setOff_30 rfl (lv_at hl 1 rfl) ?_
    refine lv_aload_n hx hb dX6_setOff_31 rfl (lv_at hl 2 rfl) ?_
    refine z_cv0 (z_runV (As := [.ref (ad (48 + i))]) (rest := []) M hw (zc_t0 hC) zc_X6_243 (c_X6_arrive l base D cA ad ty (zBeg (zu (zu I (48 + i) 1 a) (48 + i) 2 b) (48 + i) 1 (zHours (I (48 + i) 1) (I (48 + i) 2) (I (48 + i) 0) a b)) L P ni nc ns nt hC i hi (zSc_c (by first | rfl | ((try simp only [zBeg]); (repeat rw [zu_ne _ _ (by omega)]))) hsc)) hw.1 rfl rfl ⟨Nat.le_of_ble_eq_true rfl, Nat.le_of_ble_eq_true rfl⟩ ⟨Nat.le_of_ble_eq_true rfl, Nat.le_of_ble_eq_true rfl⟩ hl.1 (Nat.le_of_ble_eq_true rfl) dX6_setOff_32) hw (fun H locs hw => ?_)
    refine lv_iload hx hb dX6_setOff_35 (lv_at hl 0 rfl) ?_
    exact z_iret hx hb hr (by rfl) rfl hw.2 (by unfold zSet; (try first | rw [if_pos c1] | rw [if_neg c1]); exact hw.1) (Nat.le_of_ble_eq_true rfl) (Nat.le_of_ble_eq_true rfl) dX6_setOff_37 hlocks
