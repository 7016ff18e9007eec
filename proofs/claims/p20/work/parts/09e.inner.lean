set_option maxHeartbeats 4000000 in
set_option maxRecDepth 100000 in
theorem c_X6_hasItsFault (l : Launch) (base : Nat) (D : zDD) (cA : Nat → ClassId) (ad : Nat → Nat) (ty : zTyp) (I : zIt) (L : zLt) (P : zPt) (ni nc ns nt : Nat) (hC : zcls ni nc ns nt ty P) (i : Nat) (hi : i < ns) (hsc : I (48 + i) 5 = -1 ∨ (I (48 + i) 5 = nI (I (48 + i) 5).toNatClampNeg ∧ (I (48 + i) 5).toNatClampNeg < nc)) : zMi l base D cA yX6_hasItsFault cX6_hasItsFault 2 .boolean 1 21 0 0 [.ref (ad 0), .ref (ad (48 + i))] (zW base D cA ad ty I L P) (zb (zIts I (48 + i))) (zW base D cA ad ty I L P) := by
  refine z_start (by decide +kernel) (Nat.le_of_ble_eq_true rfl) fun p e s m below meth c ls M hP hS hl hr hlocks hnm => ?_
  have M : zM p s m c cX6_hasItsFault RX6 2 base D cA := M
  have hw : zH base D cA s s.heap [] ad ty I L P := ⟨hP, hS⟩
  obtain ⟨hx, hb, -⟩ := id M
  have hl : lv_has ls 2 [(0, .ref (ad 0)), (1, .ref (ad (48 + i)))] := hl
  obtain ⟨hb1, hb2, hb3, hb4⟩ := zc_b hC
  refine lv_aload_n hx hb dX6_hasItsFault_0 rfl (lv_at hl 1 rfl) ?_
  refine z_geti M hw (zc_tS hC (by omega)) zf_X6_259 dX6_hasItsFault_1 ?_
  refine lv_iconst (v := (-1)) hx hb dX6_hasItsFault_4 (by decide) ?_
  refine lv_icmp_eq (tgt := 34) hx hb dX6_hasItsFault_5 (by decide) (fun c1 => ?_) (fun c1 => ?_)
  · skip
    refine lv_iconst (v := 0) hx hb dX6_hasItsFault_34 (by decide) ?_
    exact z_iret hx hb hr (by rw [zb_0 (fun h => h.1 c1)]) rfl hw.2 hw.1 (Nat.le_of_ble_eq_true rfl) (Nat.le_of_ble_eq_true rfl) dX6_hasItsFault_35 hlocks
  · skip
    have hcn := hsc.resolve_left c1
    refine lv_aload_n hx hb dX6_hasItsFault_8 rfl (lv_at hl 0 rfl) ?_
    refine z_getr M hw (zc_t0 hC) zf_X6_22 (zc_p02 hC) dX6_hasItsFault_9 ?_
    refine z_getr M hw (zc_t1 hC) zf_X6_79 (zc_p10 hC) dX6_hasItsFault_12 ?_
    refine lv_aload_n hx hb dX6_hasItsFault_15 rfl (lv_at hl 1 rfl) ?_
    refine z_geti M hw (zc_tS hC (by omega)) zf_X6_259 dX6_hasItsFault_16 ?_
    refine z_aNald M hw (e9 := 3) (zc_t3 hC) ⟨by decide, rfl⟩ hcn.1 ⟨by have := hcn.2; omega, by omega⟩ (zc_pC hC hcn.2) dX6_hasItsFault_19 ?_
    refine lv_aload_n hx hb dX6_hasItsFault_20 rfl (lv_at hl 1 rfl) ?_
    refine z_geti M hw (zc_tS hC (by omega)) zf_X6_262 dX6_hasItsFault_21 ?_
    refine z_ci0 (z_runV (As := [.int (I (48 + i) 6)]) (rest := []) M hw (zc_tC hC hcn.2) zc_X6_89 (c_X0_hasFaultAt l base D cA ad ty I L P (32 + (I (48 + i) 5).toNatClampNeg) 0 (zc_tC hC hcn.2) (I (48 + i) 6)) hw.1 rfl rfl ⟨Nat.le_of_ble_eq_true rfl, Nat.le_of_ble_eq_true rfl⟩ ⟨Nat.le_of_ble_eq_true rfl, Nat.le_of_ble_eq_true rfl⟩ hl.1 (Nat.le_of_ble_eq_true rfl) dX6_hasItsFault_24) hw (fun H locs hw => ?_)
    refine lv_if_eq (tgt := 34) hx hb dX6_hasItsFault_27 (by decide) (fun c2 => ?_) (fun c2 => ?_)
    · skip
      have c2 := zb_eq0.mp c2
      refine lv_iconst (v := 0) hx hb dX6_hasItsFault_34 (by decide) ?_
      exact z_iret hx hb hr (by rw [zb_0 (fun h => absurd h.2 c2)]) rfl hw.2 hw.1 (Nat.le_of_ble_eq_true rfl) (Nat.le_of_ble_eq_true rfl) dX6_hasItsFault_35 hlocks
    · skip
      have c2 := zb_ne0.mp c2
      refine lv_iconst (v := 1) hx hb dX6_hasItsFault_30 (by decide) ?_
      refine lv_goto (tgt := 35) hx hb dX6_hasItsFault_31 (by decide) ?_
      exact z_iret hx hb hr (by rw [zb_1 ⟨c1, c2⟩]) rfl hw.2 hw.1 (Nat.le_of_ble_eq_true rfl) (Nat.le_of_ble_eq_true rfl) dX6_hasItsFault_35 hlocks
set_option maxHeartbeats 4000000 in
set_option maxRecDepth 100000 in
theorem c_X6_arrive (l : Launch) (base : Nat) (D : zDD) (cA : Nat → ClassId) (ad : Nat → Nat) (ty : zTyp) (I : zIt) (L : zLt) (P : zPt) (ni nc ns nt : Nat) (hC : zcls ni nc ns nt ty P) (i : Nat) (hi : i < ns) (hsc : I (48 + i) 5 = -1 ∨ (I (48 + i) 5 = nI (I (48 + i) 5).toNatClampNeg ∧ (I (48 + i) 5).toNatClampNeg < nc)) : zMv l base D cA yX6_arrive cX6_arrive 2 2 42 0 0 [.ref (ad 0), .ref (ad (48 + i))] (zW base D cA ad ty I L P) (zW base D cA ad ty (zArr I (48 + i)) L P) := by
  refine z_start (by decide +kernel) (Nat.le_of_ble_eq_true rfl) fun p e s m below meth c ls M hP hS hl hr hlocks hnm => ?_
  have M : zM p s m c cX6_arrive RX6 2 base D cA := M
  have hw : zH base D cA s s.heap [] ad ty I L P := ⟨hP, hS⟩
  obtain ⟨hx, hb, -⟩ := id M
  have hl : lv_has ls 2 [(0, .ref (ad 0)), (1, .ref (ad (48 + i)))] := hl
  obtain ⟨hb1, hb2, hb3, hb4⟩ := zc_b hC
  refine lv_aload_n hx hb dX6_arrive_0 rfl (lv_at hl 0 rfl) ?_
  refine lv_aload_n hx hb dX6_arrive_1 rfl (lv_at hl 1 rfl) ?_
  refine z_ci0 (z_runV (As := [.ref (ad (48 + i))]) (rest := []) M hw (zc_t0 hC) zc_X6_255 (c_X6_hasItsFault l base D cA ad ty I L P ni nc ns nt hC i hi hsc) hw.1 rfl rfl ⟨Nat.le_of_ble_eq_true rfl, Nat.le_of_ble_eq_true rfl⟩ ⟨Nat.le_of_ble_eq_true rfl, Nat.le_of_ble_eq_true rfl⟩ hl.1 (Nat.le_of_ble_eq_true rfl) dX6_arrive_2) hw (fun H locs hw => ?_)
  refine lv_if_eq (tgt := 18) hx hb dX6_arrive_5 (by decide) (fun c1 => ?_) (fun c1 => ?_)
  · skip
    have c1 := zb_eq0.mp c1
    refine lv_aload_n hx hb dX6_arrive_18 rfl (lv_at hl 1 rfl) ?_
    refine lv_iconst (v := 0) hx hb dX6_arrive_19 (by decide) ?_
    refine lv_iconst (v := 0) hx hb dX6_arrive_20 (by decide) ?_
    refine z_cv0 (z_runV (As := [.int 0, .int 0]) (rest := []) M hw (zc_tS hC (by omega)) zc_X6_246 (c_X3_begin l base D cA ad ty I L P (48 + i) 0 (zc_tS hC hi) 0 0) hw.1 rfl rfl ⟨Nat.le_of_ble_eq_true rfl, Nat.le_of_ble_eq_true rfl⟩ ⟨Nat.le_of_ble_eq_true rfl, Nat.le_of_ble_eq_true rfl⟩ hl.1 (Nat.le_of_ble_eq_true rfl) dX6_arrive_21) hw (fun H locs hw => ?_)
    exact z_vret hx hb hr hw.2 (by unfold zArr; (try first | rw [if_pos c1] | rw [if_neg c1]); exact hw.1) (Nat.le_of_ble_eq_true rfl) (Nat.le_of_ble_eq_true rfl) dX6_arrive_24 hlocks
  · skip
    have c1 := zb_ne0.mp c1
    refine lv_aload_n hx hb dX6_arrive_8 rfl (lv_at hl 1 rfl) ?_
    refine lv_iconst (v := 2) hx hb dX6_arrive_9 (by decide) ?_
    refine lv_bipush (v := 6) hx hb dX6_arrive_10 (by decide) ?_
    refine z_cv0 (z_runV (As := [.int 2, .int 6]) (rest := []) M hw (zc_tS hC (by omega)) zc_X6_246 (c_X3_begin l base D cA ad ty I L P (48 + i) 0 (zc_tS hC hi) 2 6) hw.1 rfl rfl ⟨Nat.le_of_ble_eq_true rfl, Nat.le_of_ble_eq_true rfl⟩ ⟨Nat.le_of_ble_eq_true rfl, Nat.le_of_ble_eq_true rfl⟩ hl.1 (Nat.le_of_ble_eq_true rfl) dX6_arrive_12) hw (fun H locs hw => ?_)
    refine lv_goto (tgt := 24) hx hb dX6_arrive_15 (by decide) ?_
    exact z_vret hx hb hr hw.2 (by unfold zArr; (try first | rw [if_pos c1] | rw [if_neg c1]); exact hw.1) (Nat.le_of_ble_eq_true rfl) (Nat.le_of_ble_eq_true rfl) dX6_arrive_24 hlocks
set_option maxHeartbeats 4000000 in
set_option maxRecDepth 100000 in
theorem c_X6_mend (l : Launch) (base : Nat) (D : zDD) (cA : Nat → ClassId) (ad : Nat → Nat) (ty : zTyp) (I : zIt) (L : zLt) (P : zPt) (ni nc ns nt : Nat) (hC : zcls ni nc ns nt ty P) (i : Nat) (hi : i < ns) (hsc : I (48 + i) 5 = -1 ∨ (I (48 + i) 5 = nI (I (48 + i) 5).toNatClampNeg ∧ (I (48 + i) 5).toNatClampNeg < nc)) (hf : I 1 3 = nI (zNf I)) (hf8 : zNf I ≤ 128) : zMv l base D cA yX6_mend cX6_mend 2 2 45 0 0 [.ref (ad 0), .ref (ad (48 + i))] (zW base D cA ad ty I L P) (zW base D cA ad ty (zMend I (48 + i)) L P) := by
  refine z_start (by decide +kernel) (Nat.le_of_ble_eq_true rfl) fun p e s m below meth c ls M hP hS hl hr hlocks hnm => ?_
  have M : zM p s m c cX6_mend RX6 2 base D cA := M
  have hw : zH base D cA s s.heap [] ad ty I L P := ⟨hP, hS⟩
  obtain ⟨hx, hb, -⟩ := id M
  have hl : lv_has ls 2 [(0, .ref (ad 0)), (1, .ref (ad (48 + i)))] := hl
  obtain ⟨hb1, hb2, hb3, hb4⟩ := zc_b hC
  refine lv_aload_n hx hb dX6_mend_0 rfl (lv_at hl 0 rfl) ?_
  refine lv_aload_n hx hb dX6_mend_1 rfl (lv_at hl 1 rfl) ?_
  refine z_ci0 (z_runV (As := [.ref (ad (48 + i))]) (rest := []) M hw (zc_t0 hC) zc_X6_255 (c_X6_hasItsFault l base D cA ad ty I L P ni nc ns nt hC i hi hsc) hw.1 rfl rfl ⟨Nat.le_of_ble_eq_true rfl, Nat.le_of_ble_eq_true rfl⟩ ⟨Nat.le_of_ble_eq_true rfl, Nat.le_of_ble_eq_true rfl⟩ hl.1 (Nat.le_of_ble_eq_true rfl) dX6_mend_2) hw (fun H locs hw => ?_)
  refine lv_if_eq (tgt := 38) hx hb dX6_mend_5 (by decide) (fun c1 => ?_) (fun c1 => ?_)
  · skip
    have c1 := zb_eq0.mp c1
    refine lv_aload_n hx hb dX6_mend_38 rfl (lv_at hl 1 rfl) ?_
    refine lv_iconst (v := 0) hx hb dX6_mend_39 (by decide) ?_
    refine lv_iconst (v := 0) hx hb dX6_mend_40 (by decide) ?_
    refine z_cv0 (z_runV (As := [.int 0, .int 0]) (rest := []) M hw (zc_tS hC (by omega)) zc_X6_246 (c_X3_begin l base D cA ad ty I L P (48 + i) 0 (zc_tS hC hi) 0 0) hw.1 rfl rfl ⟨Nat.le_of_ble_eq_true rfl, Nat.le_of_ble_eq_true rfl⟩ ⟨Nat.le_of_ble_eq_true rfl, Nat.le_of_ble_eq_true rfl⟩ hl.1 (Nat.le_of_ble_eq_true rfl) dX6_mend_41) hw (fun H locs hw => ?_)
    exact z_vret hx hb hr hw.2 (by unfold zMend; (try first | rw [if_pos c1] | rw [if_neg c1]); exact hw.1) (Nat.le_of_ble_eq_true rfl) (Nat.le_of_ble_eq_true rfl) dX6_mend_44 hlocks
  · skip
    have c1 := zb_ne0.mp c1
    have hcn := hsc.resolve_left c1.1
    refine lv_aload_n hx hb dX6_mend_8 rfl (lv_at hl 0 rfl) ?_
    refine z_getr M hw (zc_t0 hC) zf_X6_22 (zc_p02 hC) dX6_mend_9 ?_
    refine lv_aload_n hx hb dX6_mend_12 rfl (lv_at hl 1 rfl) ?_
    refine z_geti M hw (zc_tS hC (by omega)) zf_X6_259 dX6_mend_13 ?_
    refine z_topi (y := nI (I (48 + i) 5).toNatClampNeg) hcn.1 ?_
    refine lv_aload_n hx hb dX6_mend_16 rfl (lv_at hl 1 rfl) ?_
    refine z_geti M hw (zc_tS hC (by omega)) zf_X6_262 dX6_mend_17 ?_
    refine z_cv0 (z_runV (As := [.int (nI (I (48 + i) 5).toNatClampNeg), .int (I (48 + i) 6)]) (rest := []) M hw (zc_t1 hC) zc_X6_265 (c_X2_removeFault l base D cA ad ty I L P ni nc ns nt hC hf hf8 (I (48 + i) 5).toNatClampNeg hcn.2 (I (48 + i) 6)) hw.1 rfl rfl ⟨Nat.le_of_ble_eq_true rfl, Nat.le_of_ble_eq_true rfl⟩ ⟨Nat.le_of_ble_eq_true rfl, Nat.le_of_ble_eq_true rfl⟩ hl.1 (Nat.le_of_ble_eq_true rfl) dX6_mend_20) hw (fun H locs hw => ?_)
    refine lv_aload_n hx hb dX6_mend_23 rfl (lv_at hl 1 rfl) ?_
    refine lv_dup hx hb dX6_mend_24 rfl ?_
    refine z_geti M hw (zc_tS hC (by omega)) zf_X6_163 dX6_mend_25 ?_
    refine lv_iconst (v := 1) hx hb dX6_mend_28 (by decide) ?_
    refine lv_iadd hx hb dX6_mend_29 ?_
    refine z_puti M hw (zc_tS hC (by omega)) zf_X6_163 (Or.inl rfl) rfl rfl dX6_mend_30 (fun H locs hw => ?_)
    refine lv_aload_n hx hb dX6_mend_33 rfl (lv_at hl 0 rfl) ?_
    refine lv_iconst (v := 1) hx hb dX6_mend_34 (by decide) ?_
    refine z_puti M hw (zc_t0 hC) zf_X6_44 (Or.inl rfl) rfl rfl dX6_mend_35 (fun H locs hw => ?_)
    refine lv_aload_n hx hb dX6_mend_38 rfl (lv_at hl 1 rfl) ?_
    refine lv_iconst (v := 0) hx hb dX6_mend_39 (by decide) ?_
    refine lv_iconst (v := 0) hx hb dX6_mend_40 (by decide) ?_
    refine z_cv0 (z_runV (As := [.int 0, .int 0]) (rest := []) M hw (zc_tS hC (by omega)) zc_X6_246 (c_X3_begin l base D cA ad ty (zu (zu (zRmv I (I (48 + i) 5).toNatClampNeg (I (48 + i) 6)) (48 + i) 7 (((zRmv I (I (48 + i) 5).toNatClampNeg (I (48 + i) 6)) (48 + i) 7) + 1)) 0 7 1) L P (48 + i) 0 (zc_tS hC hi) 0 0) hw.1 rfl rfl ⟨Nat.le_of_ble_eq_true rfl, Nat.le_of_ble_eq_true rfl⟩ ⟨Nat.le_of_ble_eq_true rfl, Nat.le_of_ble_eq_true rfl⟩ hl.1 (Nat.le_of_ble_eq_true rfl) dX6_mend_41) hw (fun H locs hw => ?_)
    exact z_vret hx hb hr hw.2 (by unfold zMend; (try first | rw [if_pos c1] | rw [if_neg c1]); exact hw.1) (Nat.le_of_ble_eq_true rfl) (Nat.le_of_ble_eq_true rfl) dX6_mend_44 hlocks
