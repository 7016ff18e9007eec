set_option maxHeartbeats 4000000 in
set_option maxRecDepth 100000 in
theorem c_X2_removeFault (l : Launch) (base : Nat) (D : zDD) (cA : Nat → ClassId) (ad : Nat → Nat) (ty : zTyp) (I : zIt) (L : zLt) (P : zPt) (ni nc ns nt : Nat) (hC : zcls ni nc ns nt ty P) (hf : I 1 3 = nI (zNf I)) (hf8 : zNf I ≤ 128) (cb : Nat) (hc : cb < nc) (sp : Int32) : zMv l base D cA yX2_removeFault cX2_removeFault 5 1 21 0 0 [.ref (ad 1), .int (nI cb), .int sp] (zW base D cA ad ty I L P) (zW base D cA ad ty (zRmv I cb sp) L P) := by
  refine z_start (by decide +kernel) (Nat.le_of_ble_eq_true rfl) fun p e s m below meth c ls M hP hS hl hr hlocks hnm => ?_
  have M : zM p s m c cX2_removeFault RX2 5 base D cA := M
  have hw : zH base D cA s s.heap [] ad ty I L P := ⟨hP, hS⟩
  obtain ⟨hx, hb, -⟩ := id M
  have hl : lv_has ls 5 [(0, .ref (ad 1)), (1, .int (nI cb)), (2, .int sp)] := hl
  obtain ⟨hb1, hb2, hb3, hb4⟩ := zc_b hC
  refine lv_iconst (v := 0) hx hb dX2_removeFault_0 (by decide) ?_
  refine lv_istore_n (lv' := [(3, .int 0), (0, .ref (ad 1)), (1, .int (nI cb)), (2, .int sp)]) hx hb dX2_removeFault_1 rfl hl (by decide) rfl (fun ls hl => ?_)
  refine lv_iconst (v := 0) hx hb dX2_removeFault_2 (by decide) ?_
  refine lv_istore (lv' := [(4, .int 0), (3, .int 0), (0, .ref (ad 1)), (1, .int (nI cb)), (2, .int sp)]) hx hb dX2_removeFault_3 hl (by decide) rfl (fun ls hl => ?_)
  refine z_loop (zNf I) (fun (k : Nat) H locs ls => ∃ (q : Nat), ∃ (f : Nat → Int32), (zRf (8 * nI cb + sp) (I 6) k = (q, f)) ∧ zH base D cA s H locs ad ty (zs I 6 f) L P ∧ lv_has ls 5 [(0, .ref (ad 1)), (1, .int (nI cb)), (2, .int sp), (3, .int (nI q)), (4, .int (nI k))]) 0 ⟨_, _, rfl, (by rw [zs_id]; exact hw), lv_sub hl [2, 3, 4, 1, 0] rfl⟩ (by omega) (fun k hk_k ih_k H locs ls hI => ?_)
  obtain ⟨q, f, hq, hw, hl⟩ := hI
  have hqk : q ≤ k := by have := zRf_le (8 * nI cb + sp) (I 6) k; rw [hq] at this; exact this
  refine lv_iload hx hb dX2_removeFault_5 (lv_at hl 4 rfl) ?_
  refine lv_aload_n hx hb dX2_removeFault_7 rfl (lv_at hl 0 rfl) ?_
  refine z_geti M hw (zc_t1 hC) zf_X2_25 dX2_removeFault_8 ?_
  refine z_topi (y := I 1 3) (by rw [zs_ne _ _ (by omega)]) ?_
  refine z_topi (y := nI (zNf I)) hf ?_
  refine lv_icmp_ge (tgt := 51) hx hb dX2_removeFault_11 (by decide) (fun c1 => ?_) (fun c1 => ?_)
  · skip
    have hge : k = zNf I := Nat.le_antisymm (by omega) (z_ge (show nI (zNf I) ≤ nI k from c1) (by omega) (by omega))
    rw [hge] at hq
    refine lv_aload_n hx hb dX2_removeFault_51 rfl (lv_at hl 0 rfl) ?_
    refine lv_iload_n hx hb dX2_removeFault_52 rfl (lv_at hl 3 rfl) ?_
    refine z_puti M hw (zc_t1 hC) zf_X2_25 (Or.inl rfl) rfl rfl dX2_removeFault_53 (fun H locs hw => ?_)
    refine lv_aload_n hx hb dX2_removeFault_56 rfl (lv_at hl 0 rfl) ?_
    refine z_getr M hw (zc_t1 hC) zf_X2_11 (zc_p10 hC) dX2_removeFault_57 ?_
    refine lv_iload_n hx hb dX2_removeFault_60 rfl (lv_at hl 1 rfl) ?_
    refine z_aNald M hw (e9 := 3) (zc_t3 hC) ⟨by decide, rfl⟩ rfl ⟨by omega, by omega⟩ (zc_pC hC (by omega)) dX2_removeFault_61 ?_
    refine lv_dup hx hb dX2_removeFault_62 rfl ?_
    refine z_geti M hw (zc_tC hC (by omega)) zf_X2_35 dX2_removeFault_63 ?_
    refine z_topi (y := I (32 + cb) 5) (by rw [zu_ne _ _ (by omega), zs_ne _ _ (by omega)]) ?_
    refine lv_iconst (v := 1) hx hb dX2_removeFault_66 (by decide) ?_
    refine lv_iload_n hx hb dX2_removeFault_67 rfl (lv_at hl 2 rfl) ?_
    refine lv_ishl hx hb dX2_removeFault_68 ?_
    refine lv_iconst (v := (-1)) hx hb dX2_removeFault_69 (by decide) ?_
    refine lv_ixor hx hb dX2_removeFault_70 ?_
    refine lv_iand hx hb dX2_removeFault_71 ?_
    refine z_puti M hw (zc_tC hC (by omega)) zf_X2_35 (Or.inl rfl) rfl rfl dX2_removeFault_72 (fun H locs hw => ?_)
    exact z_vret hx hb hr hw.2 (by unfold zRmv; rw [hq]; exact hw.1) (Nat.le_of_ble_eq_true rfl) (Nat.le_of_ble_eq_true rfl) dX2_removeFault_75 hlocks
  · skip
    have hlt : k < zNf I := z_lt (show ¬ nI (zNf I) ≤ nI k from c1) (by omega)
    refine lv_aload_n hx hb dX2_removeFault_14 rfl (lv_at hl 0 rfl) ?_
    refine z_getr M hw (zc_t1 hC) zf_X2_21 (zc_p12 hC) dX2_removeFault_15 ?_
    refine lv_iload hx hb dX2_removeFault_18 (lv_at hl 4 rfl) ?_
    refine z_iNald M hw (zc_t6 hC) rfl ⟨by omega, by omega⟩ dX2_removeFault_20 ?_
    refine z_topi (y := f k) (by rw [zs_self]) ?_
    refine lv_iload_n hx hb dX2_removeFault_21 rfl (lv_at hl 1 rfl) ?_
    refine lv_iload_n hx hb dX2_removeFault_22 rfl (lv_at hl 2 rfl) ?_
    refine z_ci0 (z_runS (As := [.int (nI cb), .int sp]) (rest := [.int (f k)]) M hw.2 zc_X2_38 (c_X2_faultCode l base D cA ad ty (zs I 6 f) L P (nI cb) sp) hw.1 rfl rfl ⟨Nat.le_of_ble_eq_true rfl, Nat.le_of_ble_eq_true rfl⟩ ⟨Nat.le_of_ble_eq_true rfl, Nat.le_of_ble_eq_true rfl⟩ hl.1 (Nat.le_of_ble_eq_true rfl) dX2_removeFault_23) hw (fun H locs hw => ?_)
    refine lv_icmp_eq (tgt := 45) hx hb dX2_removeFault_26 (by decide) (fun c2 => ?_) (fun c2 => ?_)
    · skip
      refine lv_iinc (v := nI (k + 1)) (lv' := [(4, .int (nI (k + 1))), (0, .ref (ad 1)), (1, .int (nI cb)), (2, .int sp), (3, .int (nI q))]) hx hb dX2_removeFault_45 hl (k := 4) rfl (nI_succ _).symm (by decide) rfl (fun ls hl => ?_)
      refine lv_goto (tgt := 5) hx hb dX2_removeFault_48 (by decide) ?_
      exact ih_k hlt _ _ _ ⟨_, _, (by rw [show zRf (8 * nI cb + sp) (I 6) (k + 1) = zRf1 (8 * nI cb + sp) (zRf (8 * nI cb + sp) (I 6) k) k from rfl, hq, zRf1]; dsimp only; rw [if_pos c2]), hw, lv_sub hl [1, 2, 3, 4, 0] rfl⟩
    · skip
      refine lv_aload_n hx hb dX2_removeFault_29 rfl (lv_at hl 0 rfl) ?_
      refine z_getr M hw (zc_t1 hC) zf_X2_21 (zc_p12 hC) dX2_removeFault_30 ?_
      refine lv_iload_n hx hb dX2_removeFault_33 rfl (lv_at hl 3 rfl) ?_
      refine lv_aload_n hx hb dX2_removeFault_34 rfl (lv_at hl 0 rfl) ?_
      refine z_getr M hw (zc_t1 hC) zf_X2_21 (zc_p12 hC) dX2_removeFault_35 ?_
      refine lv_iload hx hb dX2_removeFault_38 (lv_at hl 4 rfl) ?_
      refine z_iNald M hw (zc_t6 hC) rfl ⟨by omega, by omega⟩ dX2_removeFault_40 ?_
      refine z_topi (y := f k) (by rw [zs_self]) ?_
      refine z_iNast M hw (zc_t6 hC) rfl ⟨by omega, by omega⟩ dX2_removeFault_41 (fun H locs hw => ?_)
      refine lv_iinc (v := nI (q + 1)) (lv' := [(3, .int (nI (q + 1))), (0, .ref (ad 1)), (1, .int (nI cb)), (2, .int sp), (4, .int (nI k))]) hx hb dX2_removeFault_42 hl (k := 3) rfl (nI_succ _).symm (by decide) rfl (fun ls hl => ?_)
      refine lv_iinc (v := nI (k + 1)) (lv' := [(4, .int (nI (k + 1))), (3, .int (nI (q + 1))), (0, .ref (ad 1)), (1, .int (nI cb)), (2, .int sp)]) hx hb dX2_removeFault_45 hl (k := 4) rfl (nI_succ _).symm (by decide) rfl (fun ls hl => ?_)
      refine lv_goto (tgt := 5) hx hb dX2_removeFault_48 (by decide) ?_
      exact ih_k hlt _ _ _ ⟨_, _, (by rw [show zRf (8 * nI cb + sp) (I 6) (k + 1) = zRf1 (8 * nI cb + sp) (zRf (8 * nI cb + sp) (I 6) k) k from rfl, hq, zRf1]; dsimp only; rw [if_neg c2]), (by rw [zu_zs] at hw; exact hw), lv_sub hl [2, 3, 4, 1, 0] rfl⟩
set_option maxHeartbeats 4000000 in
set_option maxRecDepth 100000 in
theorem c_X2_addFault (l : Launch) (base : Nat) (D : zDD) (cA : Nat → ClassId) (ad : Nat → Nat) (ty : zTyp) (I : zIt) (L : zLt) (P : zPt) (ni nc ns nt : Nat) (hC : zcls ni nc ns nt ty P) (hf : I 1 3 = nI (zNf I)) (hf8 : zNf I < 128) (cb : Nat) (hc : cb < nc) (sp : Int32) : zMi l base D cA yX2_addFault cX2_addFault 3 .int 1 21 0 0 [.ref (ad 1), .int (nI cb), .int sp] (zW base D cA ad ty I L P) (nI (zNf I + 1)) (zW base D cA ad ty (zAddF I cb sp) L P) := by
  refine z_start (by decide +kernel) (Nat.le_of_ble_eq_true rfl) fun p e s m below meth c ls M hP hS hl hr hlocks hnm => ?_
  have M : zM p s m c cX2_addFault RX2 3 base D cA := M
  have hw : zH base D cA s s.heap [] ad ty I L P := ⟨hP, hS⟩
  obtain ⟨hx, hb, -⟩ := id M
  have hl : lv_has ls 3 [(0, .ref (ad 1)), (1, .int (nI cb)), (2, .int sp)] := hl
  obtain ⟨hb1, hb2, hb3, hb4⟩ := zc_b hC
  refine lv_aload_n hx hb dX2_addFault_0 rfl (lv_at hl 0 rfl) ?_
  refine z_getr M hw (zc_t1 hC) zf_X2_11 (zc_p10 hC) dX2_addFault_1 ?_
  refine lv_iload_n hx hb dX2_addFault_4 rfl (lv_at hl 1 rfl) ?_
  refine z_aNald M hw (e9 := 3) (zc_t3 hC) ⟨by decide, rfl⟩ rfl ⟨by omega, by omega⟩ (zc_pC hC (by omega)) dX2_addFault_5 ?_
  refine lv_dup hx hb dX2_addFault_6 rfl ?_
  refine z_geti M hw (zc_tC hC (by omega)) zf_X2_35 dX2_addFault_7 ?_
  refine lv_iconst (v := 1) hx hb dX2_addFault_10 (by decide) ?_
  refine lv_iload_n hx hb dX2_addFault_11 rfl (lv_at hl 2 rfl) ?_
  refine lv_ishl hx hb dX2_addFault_12 ?_
  refine lv_ior hx hb dX2_addFault_13 ?_
  refine z_puti M hw (zc_tC hC (by omega)) zf_X2_35 (Or.inl rfl) rfl rfl dX2_addFault_14 (fun H locs hw => ?_)
  refine lv_aload_n hx hb dX2_addFault_17 rfl (lv_at hl 0 rfl) ?_
  refine z_getr M hw (zc_t1 hC) zf_X2_21 (zc_p12 hC) dX2_addFault_18 ?_
  refine lv_aload_n hx hb dX2_addFault_21 rfl (lv_at hl 0 rfl) ?_
  refine z_geti M hw (zc_t1 hC) zf_X2_25 dX2_addFault_22 ?_
  refine z_topi (y := I 1 3) (by rw [zu_ne _ _ (by omega)]) ?_
  refine z_topi (y := nI (zNf I)) hf ?_
  refine lv_iload_n hx hb dX2_addFault_25 rfl (lv_at hl 1 rfl) ?_
  refine lv_iload_n hx hb dX2_addFault_26 rfl (lv_at hl 2 rfl) ?_
  refine z_ci0 (z_runS (As := [.int (nI cb), .int sp]) (rest := [.int (nI (zNf I)), .ref (ad 6)]) M hw.2 zc_X2_38 (c_X2_faultCode l base D cA ad ty (zu I (32 + cb) 5 ((I (32 + cb) 5) ||| (1 <<< (sp &&& 31)))) L P (nI cb) sp) hw.1 rfl rfl ⟨Nat.le_of_ble_eq_true rfl, Nat.le_of_ble_eq_true rfl⟩ ⟨Nat.le_of_ble_eq_true rfl, Nat.le_of_ble_eq_true rfl⟩ hl.1 (Nat.le_of_ble_eq_true rfl) dX2_addFault_27) hw (fun H locs hw => ?_)
  refine z_iNast M hw (zc_t6 hC) rfl ⟨by omega, by omega⟩ dX2_addFault_30 (fun H locs hw => ?_)
  refine lv_aload_n hx hb dX2_addFault_31 rfl (lv_at hl 0 rfl) ?_
  refine lv_dup hx hb dX2_addFault_32 rfl ?_
  refine z_geti M hw (zc_t1 hC) zf_X2_25 dX2_addFault_33 ?_
  refine z_topi (y := I 1 3) (by rw [zu_ne _ _ (by omega), zu_ne _ _ (by omega)]) ?_
  refine z_topi (y := nI (zNf I)) hf ?_
  refine lv_iconst (v := 1) hx hb dX2_addFault_36 (by decide) ?_
  refine lv_iadd hx hb dX2_addFault_37 ?_
  refine z_puti M hw (zc_t1 hC) zf_X2_25 (Or.inl rfl) rfl rfl dX2_addFault_38 (fun H locs hw => ?_)
  refine lv_aload_n hx hb dX2_addFault_41 rfl (lv_at hl 0 rfl) ?_
  refine z_geti M hw (zc_t1 hC) zf_X2_25 dX2_addFault_42 ?_
  refine z_topi (y := (nI (zNf I)) + 1) (by rw [zu_self]) ?_
  exact z_iret hx hb hr (nI_succ _).symm rfl hw.2 (by unfold zAddF; rw [nI_succ]; exact hw.1) (Nat.le_of_ble_eq_true rfl) (Nat.le_of_ble_eq_true rfl) dX2_addFault_45 hlocks
set_option maxHeartbeats 4000000 in
set_option maxRecDepth 100000 in
theorem c_X2_faultRanked (l : Launch) (base : Nat) (D : zDD) (cA : Nat → ClassId) (ad : Nat → Nat) (ty : zTyp) (I : zIt) (L : zLt) (P : zPt) (ni nc ns nt : Nat) (hC : zcls ni nc ns nt ty P) (hf : I 1 3 = nI (zNf I)) (hf8 : zNf I ≤ 128) (q : Nat) (hq : q < 2 ^ 31) : zMi l base D cA yX2_faultRanked cX2_faultRanked 2 .int 0 0 0 0 [.ref (ad 1), .int (nI q)] (zW base D cA ad ty I L P) (if q < zNf I then I 6 q else -1) (zW base D cA ad ty I L P) := by
  refine z_start (by decide +kernel) (Nat.le_of_ble_eq_true rfl) fun p e s m below meth c ls M hP hS hl hr hlocks hnm => ?_
  have M : zM p s m c cX2_faultRanked RX2 2 base D cA := M
  have hw : zH base D cA s s.heap [] ad ty I L P := ⟨hP, hS⟩
  obtain ⟨hx, hb, -⟩ := id M
  have hl : lv_has ls 2 [(0, .ref (ad 1)), (1, .int (nI q))] := hl
  obtain ⟨hb1, hb2, hb3, hb4⟩ := zc_b hC
  refine lv_iload_n hx hb dX2_faultRanked_0 rfl (lv_at hl 1 rfl) ?_
  refine lv_aload_n hx hb dX2_faultRanked_1 rfl (lv_at hl 0 rfl) ?_
  refine z_geti M hw (zc_t1 hC) zf_X2_25 dX2_faultRanked_2 ?_
  refine z_topi (y := nI (zNf I)) hf ?_
  refine lv_icmp_ge (tgt := 17) hx hb dX2_faultRanked_5 (by decide) (fun c1 => ?_) (fun c1 => ?_)
  · skip
    have hge : ¬ q < zNf I := Nat.not_lt.mpr (z_ge (show nI (zNf I) ≤ nI q from c1) (by omega) hq)
    refine lv_iconst (v := (-1)) hx hb dX2_faultRanked_17 (by decide) ?_
    exact z_iret hx hb hr (by rw [if_neg hge]) rfl hw.2 hw.1 (Nat.le_of_ble_eq_true rfl) (Nat.le_of_ble_eq_true rfl) dX2_faultRanked_18 hlocks
  · skip
    have hlt : q < zNf I := z_lt (show ¬ nI (zNf I) ≤ nI q from c1) hq
    refine lv_aload_n hx hb dX2_faultRanked_8 rfl (lv_at hl 0 rfl) ?_
    refine z_getr M hw (zc_t1 hC) zf_X2_21 (zc_p12 hC) dX2_faultRanked_9 ?_
    refine lv_iload_n hx hb dX2_faultRanked_12 rfl (lv_at hl 1 rfl) ?_
    refine z_iNald M hw (zc_t6 hC) rfl ⟨by omega, by omega⟩ dX2_faultRanked_13 ?_
    refine lv_goto (tgt := 18) hx hb dX2_faultRanked_14 (by decide) ?_
    exact z_iret hx hb hr (by rw [if_pos hlt]) rfl hw.2 hw.1 (Nat.le_of_ble_eq_true rfl) (Nat.le_of_ble_eq_true rfl) dX2_faultRanked_18 hlocks
set_option maxHeartbeats 4000000 in
set_option maxRecDepth 100000 in
theorem c_X2_lay (l : Launch) (base : Nat) (D : zDD) (cA : Nat → ClassId) (ad : Nat → Nat) (ty : zTyp) (I : zIt) (L : zLt) (P : zPt) (ni nc ns nt : Nat) (hC : zcls ni nc ns nt ty P) (hn : I 1 1 = nI nc) (hc : nc < 16) (ht : ty (32 + nc) = some (0, 0)) : zMi l base D cA yX2_lay cX2_lay 2 .int 0 0 0 0 [.ref (ad 1), .ref (ad (32 + nc))] (zW base D cA ad ty I L P) (nI nc) (zW base D cA ad ty (zu I 1 1 (nI (nc + 1))) L (zu P 3 nc (some (32 + nc)))) := by
  refine z_start (by decide +kernel) (Nat.le_of_ble_eq_true rfl) fun p e s m below meth c ls M hP hS hl hr hlocks hnm => ?_
  have M : zM p s m c cX2_lay RX2 2 base D cA := M
  have hw : zH base D cA s s.heap [] ad ty I L P := ⟨hP, hS⟩
  obtain ⟨hx, hb, -⟩ := id M
  have hl : lv_has ls 2 [(0, .ref (ad 1)), (1, .ref (ad (32 + nc)))] := hl
  obtain ⟨hb1, hb2, hb3, hb4⟩ := zc_b hC
  refine lv_aload_n hx hb dX2_lay_0 rfl (lv_at hl 0 rfl) ?_
  refine z_getr M hw (zc_t1 hC) zf_X2_11 (zc_p10 hC) dX2_lay_1 ?_
  refine lv_aload_n hx hb dX2_lay_4 rfl (lv_at hl 0 rfl) ?_
  refine z_geti M hw (zc_t1 hC) zf_X2_17 dX2_lay_5 ?_
  refine z_topi (y := nI nc) hn ?_
  refine lv_aload_n hx hb dX2_lay_8 rfl (lv_at hl 1 rfl) ?_
  refine z_aNast M hw (e9 := 3) (zc_t3 hC) (by decide) ht ⟨by decide, rfl⟩ rfl ⟨by omega, by omega⟩ dX2_lay_9 (fun H locs hw => ?_)
  refine lv_aload_n hx hb dX2_lay_10 rfl (lv_at hl 0 rfl) ?_
  refine lv_dup hx hb dX2_lay_11 rfl ?_
  refine z_geti M hw (zc_t1 hC) zf_X2_17 dX2_lay_12 ?_
  refine z_topi (y := nI nc) hn ?_
  refine lv_iconst (v := 1) hx hb dX2_lay_15 (by decide) ?_
  refine lv_iadd hx hb dX2_lay_16 ?_
  refine z_puti M hw (zc_t1 hC) zf_X2_17 (Or.inl rfl) rfl rfl dX2_lay_17 (fun H locs hw => ?_)
  refine lv_aload_n hx hb dX2_lay_20 rfl (lv_at hl 0 rfl) ?_
  refine z_geti M hw (zc_t1 hC) zf_X2_17 dX2_lay_21 ?_
  refine z_topi (y := (nI nc) + 1) (by rw [zu_self]) ?_
  refine lv_iconst (v := 1) hx hb dX2_lay_24 (by decide) ?_
  refine lv_isub hx hb dX2_lay_25 ?_
  exact z_iret hx hb hr (by rw [← nI_succ, nI_pred]) rfl hw.2 (by rw [← nI_succ] at hw; exact hw.1) (Nat.le_of_ble_eq_true rfl) (Nat.le_of_ble_eq_true rfl) dX2_lay_26 hlocks
set_option maxHeartbeats 4000000 in
set_option maxRecDepth 100000 in
theorem c_X4_settleHour (l : Launch) (base : Nat) (D : zDD) (cA : Nat → ClassId) (ad : Nat → Nat) (ty : zTyp) (I : zIt) (L : zLt) (P : zPt) (ni nc ns nt : Nat) (hC : zcls ni nc ns nt ty P) (t : Nat) (ht : t < nt) : zMv l base D cA yX4_settleHour cX4_settleHour 1 2 42 0 0 [.ref (ad (64 + t))] (zW base D cA ad ty I L P) (zW base D cA ad ty (zSetI I t) (zSetL I L t) P) := by
  refine z_start (by decide +kernel) (Nat.le_of_ble_eq_true rfl) fun p e s m below meth c ls M hP hS hl hr hlocks hnm => ?_
  have M : zM p s m c cX4_settleHour RX4 1 base D cA := M
  have hw : zH base D cA s s.heap [] ad ty I L P := ⟨hP, hS⟩
  obtain ⟨hx, hb, -⟩ := id M
  have hl : lv_has ls 1 [(0, .ref (ad (64 + t)))] := hl
  obtain ⟨hb1, hb2, hb3, hb4⟩ := zc_b hC
  refine lv_aload_n hx hb dX4_settleHour_0 rfl (lv_at hl 0 rfl) ?_
  refine z_getr M hw (zc_tT hC (by omega)) zf_X4_12 (zc_pW hC (by omega)) dX4_settleHour_1 ?_
  refine z_geti M hw (zc_tW hC (by omega)) zf_X4_50 dX4_settleHour_4 ?_
  refine lv_iconst (v := (-1)) hx hb dX4_settleHour_7 (by decide) ?_
  refine lv_icmp_ne (tgt := 30) hx hb dX4_settleHour_8 (by decide) (fun c1 => ?_) (fun c1 => ?_)
  · skip
    refine lv_aload_n hx hb dX4_settleHour_30 rfl (lv_at hl 0 rfl) ?_
    refine lv_dup hx hb dX4_settleHour_31 rfl ?_
    refine z_getl M hw (zc_tT hC (by omega)) zf_X4_18 dX4_settleHour_32 ?_
    refine lv_aload_n hx hb dX4_settleHour_35 rfl (lv_at hl 0 rfl) ?_
    refine z_getr M hw (zc_tT hC (by omega)) zf_X4_12 (zc_pW hC (by omega)) dX4_settleHour_36 ?_
    refine z_geti M hw (zc_tW hC (by omega)) zf_X4_57 dX4_settleHour_39 ?_
    refine lv_i2l hx hb dX4_settleHour_42 rfl ?_
    refine lv_ladd hx hb dX4_settleHour_43 ?_
    refine z_putl M hw (zc_tT hC (by omega)) zf_X4_18 (Or.inl rfl) rfl rfl dX4_settleHour_44 (fun H locs hw => ?_)
    refine lv_aload_n hx hb dX4_settleHour_47 rfl (lv_at hl 0 rfl) ?_
    refine z_getr M hw (zc_tT hC (by omega)) zf_X4_12 (zc_pW hC (by omega)) dX4_settleHour_48 ?_
    refine z_geti M hw (zc_tW hC (by omega)) zf_X4_60 dX4_settleHour_51 ?_
    refine lv_aload_n hx hb dX4_settleHour_54 rfl (lv_at hl 0 rfl) ?_
    refine z_geti M hw (zc_tT hC (by omega)) zf_X4_38 dX4_settleHour_55 ?_
    refine lv_icmp_le (tgt := 79) hx hb dX4_settleHour_58 (by decide) (fun c2 => ?_) (fun c2 => ?_)
    · skip
      have c2 : ¬ I (64 + t) 2 < I (80 + t) 3 := Int32.not_lt.mpr c2
      exact z_vret hx hb hr hw.2 (by unfold zSetI zSetL; (try first | rw [if_pos c1] | rw [if_neg c1]); (try first | rw [if_pos c2] | rw [if_neg c2]); (try first | rw [if_pos c1] | rw [if_neg c1]); (try first | rw [if_pos c2] | rw [if_neg c2]); exact hw.1) (Nat.le_of_ble_eq_true rfl) (Nat.le_of_ble_eq_true rfl) dX4_settleHour_79 hlocks
    · skip
      have c2 : I (64 + t) 2 < I (80 + t) 3 := Int32.not_le.mp c2
      refine lv_aload_n hx hb dX4_settleHour_61 rfl (lv_at hl 0 rfl) ?_
      refine lv_dup hx hb dX4_settleHour_62 rfl ?_
      refine z_geti M hw (zc_tT hC (by omega)) zf_X4_29 dX4_settleHour_63 ?_
      refine lv_iconst (v := 1) hx hb dX4_settleHour_66 (by decide) ?_
      refine lv_iadd hx hb dX4_settleHour_67 ?_
      refine z_puti M hw (zc_tT hC (by omega)) zf_X4_29 (Or.inl rfl) rfl rfl dX4_settleHour_68 (fun H locs hw => ?_)
      refine lv_aload_n hx hb dX4_settleHour_71 rfl (lv_at hl 0 rfl) ?_
      refine lv_aload_n hx hb dX4_settleHour_72 rfl (lv_at hl 0 rfl) ?_
      refine z_geti M hw (zc_tT hC (by omega)) zf_X4_44 dX4_settleHour_73 ?_
      refine z_topi (y := I (64 + t) 4) (by rw [zu_ne _ _ (by omega)]) ?_
      refine z_cv0 (z_runV (As := [.int (I (64 + t) 4)]) (rest := []) M hw (zc_tT hC (by omega)) zc_X4_53 (c_X4_credit l base D cA ad ty (zu I (64 + t) 10 ((I (64 + t) 10) + 1)) (zu L (64 + t) 7 ((L (64 + t) 7) + ((I (80 + t) 2).toInt64))) P (64 + t) 0 (zc_tT hC ht) (I (64 + t) 4)) hw.1 rfl rfl ⟨Nat.le_of_ble_eq_true rfl, Nat.le_of_ble_eq_true rfl⟩ ⟨Nat.le_of_ble_eq_true rfl, Nat.le_of_ble_eq_true rfl⟩ hl.1 (Nat.le_of_ble_eq_true rfl) dX4_settleHour_76) hw (fun H locs hw => ?_)
      simp only [zu_ne (κ := 64 + t) (κ' := 64 + t) (k := 9) (k' := 5) _ _ (by omega), zu_ne (κ := 64 + t) (κ' := 64 + t) (k := 9) (k' := 8) _ _ (by omega), zu_ne (κ := 64 + t) (κ' := 64 + t) (k := 10) (k' := 5) _ _ (by omega), zu_ne (κ := 64 + t) (κ' := 64 + t) (k := 10) (k' := 8) _ _ (by omega)] at hw
      exact z_vret hx hb hr hw.2 (by unfold zSetI zSetL; (try first | rw [if_pos c1] | rw [if_neg c1]); (try first | rw [if_pos c2] | rw [if_neg c2]); (try first | rw [if_pos c1] | rw [if_neg c1]); (try first | rw [if_pos c2] | rw [if_neg c2]); exact hw.1) (Nat.le_of_ble_eq_true rfl) (Nat.le_of_ble_eq_true rfl) dX4_settleHour_79 hlocks
  · skip
    refine lv_aload_n hx hb dX4_settleHour_11 rfl (lv_at hl 0 rfl) ?_
    refine lv_dup hx hb dX4_settleHour_12 rfl ?_
    refine z_geti M hw (zc_tT hC (by omega)) zf_X4_26 dX4_settleHour_13 ?_
    refine lv_iconst (v := 1) hx hb dX4_settleHour_16 (by decide) ?_
    refine lv_iadd hx hb dX4_settleHour_17 ?_
    refine z_puti M hw (zc_tT hC (by omega)) zf_X4_26 (Or.inl rfl) rfl rfl dX4_settleHour_18 (fun H locs hw => ?_)
    refine lv_aload_n hx hb dX4_settleHour_21 rfl (lv_at hl 0 rfl) ?_
    refine lv_aload_n hx hb dX4_settleHour_22 rfl (lv_at hl 0 rfl) ?_
    refine z_geti M hw (zc_tT hC (by omega)) zf_X4_41 dX4_settleHour_23 ?_
    refine z_topi (y := I (64 + t) 3) (by rw [zu_ne _ _ (by omega)]) ?_
    refine z_cv0 (z_runV (As := [.int (I (64 + t) 3)]) (rest := []) M hw (zc_tT hC (by omega)) zc_X4_53 (c_X4_credit l base D cA ad ty (zu I (64 + t) 9 ((I (64 + t) 9) + 1)) L P (64 + t) 0 (zc_tT hC ht) (I (64 + t) 3)) hw.1 rfl rfl ⟨Nat.le_of_ble_eq_true rfl, Nat.le_of_ble_eq_true rfl⟩ ⟨Nat.le_of_ble_eq_true rfl, Nat.le_of_ble_eq_true rfl⟩ hl.1 (Nat.le_of_ble_eq_true rfl) dX4_settleHour_26) hw (fun H locs hw => ?_)
    simp only [zu_ne (κ := 64 + t) (κ' := 64 + t) (k := 9) (k' := 5) _ _ (by omega), zu_ne (κ := 64 + t) (κ' := 64 + t) (k := 9) (k' := 8) _ _ (by omega), zu_ne (κ := 64 + t) (κ' := 64 + t) (k := 10) (k' := 5) _ _ (by omega), zu_ne (κ := 64 + t) (κ' := 64 + t) (k := 10) (k' := 8) _ _ (by omega)] at hw
    exact z_vret hx hb hr hw.2 (by unfold zSetI zSetL; (try first | rw [if_pos c1] | rw [if_neg c1]); (try first | rw [if_pos c1] | rw [if_neg c1]); exact hw.1) (Nat.le_of_ble_eq_true rfl) (Nat.le_of_ble_eq_true rfl) dX4_settleHour_29 hlocks
