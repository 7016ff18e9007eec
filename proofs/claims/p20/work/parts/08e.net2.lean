set_option maxHeartbeats 4000000 in
set_option maxRecDepth 100000 in
theorem c_X2_faultCode (l : Launch) (base : Nat) (D : zDD) (cA : Nat → ClassId) (ad : Nat → Nat) (ty : zTyp) (I : zIt) (L : zLt) (P : zPt) (x y : Int32) : zMi l base D cA yX2_faultCode cX2_faultCode 2 .int 0 0 0 0 [.int x, .int y] (zW base D cA ad ty I L P) (8 * x + y) (zW base D cA ad ty I L P) := by
  refine z_start (by decide +kernel) (Nat.le_of_ble_eq_true rfl) fun p e s m below meth c ls M hP hS hl hr hlocks hnm => ?_
  have M : zM p s m c cX2_faultCode RX2 2 base D cA := M
  have hw : zH base D cA s s.heap [] ad ty I L P := ⟨hP, hS⟩
  obtain ⟨hx, hb, -⟩ := id M
  have hl : lv_has ls 2 [(0, .int x), (1, .int y)] := hl
  refine lv_bipush (v := 8) hx hb dX2_faultCode_0 (by decide) ?_
  refine lv_iload_n hx hb dX2_faultCode_2 rfl (lv_at hl 0 rfl) ?_
  refine lv_imul hx hb dX2_faultCode_3 ?_
  refine lv_iload_n hx hb dX2_faultCode_4 rfl (lv_at hl 1 rfl) ?_
  refine lv_iadd hx hb dX2_faultCode_5 ?_
  exact z_iret hx hb hr (by rfl) rfl hw.2 hw.1 (Nat.le_of_ble_eq_true rfl) (Nat.le_of_ble_eq_true rfl) dX2_faultCode_6 hlocks
set_option maxHeartbeats 4000000 in
set_option maxRecDepth 100000 in
theorem c_X2_lowerSum (l : Launch) (base : Nat) (D : zDD) (cA : Nat → ClassId) (ad : Nat → Nat) (ty : zTyp) (I : zIt) (L : zLt) (P : zPt) (ni nc ns nt : Nat) (hC : zcls ni nc ns nt ty P) (a b : Nat) (ha : a < 10) (hb0 : b < 10) (x : Int32) : zMv l base D cA yX2_lowerSum cX2_lowerSum 4 0 0 0 0 [.ref (ad 1), .int (nI a), .int (nI b), .int x] (zW base D cA ad ty I L P) (zW base D cA ad ty (zs I 8 (zLow (I 8) a b x)) L P) := by
  refine z_start (by decide +kernel) (Nat.le_of_ble_eq_true rfl) fun p e s m below meth c ls M hP hS hl hr hlocks hnm => ?_
  have M : zM p s m c cX2_lowerSum RX2 4 base D cA := M
  have hw : zH base D cA s s.heap [] ad ty I L P := ⟨hP, hS⟩
  obtain ⟨hx, hb, -⟩ := id M
  have hl : lv_has ls 4 [(0, .ref (ad 1)), (1, .int (nI a)), (2, .int (nI b)), (3, .int x)] := hl
  obtain ⟨hb1, hb2, hb3, hb4⟩ := zc_b hC
  refine lv_aload_n hx hb dX2_lowerSum_0 rfl (lv_at hl 0 rfl) ?_
  refine z_getr M hw (zc_t1 hC) zf_X2_32 (zc_p15 hC) dX2_lowerSum_1 ?_
  refine lv_iload_n hx hb dX2_lowerSum_4 rfl (lv_at hl 1 rfl) ?_
  refine z_iNald M hw (zc_t8 hC) rfl ⟨by omega, by omega⟩ dX2_lowerSum_5 ?_
  refine lv_iconst (v := (-1)) hx hb dX2_lowerSum_6 (by decide) ?_
  refine lv_icmp_eq (tgt := 51) hx hb dX2_lowerSum_7 (by decide) (fun c1 => ?_) (fun c1 => ?_)
  · skip
    exact z_vret hx hb hr hw.2 (by unfold zLow; (try first | rw [if_pos c1] | rw [if_neg c1]); rw [zs_id]; exact hw.1) (Nat.le_of_ble_eq_true rfl) (Nat.le_of_ble_eq_true rfl) dX2_lowerSum_51 hlocks
  · skip
    refine lv_aload_n hx hb dX2_lowerSum_10 rfl (lv_at hl 0 rfl) ?_
    refine z_getr M hw (zc_t1 hC) zf_X2_32 (zc_p15 hC) dX2_lowerSum_11 ?_
    refine lv_iload_n hx hb dX2_lowerSum_14 rfl (lv_at hl 2 rfl) ?_
    refine z_iNald M hw (zc_t8 hC) rfl ⟨by omega, by omega⟩ dX2_lowerSum_15 ?_
    refine lv_iconst (v := (-1)) hx hb dX2_lowerSum_16 (by decide) ?_
    refine lv_icmp_eq (tgt := 37) hx hb dX2_lowerSum_17 (by decide) (fun c2 => ?_) (fun c2 => ?_)
    · skip
      refine lv_aload_n hx hb dX2_lowerSum_37 rfl (lv_at hl 0 rfl) ?_
      refine z_getr M hw (zc_t1 hC) zf_X2_32 (zc_p15 hC) dX2_lowerSum_38 ?_
      refine lv_iload_n hx hb dX2_lowerSum_41 rfl (lv_at hl 2 rfl) ?_
      refine lv_aload_n hx hb dX2_lowerSum_42 rfl (lv_at hl 0 rfl) ?_
      refine z_getr M hw (zc_t1 hC) zf_X2_32 (zc_p15 hC) dX2_lowerSum_43 ?_
      refine lv_iload_n hx hb dX2_lowerSum_46 rfl (lv_at hl 1 rfl) ?_
      refine z_iNald M hw (zc_t8 hC) rfl ⟨by omega, by omega⟩ dX2_lowerSum_47 ?_
      refine lv_iload_n hx hb dX2_lowerSum_48 rfl (lv_at hl 3 rfl) ?_
      refine lv_iadd hx hb dX2_lowerSum_49 ?_
      refine z_iNast M hw (zc_t8 hC) rfl ⟨by omega, by omega⟩ dX2_lowerSum_50 (fun H locs hw => ?_)
      exact z_vret hx hb hr hw.2 (by unfold zLow; (try first | rw [if_pos c1] | rw [if_neg c1]); (try first | rw [if_pos c2] | rw [if_neg c2]); rw [zu_row] at hw; exact hw.1) (Nat.le_of_ble_eq_true rfl) (Nat.le_of_ble_eq_true rfl) dX2_lowerSum_51 hlocks
    · skip
      refine lv_aload_n hx hb dX2_lowerSum_20 rfl (lv_at hl 0 rfl) ?_
      refine z_getr M hw (zc_t1 hC) zf_X2_32 (zc_p15 hC) dX2_lowerSum_21 ?_
      refine lv_iload_n hx hb dX2_lowerSum_24 rfl (lv_at hl 1 rfl) ?_
      refine z_iNald M hw (zc_t8 hC) rfl ⟨by omega, by omega⟩ dX2_lowerSum_25 ?_
      refine lv_iload_n hx hb dX2_lowerSum_26 rfl (lv_at hl 3 rfl) ?_
      refine lv_iadd hx hb dX2_lowerSum_27 ?_
      refine lv_aload_n hx hb dX2_lowerSum_28 rfl (lv_at hl 0 rfl) ?_
      refine z_getr M hw (zc_t1 hC) zf_X2_32 (zc_p15 hC) dX2_lowerSum_29 ?_
      refine lv_iload_n hx hb dX2_lowerSum_32 rfl (lv_at hl 2 rfl) ?_
      refine z_iNald M hw (zc_t8 hC) rfl ⟨by omega, by omega⟩ dX2_lowerSum_33 ?_
      refine lv_icmp_ge (tgt := 51) hx hb dX2_lowerSum_34 (by decide) (fun c3 => ?_) (fun c3 => ?_)
      · skip
        exact z_vret hx hb hr hw.2 (by unfold zLow; (try first | rw [if_pos c1] | rw [if_neg c1]); (try first | rw [if_pos c2] | rw [if_neg c2]); (try first | rw [if_pos c3] | rw [if_neg c3]); rw [zs_id]; exact hw.1) (Nat.le_of_ble_eq_true rfl) (Nat.le_of_ble_eq_true rfl) dX2_lowerSum_51 hlocks
      · skip
        refine lv_aload_n hx hb dX2_lowerSum_37 rfl (lv_at hl 0 rfl) ?_
        refine z_getr M hw (zc_t1 hC) zf_X2_32 (zc_p15 hC) dX2_lowerSum_38 ?_
        refine lv_iload_n hx hb dX2_lowerSum_41 rfl (lv_at hl 2 rfl) ?_
        refine lv_aload_n hx hb dX2_lowerSum_42 rfl (lv_at hl 0 rfl) ?_
        refine z_getr M hw (zc_t1 hC) zf_X2_32 (zc_p15 hC) dX2_lowerSum_43 ?_
        refine lv_iload_n hx hb dX2_lowerSum_46 rfl (lv_at hl 1 rfl) ?_
        refine z_iNald M hw (zc_t8 hC) rfl ⟨by omega, by omega⟩ dX2_lowerSum_47 ?_
        refine lv_iload_n hx hb dX2_lowerSum_48 rfl (lv_at hl 3 rfl) ?_
        refine lv_iadd hx hb dX2_lowerSum_49 ?_
        refine z_iNast M hw (zc_t8 hC) rfl ⟨by omega, by omega⟩ dX2_lowerSum_50 (fun H locs hw => ?_)
        exact z_vret hx hb hr hw.2 (by unfold zLow; (try first | rw [if_pos c1] | rw [if_neg c1]); (try first | rw [if_pos c2] | rw [if_neg c2]); (try first | rw [if_pos c3] | rw [if_neg c3]); rw [zu_row] at hw; exact hw.1) (Nat.le_of_ble_eq_true rfl) (Nat.le_of_ble_eq_true rfl) dX2_lowerSum_51 hlocks
set_option maxHeartbeats 4000000 in
set_option maxRecDepth 100000 in
theorem c_X2_priceByRounds (l : Launch) (base : Nat) (D : zDD) (cA : Nat → ClassId) (ad : Nat → Nat) (ty : zTyp) (I : zIt) (L : zLt) (P : zPt) (ni nc ns nt : Nat) (hC : zcls ni nc ns nt ty P) (hn : I 1 1 = nI nc) (hE : zEnds I nc) (u v : Nat) (hu : u < 10) (hv : v < 10) : zMi l base D cA yX2_priceByRounds cX2_priceByRounds 5 .int 1 23 0 0 [.ref (ad 1), .int (nI u), .int (nI v)] (zW base D cA ad ty I L P) (zPrr I nc (zS0 (I 8) u) 9 v) (zW base D cA ad ty (zs I 8 (zPrr I nc (zS0 (I 8) u) 9)) L P) := by
  refine z_start (by decide +kernel) (Nat.le_of_ble_eq_true rfl) fun p e s m below meth c ls M hP hS hl hr hlocks hnm => ?_
  have M : zM p s m c cX2_priceByRounds RX2 5 base D cA := M
  have hw : zH base D cA s s.heap [] ad ty I L P := ⟨hP, hS⟩
  obtain ⟨hx, hb, -⟩ := id M
  have hl : lv_has ls 5 [(0, .ref (ad 1)), (1, .int (nI u)), (2, .int (nI v))] := hl
  obtain ⟨hb1, hb2, hb3, hb4⟩ := zc_b hC
  refine lv_aload_n hx hb dX2_priceByRounds_0 rfl (lv_at hl 0 rfl) ?_
  refine z_getr M hw (zc_t1 hC) zf_X2_32 (zc_p15 hC) dX2_priceByRounds_1 ?_
  refine lv_iconst (v := (-1)) hx hb dX2_priceByRounds_4 (by decide) ?_
  refine z_cv0 (z_runS (As := [.ref (ad 8), .int (-1)]) (rest := []) M hw.2 zc_X2_89 (c_J7_fill_53178 l base D cA ad ty I L P 8 10 (-1) (zc_t8 hC) (by omega)) hw.1 rfl rfl ⟨Nat.le_of_ble_eq_true rfl, Nat.le_of_ble_eq_true rfl⟩ ⟨Nat.le_of_ble_eq_true rfl, Nat.le_of_ble_eq_true rfl⟩ hl.1 (Nat.le_of_ble_eq_true rfl) dX2_priceByRounds_5) hw (fun H locs hw => ?_)
  rw [zfl_rowi] at hw
  refine lv_aload_n hx hb dX2_priceByRounds_8 rfl (lv_at hl 0 rfl) ?_
  refine z_getr M hw (zc_t1 hC) zf_X2_32 (zc_p15 hC) dX2_priceByRounds_9 ?_
  refine lv_iload_n hx hb dX2_priceByRounds_12 rfl (lv_at hl 1 rfl) ?_
  refine lv_iconst (v := 0) hx hb dX2_priceByRounds_13 (by decide) ?_
  refine z_iNast M hw (zc_t8 hC) rfl ⟨by omega, by omega⟩ dX2_priceByRounds_14 (fun H locs hw => ?_)
  refine lv_iconst (v := 1) hx hb dX2_priceByRounds_15 (by decide) ?_
  refine lv_istore_n (lv' := [(3, .int 1), (0, .ref (ad 1)), (1, .int (nI u)), (2, .int (nI v))]) hx hb dX2_priceByRounds_16 rfl hl (by decide) rfl (fun ls hl => ?_)
  refine z_loop (9) (fun (g : Nat) H locs ls => zH base D cA s H locs ad ty (zs I 8 (zPrr I nc (zS0 (I 8) u) g)) L P ∧ lv_has ls 5 [(0, .ref (ad 1)), (1, .int (nI u)), (2, .int (nI v)), (3, .int (nI (g + 1)))]) 0 ⟨(by rw [zu_zs] at hw; exact hw), lv_sub hl [1, 2, 3, 0] rfl⟩ (by omega) (fun g hk_g ih_g H locs ls hI => ?_)
  obtain ⟨hw, hl⟩ := hI
  refine lv_iload_n hx hb dX2_priceByRounds_17 rfl (lv_at hl 3 rfl) ?_
  refine lv_bipush (v := 10) hx hb dX2_priceByRounds_18 (by decide) ?_
  refine lv_icmp_ge (tgt := 128) hx hb dX2_priceByRounds_20 (by decide) (fun c1 => ?_) (fun c1 => ?_)
  · skip
    have hge : 9 = g := by have := z_ge (show nI 10 ≤ nI (g + 1) from c1) (by omega) (by omega); omega
    subst hge
    refine lv_aload_n hx hb dX2_priceByRounds_128 rfl (lv_at hl 0 rfl) ?_
    refine z_getr M hw (zc_t1 hC) zf_X2_32 (zc_p15 hC) dX2_priceByRounds_129 ?_
    refine lv_iload_n hx hb dX2_priceByRounds_132 rfl (lv_at hl 2 rfl) ?_
    refine z_iNald M hw (zc_t8 hC) rfl ⟨by omega, by omega⟩ dX2_priceByRounds_133 ?_
    refine z_topi (y := (zPrr I nc (zS0 (I 8) u) 9) v) (by rw [zs_self]) ?_
    exact z_iret hx hb hr (by rfl) rfl hw.2 hw.1 (Nat.le_of_ble_eq_true rfl) (Nat.le_of_ble_eq_true rfl) dX2_priceByRounds_134 hlocks
  · skip
    have hltg : g < 9 := by have := z_lt (show ¬ nI 10 ≤ nI (g + 1) from c1) (by omega); omega
    refine lv_iconst (v := 0) hx hb dX2_priceByRounds_23 (by decide) ?_
    refine lv_istore (lv' := [(4, .int 0), (0, .ref (ad 1)), (1, .int (nI u)), (2, .int (nI v)), (3, .int (nI (g + 1)))]) hx hb dX2_priceByRounds_24 hl (by decide) rfl (fun ls hl => ?_)
    refine z_loop (nc) (fun (k : Nat) H locs ls => zH base D cA s H locs ad ty (zs I 8 (zPr I (zPrr I nc (zS0 (I 8) u) g) k)) L P ∧ lv_has ls 5 [(0, .ref (ad 1)), (1, .int (nI u)), (2, .int (nI v)), (3, .int (nI (g + 1))), (4, .int (nI k))]) 0 ⟨hw, lv_sub hl [1, 2, 3, 4, 0] rfl⟩ (by omega) (fun k hk_k ih_k H locs ls hI => ?_)
    obtain ⟨hw, hl⟩ := hI
    refine lv_iload hx hb dX2_priceByRounds_26 (lv_at hl 4 rfl) ?_
    refine lv_aload_n hx hb dX2_priceByRounds_28 rfl (lv_at hl 0 rfl) ?_
    refine z_geti M hw (zc_t1 hC) zf_X2_17 dX2_priceByRounds_29 ?_
    refine z_topi (y := I 1 1) (by rw [zs_ne _ _ (by omega)]) ?_
    refine z_topi (y := nI nc) hn ?_
    refine lv_icmp_ge (tgt := 122) hx hb dX2_priceByRounds_32 (by decide) (fun c2 => ?_) (fun c2 => ?_)
    · skip
      have hge : nc = k := Nat.le_antisymm (z_ge (show nI nc ≤ nI k from c2) (by omega) (by omega)) (by omega)
      subst hge
      refine lv_iinc (v := nI ((g + 1) + 1)) (lv' := [(3, .int (nI ((g + 1) + 1))), (0, .ref (ad 1)), (1, .int (nI u)), (2, .int (nI v)), (4, .int (nI nc))]) hx hb dX2_priceByRounds_122 hl (k := 3) rfl (nI_succ _).symm (by decide) rfl (fun ls hl => ?_)
      refine lv_goto (tgt := 17) hx hb dX2_priceByRounds_125 (by decide) ?_
      exact ih_g hltg _ _ _ ⟨hw, lv_sub hl [1, 2, 3, 0] rfl⟩
    · skip
      have hltk : k < nc := z_lt (show ¬ nI nc ≤ nI k from c2) (by omega)
      obtain ⟨⟨a, ha, ea⟩, b, hb0, eb⟩ := hE k hltk
      refine lv_aload_n hx hb dX2_priceByRounds_35 rfl (lv_at hl 0 rfl) ?_
      refine z_getr M hw (zc_t1 hC) zf_X2_11 (zc_p10 hC) dX2_priceByRounds_36 ?_
      refine lv_iload hx hb dX2_priceByRounds_39 (lv_at hl 4 rfl) ?_
      refine z_aNald M hw (e9 := 3) (zc_t3 hC) ⟨by decide, rfl⟩ rfl ⟨by omega, by omega⟩ (zc_pC hC (by omega)) dX2_priceByRounds_41 ?_
      refine z_ci0 (z_runV (As := []) (rest := []) M hw (zc_tC hC (by omega)) zc_X2_92 (c_X0_isWorking l base D cA ad ty (zs I 8 (zPr I (zPrr I nc (zS0 (I 8) u) g) k)) L P (32 + k) 0 (zc_tC hC (by omega))) hw.1 rfl rfl ⟨Nat.le_of_ble_eq_true rfl, Nat.le_of_ble_eq_true rfl⟩ ⟨Nat.le_of_ble_eq_true rfl, Nat.le_of_ble_eq_true rfl⟩ hl.1 (Nat.le_of_ble_eq_true rfl) dX2_priceByRounds_42) hw (fun H locs hw => ?_)
      refine lv_if_eq (tgt := 116) hx hb dX2_priceByRounds_45 (by decide) (fun c3 => ?_) (fun c3 => ?_)
      · skip
        have c3 := zb_eq0.mp c3
        rw [zs_ne _ _ (show 32 + k ≠ 8 by omega)] at c3
        refine lv_iinc (v := nI (k + 1)) (lv' := [(4, .int (nI (k + 1))), (0, .ref (ad 1)), (1, .int (nI u)), (2, .int (nI v)), (3, .int (nI (g + 1)))]) hx hb dX2_priceByRounds_116 hl (k := 4) rfl (nI_succ _).symm (by decide) rfl (fun ls hl => ?_)
        refine lv_goto (tgt := 26) hx hb dX2_priceByRounds_119 (by decide) ?_
        exact ih_k hltk _ _ _ ⟨(by rw [show zPr I (zPrr I nc (zS0 (I 8) u) g) (k + 1) = zPr1 I (zPr I (zPrr I nc (zS0 (I 8) u) g) k) k from rfl, zPr1, if_neg c3]; exact hw), lv_sub hl [1, 2, 3, 4, 0] rfl⟩
      · skip
        have c3 := zb_ne0.mp c3
        rw [zs_ne _ _ (show 32 + k ≠ 8 by omega)] at c3
        refine lv_aload_n hx hb dX2_priceByRounds_48 rfl (lv_at hl 0 rfl) ?_
        refine lv_aload_n hx hb dX2_priceByRounds_49 rfl (lv_at hl 0 rfl) ?_
        refine z_getr M hw (zc_t1 hC) zf_X2_11 (zc_p10 hC) dX2_priceByRounds_50 ?_
        refine lv_iload hx hb dX2_priceByRounds_53 (lv_at hl 4 rfl) ?_
        refine z_aNald M hw (e9 := 3) (zc_t3 hC) ⟨by decide, rfl⟩ rfl ⟨by omega, by omega⟩ (zc_pC hC (by omega)) dX2_priceByRounds_55 ?_
        refine z_geti M hw (zc_tC hC (by omega)) zf_X2_96 dX2_priceByRounds_56 ?_
        refine z_topi (y := I (32 + k) 0) (by rw [zs_ne _ _ (by omega)]) ?_
        refine z_topi (y := nI a) ea ?_
        refine lv_aload_n hx hb dX2_priceByRounds_59 rfl (lv_at hl 0 rfl) ?_
        refine z_getr M hw (zc_t1 hC) zf_X2_11 (zc_p10 hC) dX2_priceByRounds_60 ?_
        refine lv_iload hx hb dX2_priceByRounds_63 (lv_at hl 4 rfl) ?_
        refine z_aNald M hw (e9 := 3) (zc_t3 hC) ⟨by decide, rfl⟩ rfl ⟨by omega, by omega⟩ (zc_pC hC (by omega)) dX2_priceByRounds_65 ?_
        refine z_geti M hw (zc_tC hC (by omega)) zf_X2_99 dX2_priceByRounds_66 ?_
        refine z_topi (y := I (32 + k) 1) (by rw [zs_ne _ _ (by omega)]) ?_
        refine z_topi (y := nI b) eb ?_
        refine lv_aload_n hx hb dX2_priceByRounds_69 rfl (lv_at hl 0 rfl) ?_
        refine z_getr M hw (zc_t1 hC) zf_X2_11 (zc_p10 hC) dX2_priceByRounds_70 ?_
        refine lv_iload hx hb dX2_priceByRounds_73 (lv_at hl 4 rfl) ?_
        refine z_aNald M hw (e9 := 3) (zc_t3 hC) ⟨by decide, rfl⟩ rfl ⟨by omega, by omega⟩ (zc_pC hC (by omega)) dX2_priceByRounds_75 ?_
        refine z_geti M hw (zc_tC hC (by omega)) zf_X2_102 dX2_priceByRounds_76 ?_
        refine z_topi (y := I (32 + k) 4) (by rw [zs_ne _ _ (by omega)]) ?_
        refine z_cv0 (z_runV (As := [.int (nI a), .int (nI b), .int (I (32 + k) 4)]) (rest := []) M hw (zc_t1 hC) zc_X2_105 (c_X2_lowerSum l base D cA ad ty (zs I 8 (zPr I (zPrr I nc (zS0 (I 8) u) g) k)) L P ni nc ns nt hC a b (by omega) (by omega) (I (32 + k) 4)) hw.1 rfl rfl ⟨Nat.le_of_ble_eq_true rfl, Nat.le_of_ble_eq_true rfl⟩ ⟨Nat.le_of_ble_eq_true rfl, Nat.le_of_ble_eq_true rfl⟩ hl.1 (Nat.le_of_ble_eq_true rfl) dX2_priceByRounds_79) hw (fun H locs hw => ?_)
        rw [zs_zs, zs_self] at hw
        refine lv_aload_n hx hb dX2_priceByRounds_82 rfl (lv_at hl 0 rfl) ?_
        refine lv_aload_n hx hb dX2_priceByRounds_83 rfl (lv_at hl 0 rfl) ?_
        refine z_getr M hw (zc_t1 hC) zf_X2_11 (zc_p10 hC) dX2_priceByRounds_84 ?_
        refine lv_iload hx hb dX2_priceByRounds_87 (lv_at hl 4 rfl) ?_
        refine z_aNald M hw (e9 := 3) (zc_t3 hC) ⟨by decide, rfl⟩ rfl ⟨by omega, by omega⟩ (zc_pC hC (by omega)) dX2_priceByRounds_89 ?_
        refine z_geti M hw (zc_tC hC (by omega)) zf_X2_99 dX2_priceByRounds_90 ?_
        refine z_topi (y := I (32 + k) 1) (by rw [zs_ne _ _ (by omega)]) ?_
        refine z_topi (y := nI b) eb ?_
        refine lv_aload_n hx hb dX2_priceByRounds_93 rfl (lv_at hl 0 rfl) ?_
        refine z_getr M hw (zc_t1 hC) zf_X2_11 (zc_p10 hC) dX2_priceByRounds_94 ?_
        refine lv_iload hx hb dX2_priceByRounds_97 (lv_at hl 4 rfl) ?_
        refine z_aNald M hw (e9 := 3) (zc_t3 hC) ⟨by decide, rfl⟩ rfl ⟨by omega, by omega⟩ (zc_pC hC (by omega)) dX2_priceByRounds_99 ?_
        refine z_geti M hw (zc_tC hC (by omega)) zf_X2_96 dX2_priceByRounds_100 ?_
        refine z_topi (y := I (32 + k) 0) (by rw [zs_ne _ _ (by omega)]) ?_
        refine z_topi (y := nI a) ea ?_
        refine lv_aload_n hx hb dX2_priceByRounds_103 rfl (lv_at hl 0 rfl) ?_
        refine z_getr M hw (zc_t1 hC) zf_X2_11 (zc_p10 hC) dX2_priceByRounds_104 ?_
        refine lv_iload hx hb dX2_priceByRounds_107 (lv_at hl 4 rfl) ?_
        refine z_aNald M hw (e9 := 3) (zc_t3 hC) ⟨by decide, rfl⟩ rfl ⟨by omega, by omega⟩ (zc_pC hC (by omega)) dX2_priceByRounds_109 ?_
        refine z_geti M hw (zc_tC hC (by omega)) zf_X2_102 dX2_priceByRounds_110 ?_
        refine z_topi (y := I (32 + k) 4) (by rw [zs_ne _ _ (by omega)]) ?_
        refine z_cv0 (z_runV (As := [.int (nI b), .int (nI a), .int (I (32 + k) 4)]) (rest := []) M hw (zc_t1 hC) zc_X2_105 (c_X2_lowerSum l base D cA ad ty (zs I 8 (zLow (zPr I (zPrr I nc (zS0 (I 8) u) g) k) a b (I (32 + k) 4))) L P ni nc ns nt hC b a (by omega) (by omega) (I (32 + k) 4)) hw.1 rfl rfl ⟨Nat.le_of_ble_eq_true rfl, Nat.le_of_ble_eq_true rfl⟩ ⟨Nat.le_of_ble_eq_true rfl, Nat.le_of_ble_eq_true rfl⟩ hl.1 (Nat.le_of_ble_eq_true rfl) dX2_priceByRounds_113) hw (fun H locs hw => ?_)
        rw [zs_zs, zs_self] at hw
        refine lv_iinc (v := nI (k + 1)) (lv' := [(4, .int (nI (k + 1))), (0, .ref (ad 1)), (1, .int (nI u)), (2, .int (nI v)), (3, .int (nI (g + 1)))]) hx hb dX2_priceByRounds_116 hl (k := 4) rfl (nI_succ _).symm (by decide) rfl (fun ls hl => ?_)
        refine lv_goto (tgt := 26) hx hb dX2_priceByRounds_119 (by decide) ?_
        exact ih_k hltk _ _ _ ⟨(by rw [show zPr I (zPrr I nc (zS0 (I 8) u) g) (k + 1) = zPr1 I (zPr I (zPrr I nc (zS0 (I 8) u) g) k) k from rfl, zPr1, if_pos c3, ea, eb, nI_clamp (show a < 2 ^ 31 by omega), nI_clamp (show b < 2 ^ 31 by omega)]; exact hw), lv_sub hl [1, 2, 3, 4, 0] rfl⟩
set_option maxHeartbeats 4000000 in
set_option maxRecDepth 100000 in
theorem c_X2_reachedFrom (l : Launch) (base : Nat) (D : zDD) (cA : Nat → ClassId) (ad : Nat → Nat) (ty : zTyp) (I : zIt) (L : zLt) (P : zPt) (ni nc ns nt : Nat) (hC : zcls ni nc ns nt ty P) (hn : I 1 1 = nI nc) (u : Nat) (hu : u < 10) : zMi l base D cA yX2_reachedFrom cX2_reachedFrom 6 .int 1 20 0 0 [.ref (ad 1), .int (nI u)] (zW base D cA ad ty I L P) (zRer I nc (1 <<< (nI u &&& 31)) 9) (zW base D cA ad ty I L P) := by
  refine z_start (by decide +kernel) (Nat.le_of_ble_eq_true rfl) fun p e s m below meth c ls M hP hS hl hr hlocks hnm => ?_
  have M : zM p s m c cX2_reachedFrom RX2 6 base D cA := M
  have hw : zH base D cA s s.heap [] ad ty I L P := ⟨hP, hS⟩
  obtain ⟨hx, hb, -⟩ := id M
  have hl : lv_has ls 6 [(0, .ref (ad 1)), (1, .int (nI u))] := hl
  obtain ⟨hb1, hb2, hb3, hb4⟩ := zc_b hC
  refine lv_iconst (v := 1) hx hb dX2_reachedFrom_0 (by decide) ?_
  refine lv_iload_n hx hb dX2_reachedFrom_1 rfl (lv_at hl 1 rfl) ?_
  refine lv_ishl hx hb dX2_reachedFrom_2 ?_
  refine lv_topi (fun x1 ex1 => ?_)
  refine lv_istore_n (lv' := [(2, .int x1), (0, .ref (ad 1)), (1, .int (nI u))]) hx hb dX2_reachedFrom_3 rfl hl (by decide) rfl (fun ls hl => ?_)
  refine lv_iconst (v := 1) hx hb dX2_reachedFrom_4 (by decide) ?_
  refine lv_istore_n (lv' := [(3, .int 1), (2, .int x1), (0, .ref (ad 1)), (1, .int (nI u))]) hx hb dX2_reachedFrom_5 rfl hl (by decide) rfl (fun ls hl => ?_)
  refine z_loop (9) (fun (g : Nat) H locs ls => ∃ (r : Int32), (r = zRer I nc (1 <<< (nI u &&& 31)) g) ∧ zH base D cA s H locs ad ty I L P ∧ lv_has ls 6 [(0, .ref (ad 1)), (1, .int (nI u)), (2, .int r), (3, .int (nI (g + 1)))]) 0 ⟨_, (by first | rfl | assumption), hw, lv_sub hl [2, 3, 1, 0] rfl⟩ (by omega) (fun g hk_g ih_g H locs ls hI => ?_)
  obtain ⟨r, hre, hw, hl⟩ := hI
  refine lv_iload_n hx hb dX2_reachedFrom_6 rfl (lv_at hl 3 rfl) ?_
  refine lv_bipush (v := 10) hx hb dX2_reachedFrom_7 (by decide) ?_
  refine lv_icmp_ge (tgt := 88) hx hb dX2_reachedFrom_9 (by decide) (fun c2 => ?_) (fun c2 => ?_)
  · skip
    have hge : 9 = g := by have := z_ge (show nI 10 ≤ nI (g + 1) from c2) (by omega) (by omega); omega
    subst hge
    refine lv_iload_n hx hb dX2_reachedFrom_88 rfl (lv_at hl 2 rfl) ?_
    exact z_iret hx hb hr hre rfl hw.2 hw.1 (Nat.le_of_ble_eq_true rfl) (Nat.le_of_ble_eq_true rfl) dX2_reachedFrom_89 hlocks
  · skip
    have hltg : g < 9 := by have := z_lt (show ¬ nI 10 ≤ nI (g + 1) from c2) (by omega); omega
    refine lv_iconst (v := 0) hx hb dX2_reachedFrom_12 (by decide) ?_
    refine lv_istore (lv' := [(4, .int 0), (0, .ref (ad 1)), (1, .int (nI u)), (2, .int r), (3, .int (nI (g + 1)))]) hx hb dX2_reachedFrom_13 hl (by decide) rfl (fun ls hl => ?_)
    refine z_loop (nc) (fun (k : Nat) H locs ls => ∃ (r : Int32), (r = (zRe I (zRer I nc (1 <<< (nI u &&& 31)) g) k)) ∧ zH base D cA s H locs ad ty I L P ∧ lv_has ls 6 [(0, .ref (ad 1)), (1, .int (nI u)), (2, .int r), (3, .int (nI (g + 1))), (4, .int (nI k))]) 0 ⟨_, (by first | exact hre | rfl), hw, lv_sub hl [1, 2, 3, 4, 0] rfl⟩ (by omega) (fun k hk_k ih_k H locs ls hI => ?_)
    obtain ⟨r, hre, hw, hl⟩ := hI
    refine lv_iload hx hb dX2_reachedFrom_15 (lv_at hl 4 rfl) ?_
    refine lv_aload_n hx hb dX2_reachedFrom_17 rfl (lv_at hl 0 rfl) ?_
    refine z_geti M hw (zc_t1 hC) zf_X2_17 dX2_reachedFrom_18 ?_
    refine z_topi (y := nI nc) hn ?_
    refine lv_icmp_ge (tgt := 82) hx hb dX2_reachedFrom_21 (by decide) (fun c3 => ?_) (fun c3 => ?_)
    · skip
      have hge : nc = k := Nat.le_antisymm (z_ge (show nI nc ≤ nI k from c3) (by omega) (by omega)) (by omega)
      subst hge
      refine lv_iinc (v := nI ((g + 1) + 1)) (lv' := [(3, .int (nI ((g + 1) + 1))), (0, .ref (ad 1)), (1, .int (nI u)), (2, .int r), (4, .int (nI nc))]) hx hb dX2_reachedFrom_82 hl (k := 3) rfl (nI_succ _).symm (by decide) rfl (fun ls hl => ?_)
      refine lv_goto (tgt := 6) hx hb dX2_reachedFrom_85 (by decide) ?_
      exact ih_g hltg _ _ _ ⟨_, (by rw [hre]; rfl), hw, lv_sub hl [1, 2, 3, 0] rfl⟩
    · skip
      have hltk : k < nc := z_lt (show ¬ nI nc ≤ nI k from c3) (by omega)
      refine lv_iconst (v := 1) hx hb dX2_reachedFrom_24 (by decide) ?_
      refine lv_aload_n hx hb dX2_reachedFrom_25 rfl (lv_at hl 0 rfl) ?_
      refine z_getr M hw (zc_t1 hC) zf_X2_11 (zc_p10 hC) dX2_reachedFrom_26 ?_
      refine lv_iload hx hb dX2_reachedFrom_29 (lv_at hl 4 rfl) ?_
      refine z_aNald M hw (e9 := 3) (zc_t3 hC) ⟨by decide, rfl⟩ rfl ⟨by omega, by omega⟩ (zc_pC hC (by omega)) dX2_reachedFrom_31 ?_
      refine z_geti M hw (zc_tC hC (by omega)) zf_X2_96 dX2_reachedFrom_32 ?_
      refine lv_ishl hx hb dX2_reachedFrom_35 ?_
      refine lv_iconst (v := 1) hx hb dX2_reachedFrom_36 (by decide) ?_
      refine lv_aload_n hx hb dX2_reachedFrom_37 rfl (lv_at hl 0 rfl) ?_
      refine z_getr M hw (zc_t1 hC) zf_X2_11 (zc_p10 hC) dX2_reachedFrom_38 ?_
      refine lv_iload hx hb dX2_reachedFrom_41 (lv_at hl 4 rfl) ?_
      refine z_aNald M hw (e9 := 3) (zc_t3 hC) ⟨by decide, rfl⟩ rfl ⟨by omega, by omega⟩ (zc_pC hC (by omega)) dX2_reachedFrom_43 ?_
      refine z_geti M hw (zc_tC hC (by omega)) zf_X2_99 dX2_reachedFrom_44 ?_
      refine lv_ishl hx hb dX2_reachedFrom_47 ?_
      refine lv_ior hx hb dX2_reachedFrom_48 ?_
      refine lv_topi (fun x4 ex4 => ?_)
      refine lv_istore (lv' := [(5, .int x4), (0, .ref (ad 1)), (1, .int (nI u)), (2, .int r), (3, .int (nI (g + 1))), (4, .int (nI k))]) hx hb dX2_reachedFrom_49 hl (by decide) rfl (fun ls hl => ?_)
      refine lv_aload_n hx hb dX2_reachedFrom_51 rfl (lv_at hl 1 rfl) ?_
      refine z_getr M hw (zc_t1 hC) zf_X2_11 (zc_p10 hC) dX2_reachedFrom_52 ?_
      refine lv_iload hx hb dX2_reachedFrom_55 (lv_at hl 5 rfl) ?_
      refine z_aNald M hw (e9 := 3) (zc_t3 hC) ⟨by decide, rfl⟩ rfl ⟨by omega, by omega⟩ (zc_pC hC (by omega)) dX2_reachedFrom_57 ?_
      refine z_ci0 (z_runV (As := []) (rest := []) M hw (zc_tC hC (by omega)) zc_X2_92 (c_X0_isWorking l base D cA ad ty I L P (32 + k) 0 (zc_tC hC (by omega))) hw.1 rfl rfl ⟨Nat.le_of_ble_eq_true rfl, Nat.le_of_ble_eq_true rfl⟩ ⟨Nat.le_of_ble_eq_true rfl, Nat.le_of_ble_eq_true rfl⟩ hl.1 (Nat.le_of_ble_eq_true rfl) dX2_reachedFrom_58) hw (fun H locs hw => ?_)
      refine lv_if_eq (tgt := 76) hx hb dX2_reachedFrom_61 (by decide) (fun c5 => ?_) (fun c5 => ?_)
      · skip
        have c5 := zb_eq0.mp c5
        refine lv_iinc (v := nI (k + 1)) (lv' := [(4, .int (nI (k + 1))), (5, .int x4), (0, .ref (ad 1)), (1, .int (nI u)), (2, .int r), (3, .int (nI (g + 1)))]) hx hb dX2_reachedFrom_76 hl (k := 5) rfl (nI_succ _).symm (by decide) rfl (fun ls hl => ?_)
        refine lv_goto (tgt := 15) hx hb dX2_reachedFrom_79 (by decide) ?_
        exact ih_k hltk _ _ _ ⟨_, (by rw [show zRe I (zRer I nc (1 <<< (nI u &&& 31)) g) (k + 1) = zRe1 I (zRe I (zRer I nc (1 <<< (nI u &&& 31)) g) k) k from rfl, zRe1]; subst hre; subst ex1; subst ex4; (try first | rw [if_pos c2] | rw [if_neg c2]); (try first | rw [if_pos c3] | rw [if_neg c3]); (try first | rw [if_pos c5] | rw [if_neg c5])), hw, lv_sub hl [2, 3, 4, 5, 0] rfl⟩
      · skip
        have c5 := zb_ne0.mp c5
        refine lv_iload_n hx hb dX2_reachedFrom_64 rfl (lv_at hl 3 rfl) ?_
        refine lv_iload hx hb dX2_reachedFrom_65 (lv_at hl 0 rfl) ?_
        refine lv_iand hx hb dX2_reachedFrom_67 ?_
        refine lv_if_eq (tgt := 76) hx hb dX2_reachedFrom_68 (by decide) (fun c6 => ?_) (fun c6 => ?_)
        · skip
          refine lv_iinc (v := nI (k + 1)) (lv' := [(4, .int (nI (k + 1))), (5, .int x4), (0, .ref (ad 1)), (1, .int (nI u)), (2, .int r), (3, .int (nI (g + 1)))]) hx hb dX2_reachedFrom_76 hl (k := 5) rfl (nI_succ _).symm (by decide) rfl (fun ls hl => ?_)
          refine lv_goto (tgt := 15) hx hb dX2_reachedFrom_79 (by decide) ?_
          exact ih_k hltk _ _ _ ⟨_, (by rw [show zRe I (zRer I nc (1 <<< (nI u &&& 31)) g) (k + 1) = zRe1 I (zRe I (zRer I nc (1 <<< (nI u &&& 31)) g) k) k from rfl, zRe1]; subst hre; subst ex1; subst ex4; (try first | rw [if_pos c2] | rw [if_neg c2]); (try first | rw [if_pos c3] | rw [if_neg c3]); (try first | rw [if_pos c5] | rw [if_neg c5]); (try first | rw [if_pos c6] | rw [if_neg c6])), hw, lv_sub hl [2, 3, 4, 5, 0] rfl⟩
        · skip
          refine lv_iload_n hx hb dX2_reachedFrom_71 rfl (lv_at hl 3 rfl) ?_
          refine lv_iload hx hb dX2_reachedFrom_72 (lv_at hl 0 rfl) ?_
          refine lv_ior hx hb dX2_reachedFrom_74 ?_
          refine lv_topi (fun x7 ex7 => ?_)
          refine lv_istore_n (lv' := [(2, .int x7), (5, .int x4), (0, .ref (ad 1)), (1, .int (nI u)), (3, .int (nI (g + 1))), (4, .int (nI k))]) hx hb dX2_reachedFrom_75 rfl hl (by decide) rfl (fun ls hl => ?_)
          refine lv_iinc (v := nI (k + 1)) (lv' := [(4, .int (nI (k + 1))), (2, .int x7), (5, .int x4), (0, .ref (ad 1)), (1, .int (nI u)), (3, .int (nI (g + 1)))]) hx hb dX2_reachedFrom_76 hl (k := 5) rfl (nI_succ _).symm (by decide) rfl (fun ls hl => ?_)
          refine lv_goto (tgt := 15) hx hb dX2_reachedFrom_79 (by decide) ?_
          exact ih_k hltk _ _ _ ⟨_, (by rw [show zRe I (zRer I nc (1 <<< (nI u &&& 31)) g) (k + 1) = zRe1 I (zRe I (zRer I nc (1 <<< (nI u &&& 31)) g) k) k from rfl, zRe1]; subst hre; subst ex1; subst ex4; subst ex7; (try first | rw [if_pos c2] | rw [if_neg c2]); (try first | rw [if_pos c3] | rw [if_neg c3]); (try first | rw [if_pos c5] | rw [if_neg c5]); (try first | rw [if_pos c6] | rw [if_neg c6])), hw, lv_sub hl [3, 4, 1, 5, 0] rfl⟩
