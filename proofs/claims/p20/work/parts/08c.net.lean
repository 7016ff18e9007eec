set_option maxHeartbeats 4000000 in
set_option maxRecDepth 100000 in
theorem c_X2_nearestBeside (l : Launch) (base : Nat) (D : zDD) (cA : Nat → ClassId) (ad : Nat → Nat) (ty : zTyp) (I : zIt) (L : zLt) (P : zPt) (ni nc ns nt : Nat) (hC : zcls ni nc ns nt ty P) (st : Int32) : zMi l base D cA yX2_nearestBeside cX2_nearestBeside 6 .int 0 0 0 0 [.ref (ad 1), .int st] (zW base D cA ad ty I L P) ((zNb (L 7) st 10).1) (zW base D cA ad ty I L P) := by
  refine z_start (by decide +kernel) (Nat.le_of_ble_eq_true rfl) fun p e s m below meth c ls M hP hS hl hr hlocks hnm => ?_
  have M : zM p s m c cX2_nearestBeside RX2 6 base D cA := M
  have hw : zH base D cA s s.heap [] ad ty I L P := ⟨hP, hS⟩
  obtain ⟨hx, hb, -⟩ := id M
  have hl : lv_has ls 6 [(0, .ref (ad 1)), (1, .int st)] := hl
  obtain ⟨hb1, hb2, hb3, hb4⟩ := zc_b hC
  refine lv_iconst (v := (-1)) hx hb dX2_nearestBeside_0 (by decide) ?_
  refine lv_istore_n (lv' := [(2, .int (-1)), (0, .ref (ad 1)), (1, .int st)]) hx hb dX2_nearestBeside_1 rfl hl (by decide) rfl (fun ls hl => ?_)
  refine lv_ldc2 (v := 1152921504606846976) hx hb M.2.2.2.1 (M.2.2.2.2.1.use (tb 529 (by decide +kernel)) rfl) dX2_nearestBeside_2 ?_
  refine lv_lstore_n (lv' := [(3, .long 1152921504606846976), (2, .int (-1)), (0, .ref (ad 1)), (1, .int st)]) hx hb dX2_nearestBeside_5 rfl hl (by decide) rfl (fun ls hl => ?_)
  refine lv_iconst (v := 0) hx hb dX2_nearestBeside_6 (by decide) ?_
  refine lv_istore (lv' := [(5, .int 0), (3, .long 1152921504606846976), (2, .int (-1)), (0, .ref (ad 1)), (1, .int st)]) hx hb dX2_nearestBeside_7 hl (by decide) rfl (fun ls hl => ?_)
  refine z_loop (10) (fun (k : Nat) H locs ls => ∃ (a : Int32), ∃ (b : Int64), (zNb (L 7) st k = (a, b)) ∧ zH base D cA s H locs ad ty I L P ∧ lv_has ls 6 [(0, .ref (ad 1)), (1, .int st), (2, .int a), (3, .long b), (5, .int (nI k))]) 0 ⟨_, _, rfl, hw, lv_sub hl [3, 4, 2, 1, 0] rfl⟩ (by omega) (fun k hk_k ih_k H locs ls hI => ?_)
  obtain ⟨a, b, hq, hw, hl⟩ := hI
  refine lv_iload hx hb dX2_nearestBeside_9 (lv_at hl 4 rfl) ?_
  refine lv_bipush (v := 10) hx hb dX2_nearestBeside_11 (by decide) ?_
  refine lv_icmp_ge (tgt := 54) hx hb dX2_nearestBeside_13 (by decide) (fun c1 => ?_) (fun c1 => ?_)
  · skip
    have hge : 10 = k := Nat.le_antisymm (z_ge (show nI 10 ≤ nI k from c1) (by omega) (by omega)) (by omega)
    subst hge
    refine lv_iload_n hx hb dX2_nearestBeside_54 rfl (lv_at hl 2 rfl) ?_
    exact z_iret hx hb hr (by rw [hq]) rfl hw.2 hw.1 (Nat.le_of_ble_eq_true rfl) (Nat.le_of_ble_eq_true rfl) dX2_nearestBeside_55 hlocks
  · skip
    have hlt : k < 10 := z_lt (show ¬ nI 10 ≤ nI k from c1) (by omega)
    refine lv_iload_n hx hb dX2_nearestBeside_16 rfl (lv_at hl 1 rfl) ?_
    refine lv_iload hx hb dX2_nearestBeside_17 (lv_at hl 4 rfl) ?_
    refine lv_ishr hx hb dX2_nearestBeside_19 ?_
    refine lv_iconst (v := 1) hx hb dX2_nearestBeside_20 (by decide) ?_
    refine lv_iand hx hb dX2_nearestBeside_21 ?_
    refine lv_if_ne (tgt := 48) hx hb dX2_nearestBeside_22 (by decide) (fun c2 => ?_) (fun c2 => ?_)
    · skip
      refine lv_iinc (v := nI (k + 1)) (lv' := [(5, .int (nI (k + 1))), (0, .ref (ad 1)), (1, .int st), (2, .int a), (3, .long b)]) hx hb dX2_nearestBeside_48 hl (k := 4) rfl (nI_succ _).symm (by decide) rfl (fun ls hl => ?_)
      refine lv_goto (tgt := 9) hx hb dX2_nearestBeside_51 (by decide) ?_
      exact ih_k hlt _ _ _ ⟨_, _, (by show zNb1 (L 7) st k (zNb (L 7) st k) = _; rw [hq]; unfold zNb1; dsimp only; (try first | rw [if_pos c2] | rw [if_neg c2])), hw, lv_sub hl [1, 2, 3, 4, 0] rfl⟩
    · skip
      refine lv_aload_n hx hb dX2_nearestBeside_25 rfl (lv_at hl 0 rfl) ?_
      refine z_getr M hw (zc_t1 hC) zf_X2_28 (zc_p14 hC) dX2_nearestBeside_26 ?_
      refine lv_iload hx hb dX2_nearestBeside_29 (lv_at hl 4 rfl) ?_
      refine z_lNald M hw (zc_t7 hC) rfl ⟨by omega, by omega⟩ dX2_nearestBeside_31 ?_
      refine lv_lload_n hx hb dX2_nearestBeside_32 rfl (lv_at hl 3 rfl) ?_
      refine W.lcmp hx hb dX2_nearestBeside_33 ?_
      refine lv_if_ge (tgt := 48) hx hb dX2_nearestBeside_34 (by decide) (fun c3 => ?_) (fun c3 => ?_)
      · skip
        refine lv_iinc (v := nI (k + 1)) (lv' := [(5, .int (nI (k + 1))), (0, .ref (ad 1)), (1, .int st), (2, .int a), (3, .long b)]) hx hb dX2_nearestBeside_48 hl (k := 4) rfl (nI_succ _).symm (by decide) rfl (fun ls hl => ?_)
        refine lv_goto (tgt := 9) hx hb dX2_nearestBeside_51 (by decide) ?_
        exact ih_k hlt _ _ _ ⟨_, _, (by show zNb1 (L 7) st k (zNb (L 7) st k) = _; rw [hq]; unfold zNb1; dsimp only; (try first | rw [if_pos c2] | rw [if_neg c2]); (try first | rw [if_pos c3] | rw [if_neg c3])), hw, lv_sub hl [1, 2, 3, 4, 0] rfl⟩
      · skip
        refine lv_iload hx hb dX2_nearestBeside_37 (lv_at hl 4 rfl) ?_
        refine lv_istore_n (lv' := [(2, .int (nI k)), (0, .ref (ad 1)), (1, .int st), (3, .long b), (5, .int (nI k))]) hx hb dX2_nearestBeside_39 rfl hl (by decide) rfl (fun ls hl => ?_)
        refine lv_aload_n hx hb dX2_nearestBeside_40 rfl (lv_at hl 1 rfl) ?_
        refine z_getr M hw (zc_t1 hC) zf_X2_28 (zc_p14 hC) dX2_nearestBeside_41 ?_
        refine lv_iload hx hb dX2_nearestBeside_44 (lv_at hl 4 rfl) ?_
        refine z_lNald M hw (zc_t7 hC) rfl ⟨by omega, by omega⟩ dX2_nearestBeside_46 ?_
        refine lv_topl (fun x4 ex4 => ?_)
        refine lv_lstore_n (lv' := [(3, .long x4), (2, .int (nI k)), (0, .ref (ad 1)), (1, .int st), (5, .int (nI k))]) hx hb dX2_nearestBeside_47 rfl hl (by decide) rfl (fun ls hl => ?_)
        refine lv_iinc (v := nI (k + 1)) (lv' := [(5, .int (nI (k + 1))), (3, .long x4), (2, .int (nI k)), (0, .ref (ad 1)), (1, .int st)]) hx hb dX2_nearestBeside_48 hl (k := 4) rfl (nI_succ _).symm (by decide) rfl (fun ls hl => ?_)
        refine lv_goto (tgt := 9) hx hb dX2_nearestBeside_51 (by decide) ?_
        exact ih_k hlt _ _ _ ⟨_, _, (by show zNb1 (L 7) st k (zNb (L 7) st k) = _; rw [hq]; unfold zNb1; dsimp only; (try first | rw [if_pos c2] | rw [if_neg c2]); (try first | rw [if_pos c3] | rw [if_neg c3]); (try simp only [ex4])), hw, lv_sub hl [3, 4, 2, 1, 0] rfl⟩
set_option maxHeartbeats 4000000 in
set_option maxRecDepth 100000 in
theorem c_X2_spreadFrom (l : Launch) (base : Nat) (D : zDD) (cA : Nat → ClassId) (ad : Nat → Nat) (ty : zTyp) (I : zIt) (L : zLt) (P : zPt) (ni nc ns nt : Nat) (hC : zcls ni nc ns nt ty P) (hn : I 1 1 = nI nc) (hE : zEnds I nc) (u : Nat) (hu : u < 10) : zMv l base D cA yX2_spreadFrom cX2_spreadFrom 4 1 23 0 0 [.ref (ad 1), .int (nI u)] (zW base D cA ad ty I L P) (zW base D cA ad ty I (zs L 7 (zSp I u (L 7) nc)) P) := by
  refine z_start (by decide +kernel) (Nat.le_of_ble_eq_true rfl) fun p e s m below meth c ls M hP hS hl hr hlocks hnm => ?_
  have M : zM p s m c cX2_spreadFrom RX2 4 base D cA := M
  have hw : zH base D cA s s.heap [] ad ty I L P := ⟨hP, hS⟩
  obtain ⟨hx, hb, -⟩ := id M
  have hl : lv_has ls 4 [(0, .ref (ad 1)), (1, .int (nI u))] := hl
  obtain ⟨hb1, hb2, hb3, hb4⟩ := zc_b hC
  refine lv_iconst (v := 0) hx hb dX2_spreadFrom_0 (by decide) ?_
  refine lv_istore_n (lv' := [(2, .int 0), (0, .ref (ad 1)), (1, .int (nI u))]) hx hb dX2_spreadFrom_1 rfl hl (by decide) rfl (fun ls hl => ?_)
  refine z_loop (nc) (fun (k : Nat) H locs ls => zH base D cA s H locs ad ty I (zs L 7 (zSp I u (L 7) k)) P ∧ lv_has ls 4 [(0, .ref (ad 1)), (1, .int (nI u)), (2, .int (nI k))]) 0 ⟨(by rw [show zSp I u (L 7) 0 = L 7 from rfl, zs_id]; exact hw), lv_sub hl [1, 2, 0] rfl⟩ (by omega) (fun k hk_k ih_k H locs ls hI => ?_)
  obtain ⟨hw, hl⟩ := hI
  refine lv_iload_n hx hb dX2_spreadFrom_2 rfl (lv_at hl 2 rfl) ?_
  refine lv_aload_n hx hb dX2_spreadFrom_3 rfl (lv_at hl 0 rfl) ?_
  refine z_geti M hw (zc_t1 hC) zf_X2_17 dX2_spreadFrom_4 ?_
  refine z_topi (y := nI nc) hn ?_
  refine lv_icmp_ge (tgt := 63) hx hb dX2_spreadFrom_7 (by decide) (fun c1 => ?_) (fun c1 => ?_)
  · skip
    have hge : nc = k := Nat.le_antisymm (z_ge (show nI nc ≤ nI k from c1) (by omega) (by omega)) (by omega)
    subst hge
    exact z_vret hx hb hr hw.2 hw.1 (Nat.le_of_ble_eq_true rfl) (Nat.le_of_ble_eq_true rfl) dX2_spreadFrom_63 hlocks
  · skip
    have hlt : k < nc := z_lt (show ¬ nI nc ≤ nI k from c1) (by omega)
    refine lv_aload_n hx hb dX2_spreadFrom_10 rfl (lv_at hl 0 rfl) ?_
    refine z_getr M hw (zc_t1 hC) zf_X2_11 (zc_p10 hC) dX2_spreadFrom_11 ?_
    refine lv_iload_n hx hb dX2_spreadFrom_14 rfl (lv_at hl 2 rfl) ?_
    refine z_aNald M hw (e9 := 3) (zc_t3 hC) ⟨by decide, rfl⟩ rfl ⟨by omega, by omega⟩ (zc_pC hC (by omega)) dX2_spreadFrom_15 ?_
    refine lv_iload_n hx hb dX2_spreadFrom_16 rfl (lv_at hl 1 rfl) ?_
    refine z_ci0 (z_runV (As := [.int (nI u)]) (rest := []) M hw (zc_tC hC (by omega)) zc_X2_64 (c_X0_leadsTo l base D cA ad ty I (zs L 7 (zSp I u (L 7) k)) P (32 + k) 0 (zc_tC hC (by omega)) (nI u)) hw.1 rfl rfl ⟨Nat.le_of_ble_eq_true rfl, Nat.le_of_ble_eq_true rfl⟩ ⟨Nat.le_of_ble_eq_true rfl, Nat.le_of_ble_eq_true rfl⟩ hl.1 (Nat.le_of_ble_eq_true rfl) dX2_spreadFrom_17) hw (fun H locs hw => ?_)
    refine lv_istore_n (lv' := [(3, .int (zCleads I (32 + k) (nI u))), (0, .ref (ad 1)), (1, .int (nI u)), (2, .int (nI k))]) hx hb dX2_spreadFrom_20 rfl hl (by decide) rfl (fun ls hl => ?_)
    refine lv_iload_n hx hb dX2_spreadFrom_21 rfl (lv_at hl 0 rfl) ?_
    refine lv_iconst (v := (-1)) hx hb dX2_spreadFrom_22 (by decide) ?_
    refine lv_icmp_eq (tgt := 57) hx hb dX2_spreadFrom_23 (by decide) (fun c2 => ?_) (fun c2 => ?_)
    · skip
      refine lv_iinc (v := nI (k + 1)) (lv' := [(2, .int (nI (k + 1))), (3, .int (zCleads I (32 + k) (nI u))), (0, .ref (ad 1)), (1, .int (nI u))]) hx hb dX2_spreadFrom_57 hl (k := 3) rfl (nI_succ _).symm (by decide) rfl (fun ls hl => ?_)
      refine lv_goto (tgt := 2) hx hb dX2_spreadFrom_60 (by decide) ?_
      exact ih_k hlt _ _ _ ⟨(by rw [show zSp I u (L 7) (k + 1) = zSp1 I u (zSp I u (L 7) k) k from rfl, zSp1, if_pos c2]; exact hw), lv_sub hl [2, 3, 0] rfl⟩
    · skip
      have hbe := zCl_in (x := nI u) hE (show k < nc by omega) c2
      refine lv_aload_n hx hb dX2_spreadFrom_26 rfl (lv_at hl 1 rfl) ?_
      refine z_getr M hw (zc_t1 hC) zf_X2_28 (zc_p14 hC) dX2_spreadFrom_27 ?_
      refine lv_iload_n hx hb dX2_spreadFrom_30 rfl (lv_at hl 0 rfl) ?_
      refine lv_aload_n hx hb dX2_spreadFrom_31 rfl (lv_at hl 1 rfl) ?_
      refine z_getr M hw (zc_t1 hC) zf_X2_28 (zc_p14 hC) dX2_spreadFrom_32 ?_
      refine lv_iload_n hx hb dX2_spreadFrom_35 rfl (lv_at hl 0 rfl) ?_
      refine z_lNald M hw (zc_t7 hC) hbe.1 ⟨hbe.2, by omega⟩ dX2_spreadFrom_36 ?_
      refine z_topl (y := (zSp I u (L 7) k) ((zCleads I (32 + k) (nI u)).toNatClampNeg)) (by rw [zs_self]) ?_
      refine lv_aload_n hx hb dX2_spreadFrom_37 rfl (lv_at hl 1 rfl) ?_
      refine z_getr M hw (zc_t1 hC) zf_X2_28 (zc_p14 hC) dX2_spreadFrom_38 ?_
      refine lv_iload_n hx hb dX2_spreadFrom_41 rfl (lv_at hl 2 rfl) ?_
      refine z_lNald M hw (zc_t7 hC) rfl ⟨by omega, by omega⟩ dX2_spreadFrom_42 ?_
      refine z_topl (y := (zSp I u (L 7) k) u) (by rw [zs_self]) ?_
      refine lv_aload_n hx hb dX2_spreadFrom_43 rfl (lv_at hl 1 rfl) ?_
      refine z_getr M hw (zc_t1 hC) zf_X2_11 (zc_p10 hC) dX2_spreadFrom_44 ?_
      refine lv_iload_n hx hb dX2_spreadFrom_47 rfl (lv_at hl 3 rfl) ?_
      refine z_aNald M hw (e9 := 3) (zc_t3 hC) ⟨by decide, rfl⟩ rfl ⟨by omega, by omega⟩ (zc_pC hC (by omega)) dX2_spreadFrom_48 ?_
      refine z_cl0 (z_runV (As := []) (rest := [.long ((zSp I u (L 7) k) u), .long ((zSp I u (L 7) k) ((zCleads I (32 + k) (nI u)).toNatClampNeg)), .int (zCleads I (32 + k) (nI u)), .ref (ad 7)]) M hw (zc_tC hC (by omega)) zc_X2_79 (c_X0_cost l base D cA ad ty I (zs L 7 (zSp I u (L 7) k)) P (32 + k) 0 (zc_tC hC (by omega))) hw.1 rfl rfl ⟨Nat.le_of_ble_eq_true rfl, Nat.le_of_ble_eq_true rfl⟩ ⟨Nat.le_of_ble_eq_true rfl, Nat.le_of_ble_eq_true rfl⟩ hl.1 (Nat.le_of_ble_eq_true rfl) dX2_spreadFrom_49) hw (fun H locs hw => ?_)
      refine lv_ladd hx hb dX2_spreadFrom_52 ?_
      refine va_mmin_long hx hb (M.2.2.1.trans hl.1.symm) M.2.2.2.1 (M.2.2.2.2.1.use (tb 549 (by decide +kernel)) rfl) (M.2.2.2.2.1.use (tb 550 (by decide +kernel)) rfl) (M.2.2.2.2.1.use (tb 12 (by decide +kernel)) rfl) (M.2.2.2.2.1.use (tb 551 (by decide +kernel)) rfl) (Nat.le_of_ble_eq_true rfl) (Nat.le_of_ble_eq_true rfl) (Nat.le_of_ble_eq_true rfl) (Nat.le_of_ble_eq_true rfl) dX2_spreadFrom_53 ?_
      refine W.eq (g2 := F0 m 56 ls [.long (zminl ((zSp I u (L 7) k) ((zCleads I (32 + k) (nI u)).toNatClampNeg)) (((zSp I u (L 7) k) u) + (zCost I (32 + k)))), .int (zCleads I (32 + k) (nI u)), .ref (ad 7)]) rfl ?_
      refine z_lNast M hw (zc_t7 hC) hbe.1 ⟨hbe.2, by omega⟩ dX2_spreadFrom_56 (fun H locs hw => ?_)
      refine lv_iinc (v := nI (k + 1)) (lv' := [(2, .int (nI (k + 1))), (3, .int (zCleads I (32 + k) (nI u))), (0, .ref (ad 1)), (1, .int (nI u))]) hx hb dX2_spreadFrom_57 hl (k := 3) rfl (nI_succ _).symm (by decide) rfl (fun ls hl => ?_)
      refine lv_goto (tgt := 2) hx hb dX2_spreadFrom_60 (by decide) ?_
      exact ih_k hlt _ _ _ ⟨(by rw [zu_zs] at hw; rw [show zSp I u (L 7) (k + 1) = zSp1 I u (zSp I u (L 7) k) k from rfl, zSp1, if_neg c2]; exact hw), lv_sub hl [2, 3, 0] rfl⟩
set_option maxHeartbeats 4000000 in
set_option maxRecDepth 100000 in
theorem c_X2_lowestBestCable (l : Launch) (base : Nat) (D : zDD) (cA : Nat → ClassId) (ad : Nat → Nat) (ty : zTyp) (I : zIt) (L : zLt) (P : zPt) (ni nc ns nt : Nat) (hC : zcls ni nc ns nt ty P) (hn : I 1 1 = nI nc) (hE : zEnds I nc) (u : Nat) (hu : u < 10) : zMi l base D cA yX2_lowestBestCable cX2_lowestBestCable 4 .int 1 21 0 0 [.ref (ad 1), .int (nI u)] (zW base D cA ad ty I L P) (zoi (zfst (zLbc I (L 7) u) nc)) (zW base D cA ad ty I L P) := by
  refine z_start (by decide +kernel) (Nat.le_of_ble_eq_true rfl) fun p e s m below meth c ls M hP hS hl hr hlocks hnm => ?_
  have M : zM p s m c cX2_lowestBestCable RX2 4 base D cA := M
  have hw : zH base D cA s s.heap [] ad ty I L P := ⟨hP, hS⟩
  obtain ⟨hx, hb, -⟩ := id M
  have hl : lv_has ls 4 [(0, .ref (ad 1)), (1, .int (nI u))] := hl
  obtain ⟨hb1, hb2, hb3, hb4⟩ := zc_b hC
  refine lv_iconst (v := 0) hx hb dX2_lowestBestCable_0 (by decide) ?_
  refine lv_istore_n (lv' := [(2, .int 0), (0, .ref (ad 1)), (1, .int (nI u))]) hx hb dX2_lowestBestCable_1 rfl hl (by decide) rfl (fun ls hl => ?_)
  refine z_loop (nc) (fun (k : Nat) H locs ls => (∀ j, j < k → zLbc I (L 7) u j = false) ∧ zH base D cA s H locs ad ty I L P ∧ lv_has ls 4 [(0, .ref (ad 1)), (1, .int (nI u)), (2, .int (nI k))]) 0 ⟨(fun j hj => absurd hj (by omega)), hw, lv_sub hl [1, 2, 0] rfl⟩ (by omega) (fun k hk_k ih_k H locs ls hI => ?_)
  obtain ⟨hno, hw, hl⟩ := hI
  refine lv_iload_n hx hb dX2_lowestBestCable_2 rfl (lv_at hl 2 rfl) ?_
  refine lv_aload_n hx hb dX2_lowestBestCable_3 rfl (lv_at hl 0 rfl) ?_
  refine z_geti M hw (zc_t1 hC) zf_X2_17 dX2_lowestBestCable_4 ?_
  refine z_topi (y := nI nc) hn ?_
  refine lv_icmp_ge (tgt := 60) hx hb dX2_lowestBestCable_7 (by decide) (fun c1 => ?_) (fun c1 => ?_)
  · skip
    have hge : nc = k := Nat.le_antisymm (z_ge (show nI nc ≤ nI k from c1) (by omega) (by omega)) (by omega)
    subst hge
    refine lv_iconst (v := (-1)) hx hb dX2_lowestBestCable_60 (by decide) ?_
    exact z_iret hx hb hr (by rw [zfst_none hno]; rfl) rfl hw.2 hw.1 (Nat.le_of_ble_eq_true rfl) (Nat.le_of_ble_eq_true rfl) dX2_lowestBestCable_61 hlocks
  · skip
    have hlt : k < nc := z_lt (show ¬ nI nc ≤ nI k from c1) (by omega)
    refine lv_aload_n hx hb dX2_lowestBestCable_10 rfl (lv_at hl 0 rfl) ?_
    refine z_getr M hw (zc_t1 hC) zf_X2_11 (zc_p10 hC) dX2_lowestBestCable_11 ?_
    refine lv_iload_n hx hb dX2_lowestBestCable_14 rfl (lv_at hl 2 rfl) ?_
    refine z_aNald M hw (e9 := 3) (zc_t3 hC) ⟨by decide, rfl⟩ rfl ⟨by omega, by omega⟩ (zc_pC hC (by omega)) dX2_lowestBestCable_15 ?_
    refine lv_iload_n hx hb dX2_lowestBestCable_16 rfl (lv_at hl 1 rfl) ?_
    refine z_ci0 (z_runV (As := [.int (nI u)]) (rest := []) M hw (zc_tC hC (by omega)) zc_X2_64 (c_X0_leadsTo l base D cA ad ty I L P (32 + k) 0 (zc_tC hC (by omega)) (nI u)) hw.1 rfl rfl ⟨Nat.le_of_ble_eq_true rfl, Nat.le_of_ble_eq_true rfl⟩ ⟨Nat.le_of_ble_eq_true rfl, Nat.le_of_ble_eq_true rfl⟩ hl.1 (Nat.le_of_ble_eq_true rfl) dX2_lowestBestCable_17) hw (fun H locs hw => ?_)
    refine lv_istore_n (lv' := [(3, .int (zCleads I (32 + k) (nI u))), (0, .ref (ad 1)), (1, .int (nI u)), (2, .int (nI k))]) hx hb dX2_lowestBestCable_20 rfl hl (by decide) rfl (fun ls hl => ?_)
    refine lv_iload_n hx hb dX2_lowestBestCable_21 rfl (lv_at hl 0 rfl) ?_
    refine lv_iconst (v := (-1)) hx hb dX2_lowestBestCable_22 (by decide) ?_
    refine lv_icmp_eq (tgt := 54) hx hb dX2_lowestBestCable_23 (by decide) (fun c2 => ?_) (fun c2 => ?_)
    · skip
      refine lv_iinc (v := nI (k + 1)) (lv' := [(2, .int (nI (k + 1))), (3, .int (zCleads I (32 + k) (nI u))), (0, .ref (ad 1)), (1, .int (nI u))]) hx hb dX2_lowestBestCable_54 hl (k := 3) rfl (nI_succ _).symm (by decide) rfl (fun ls hl => ?_)
      refine lv_goto (tgt := 2) hx hb dX2_lowestBestCable_57 (by decide) ?_
      exact ih_k hlt _ _ _ ⟨(fun j hj => by
            rcases Nat.lt_or_ge j k with q | q
            · exact hno j q
            · have e : j = k := by omega
              subst e; simp [zLbc, c2]), hw, lv_sub hl [2, 3, 0] rfl⟩
    · skip
      have hbe := zCl_in (x := nI u) hE (show k < nc by omega) c2
      refine lv_aload_n hx hb dX2_lowestBestCable_26 rfl (lv_at hl 1 rfl) ?_
      refine z_getr M hw (zc_t1 hC) zf_X2_28 (zc_p14 hC) dX2_lowestBestCable_27 ?_
      refine lv_iload_n hx hb dX2_lowestBestCable_30 rfl (lv_at hl 2 rfl) ?_
      refine z_lNald M hw (zc_t7 hC) rfl ⟨by omega, by omega⟩ dX2_lowestBestCable_31 ?_
      refine lv_aload_n hx hb dX2_lowestBestCable_32 rfl (lv_at hl 1 rfl) ?_
      refine z_getr M hw (zc_t1 hC) zf_X2_28 (zc_p14 hC) dX2_lowestBestCable_33 ?_
      refine lv_iload_n hx hb dX2_lowestBestCable_36 rfl (lv_at hl 0 rfl) ?_
      refine z_lNald M hw (zc_t7 hC) hbe.1 ⟨hbe.2, by omega⟩ dX2_lowestBestCable_37 ?_
      refine lv_aload_n hx hb dX2_lowestBestCable_38 rfl (lv_at hl 1 rfl) ?_
      refine z_getr M hw (zc_t1 hC) zf_X2_11 (zc_p10 hC) dX2_lowestBestCable_39 ?_
      refine lv_iload_n hx hb dX2_lowestBestCable_42 rfl (lv_at hl 3 rfl) ?_
      refine z_aNald M hw (e9 := 3) (zc_t3 hC) ⟨by decide, rfl⟩ rfl ⟨by omega, by omega⟩ (zc_pC hC (by omega)) dX2_lowestBestCable_43 ?_
      refine z_cl0 (z_runV (As := []) (rest := [.long (L 7 ((zCleads I (32 + k) (nI u)).toNatClampNeg)), .long (L 7 u)]) M hw (zc_tC hC (by omega)) zc_X2_79 (c_X0_cost l base D cA ad ty I L P (32 + k) 0 (zc_tC hC (by omega))) hw.1 rfl rfl ⟨Nat.le_of_ble_eq_true rfl, Nat.le_of_ble_eq_true rfl⟩ ⟨Nat.le_of_ble_eq_true rfl, Nat.le_of_ble_eq_true rfl⟩ hl.1 (Nat.le_of_ble_eq_true rfl) dX2_lowestBestCable_44) hw (fun H locs hw => ?_)
      refine lv_ladd hx hb dX2_lowestBestCable_47 ?_
      refine W.lcmp hx hb dX2_lowestBestCable_48 ?_
      refine lv_if_ne (tgt := 54) hx hb dX2_lowestBestCable_49 (by decide) (fun c3 => ?_) (fun c3 => ?_)
      · skip
        refine lv_iinc (v := nI (k + 1)) (lv' := [(2, .int (nI (k + 1))), (3, .int (zCleads I (32 + k) (nI u))), (0, .ref (ad 1)), (1, .int (nI u))]) hx hb dX2_lowestBestCable_54 hl (k := 3) rfl (nI_succ _).symm (by decide) rfl (fun ls hl => ?_)
        refine lv_goto (tgt := 2) hx hb dX2_lowestBestCable_57 (by decide) ?_
        exact ih_k hlt _ _ _ ⟨(fun j hj => by
              rcases Nat.lt_or_ge j k with q | q
              · exact hno j q
              · have e : j = k := by omega
                subst e; simp [zLbc, c3]), hw, lv_sub hl [2, 3, 0] rfl⟩
      · skip
        refine lv_iload_n hx hb dX2_lowestBestCable_52 rfl (lv_at hl 3 rfl) ?_
        exact z_iret hx hb hr (by rw [zfst_some hlt (by simp [zLbc, c2, c3]) hno]; rfl) rfl hw.2 hw.1 (Nat.le_of_ble_eq_true rfl) (Nat.le_of_ble_eq_true rfl) dX2_lowestBestCable_53 hlocks
set_option maxHeartbeats 4000000 in
set_option maxRecDepth 100000 in
theorem c_X2_measureTo (l : Launch) (base : Nat) (D : zDD) (cA : Nat → ClassId) (ad : Nat → Nat) (ty : zTyp) (I : zIt) (L : zLt) (P : zPt) (ni nc ns nt : Nat) (hC : zcls ni nc ns nt ty P) (hn : I 1 1 = nI nc) (hE : zEnds I nc) (v : Nat) (hv : v < 10) : zMv l base D cA yX2_measureTo cX2_measureTo 5 2 46 0 0 [.ref (ad 1), .int (nI v)] (zW base D cA ad ty I L P) (zW base D cA ad ty I (zs L 7 (zMt I nc (zM0 (L 7) v) 10).2) P) := by
  refine z_start (by decide +kernel) (Nat.le_of_ble_eq_true rfl) fun p e s m below meth c ls M hP hS hl hr hlocks hnm => ?_
  have M : zM p s m c cX2_measureTo RX2 5 base D cA := M
  have hw : zH base D cA s s.heap [] ad ty I L P := ⟨hP, hS⟩
  obtain ⟨hx, hb, -⟩ := id M
  have hl : lv_has ls 5 [(0, .ref (ad 1)), (1, .int (nI v))] := hl
  obtain ⟨hb1, hb2, hb3, hb4⟩ := zc_b hC
  refine lv_aload_n hx hb dX2_measureTo_0 rfl (lv_at hl 0 rfl) ?_
  refine z_getr M hw (zc_t1 hC) zf_X2_28 (zc_p14 hC) dX2_measureTo_1 ?_
  refine lv_ldc2 (v := 1152921504606846976) hx hb M.2.2.2.1 (M.2.2.2.2.1.use (tb 529 (by decide +kernel)) rfl) dX2_measureTo_4 ?_
  refine z_cv0 (z_runS (As := [.ref (ad 7), .long 1152921504606846976]) (rest := []) M hw.2 zc_X2_67 (c_J7_fill_d0a16 l base D cA ad ty I L P 7 10 1152921504606846976 (zc_t7 hC) (by omega)) hw.1 rfl rfl ⟨Nat.le_of_ble_eq_true rfl, Nat.le_of_ble_eq_true rfl⟩ ⟨Nat.le_of_ble_eq_true rfl, Nat.le_of_ble_eq_true rfl⟩ hl.1 (Nat.le_of_ble_eq_true rfl) dX2_measureTo_7) hw (fun H locs hw => ?_)
  rw [zfl_row] at hw
  refine lv_aload_n hx hb dX2_measureTo_10 rfl (lv_at hl 0 rfl) ?_
  refine z_getr M hw (zc_t1 hC) zf_X2_28 (zc_p14 hC) dX2_measureTo_11 ?_
  refine lv_iload_n hx hb dX2_measureTo_14 rfl (lv_at hl 1 rfl) ?_
  refine lv_lconst (v := 0) hx hb dX2_measureTo_15 (by decide) ?_
  refine z_lNast M hw (zc_t7 hC) rfl ⟨by omega, by omega⟩ dX2_measureTo_16 (fun H locs hw => ?_)
  refine lv_iconst (v := 0) hx hb dX2_measureTo_17 (by decide) ?_
  refine lv_istore_n (lv' := [(2, .int 0), (0, .ref (ad 1)), (1, .int (nI v))]) hx hb dX2_measureTo_18 rfl hl (by decide) rfl (fun ls hl => ?_)
  refine lv_iconst (v := 0) hx hb dX2_measureTo_19 (by decide) ?_
  refine lv_istore_n (lv' := [(3, .int 0), (2, .int 0), (0, .ref (ad 1)), (1, .int (nI v))]) hx hb dX2_measureTo_20 rfl hl (by decide) rfl (fun ls hl => ?_)
  refine z_loop (10) (fun (k : Nat) H locs ls => ∃ (st : Int32), (st = (zMt I nc (zM0 (L 7) v) k).1) ∧ zH base D cA s H locs ad ty I (zs L 7 (zMt I nc (zM0 (L 7) v) k).2) P ∧ lv_has ls 5 [(0, .ref (ad 1)), (1, .int (nI v)), (2, .int st), (3, .int (nI k))]) 0 ⟨_, rfl, (by rw [zu_zs] at hw; exact hw), lv_sub hl [2, 3, 1, 0] rfl⟩ (by omega) (fun k hk_k ih_k H locs ls hI => ?_)
  obtain ⟨st, hst, hw, hl⟩ := hI
  refine lv_iload_n hx hb dX2_measureTo_21 rfl (lv_at hl 3 rfl) ?_
  refine lv_bipush (v := 10) hx hb dX2_measureTo_22 (by decide) ?_
  refine lv_icmp_ge (tgt := 60) hx hb dX2_measureTo_24 (by decide) (fun c1 => ?_) (fun c1 => ?_)
  · skip
    have hge : 10 = k := Nat.le_antisymm (z_ge (show nI 10 ≤ nI k from c1) (by omega) (by omega)) (by omega)
    subst hge
    exact z_vret hx hb hr hw.2 hw.1 (Nat.le_of_ble_eq_true rfl) (Nat.le_of_ble_eq_true rfl) dX2_measureTo_60 hlocks
  · skip
    have hlt : k < 10 := z_lt (show ¬ nI 10 ≤ nI k from c1) (by omega)
    refine lv_aload_n hx hb dX2_measureTo_27 rfl (lv_at hl 0 rfl) ?_
    refine lv_iload_n hx hb dX2_measureTo_28 rfl (lv_at hl 2 rfl) ?_
    refine z_ci0 (z_runV (As := [.int st]) (rest := []) M hw (zc_t1 hC) zc_X2_73 (c_X2_nearestBeside l base D cA ad ty I (zs L 7 (zMt I nc (zM0 (L 7) v) k).2) P ni nc ns nt hC st) hw.1 rfl rfl ⟨Nat.le_of_ble_eq_true rfl, Nat.le_of_ble_eq_true rfl⟩ ⟨Nat.le_of_ble_eq_true rfl, Nat.le_of_ble_eq_true rfl⟩ hl.1 (Nat.le_of_ble_eq_true rfl) dX2_measureTo_29) hw (fun H locs hw => ?_)
    rw [zs_self, hst]
    refine lv_istore (lv' := [(4, .int ((zNb (zMt I nc (zM0 (L 7) v) k).2 (zMt I nc (zM0 (L 7) v) k).1 10).1)), (0, .ref (ad 1)), (1, .int (nI v)), (2, .int st), (3, .int (nI k))]) hx hb dX2_measureTo_32 hl (by decide) rfl (fun ls hl => ?_)
    refine lv_iload hx hb dX2_measureTo_34 (lv_at hl 0 rfl) ?_
    refine lv_iconst (v := (-1)) hx hb dX2_measureTo_36 (by decide) ?_
    refine lv_icmp_ne (tgt := 41) hx hb dX2_measureTo_37 (by decide) (fun c2 => ?_) (fun c2 => ?_)
    · skip
      obtain ⟨w, hw10, ew⟩ : ∃ w, w < 10 ∧ (zNb (zMt I nc (zM0 (L 7) v) k).2 (zMt I nc (zM0 (L 7) v) k).1 10).1 = nI w := ⟨_, (zNb_ix c2).2, (zNb_ix c2).1⟩
      rw [ew] at hl
      refine lv_iload_n hx hb dX2_measureTo_41 rfl (lv_at hl 3 rfl) ?_
      refine lv_iconst (v := 1) hx hb dX2_measureTo_42 (by decide) ?_
      refine lv_iload hx hb dX2_measureTo_43 (lv_at hl 0 rfl) ?_
      refine lv_ishl hx hb dX2_measureTo_45 ?_
      refine lv_ior hx hb dX2_measureTo_46 ?_
      refine lv_topi (fun x3 ex3 => ?_)
      refine lv_istore_n (lv' := [(2, .int x3), (4, .int (nI w)), (0, .ref (ad 1)), (1, .int (nI v)), (3, .int (nI k))]) hx hb dX2_measureTo_47 rfl hl (by decide) rfl (fun ls hl => ?_)
      refine lv_aload_n hx hb dX2_measureTo_48 rfl (lv_at hl 2 rfl) ?_
      refine lv_iload hx hb dX2_measureTo_49 (lv_at hl 1 rfl) ?_
      refine z_cv0 (z_runV (As := [.int (nI w)]) (rest := []) M hw (zc_t1 hC) zc_X2_76 (c_X2_spreadFrom l base D cA ad ty I (zs L 7 (zMt I nc (zM0 (L 7) v) k).2) P ni nc ns nt hC hn hE w hw10) hw.1 rfl rfl ⟨Nat.le_of_ble_eq_true rfl, Nat.le_of_ble_eq_true rfl⟩ ⟨Nat.le_of_ble_eq_true rfl, Nat.le_of_ble_eq_true rfl⟩ hl.1 (Nat.le_of_ble_eq_true rfl) dX2_measureTo_51) hw (fun H locs hw => ?_)
      rw [zs_zs, zs_self] at hw
      refine lv_iinc (v := nI (k + 1)) (lv' := [(3, .int (nI (k + 1))), (2, .int x3), (4, .int (nI w)), (0, .ref (ad 1)), (1, .int (nI v))]) hx hb dX2_measureTo_54 hl (k := 4) rfl (nI_succ _).symm (by decide) rfl (fun ls hl => ?_)
      refine lv_goto (tgt := 21) hx hb dX2_measureTo_57 (by decide) ?_
      exact ih_k hlt _ _ _ ⟨_, (by rw [show zMt I nc (zM0 (L 7) v) (k + 1) = zMt1 I nc (zMt I nc (zM0 (L 7) v) k) from rfl, zMt1, if_neg c2]; simp only [ex3, hst, ew, nI_clamp (show w < 2 ^ 31 by omega)]), (by rw [show zMt I nc (zM0 (L 7) v) (k + 1) = zMt1 I nc (zMt I nc (zM0 (L 7) v) k) from rfl, zMt1, if_neg c2]; simp only [ew, nI_clamp (show w < 2 ^ 31 by omega)]; exact hw), lv_sub hl [3, 4, 1, 0] rfl⟩
    · skip
      exact z_vret hx hb hr hw.2 (by have h := zMt_stop (by assumption) (10 - k); rw [show k + (10 - k) = 10 by omega] at h; rw [h]; exact hw.1) (Nat.le_of_ble_eq_true rfl) (Nat.le_of_ble_eq_true rfl) dX2_measureTo_40 hlocks
