set_option maxHeartbeats 4000000 in
set_option maxRecDepth 100000 in
theorem c_X2_findWay (l : Launch) (base : Nat) (D : zDD) (cA : Nat → ClassId) (ad : Nat → Nat) (ty : zTyp) (I : zIt) (L : zLt) (P : zPt) (ni nc ns nt : Nat) (hC : zcls ni nc ns nt ty P) (hn : I 1 1 = nI nc) (hE : zEnds I nc) (u v t : Nat) (hu : u < 10) (hv : v < 10) (ht : t < nt) (hfin : ¬ (zMt I nc (zM0 (L 7) v) 10).2 u = zUNR → (zFw I nc (zMt I nc (zM0 (L 7) v) 10).2 v u (I (96 + t)) 9).1 = v) : zMv l base D cA yX2_findWay cX2_findWay 7 3 70 0 0 [.ref (ad 1), .int (nI u), .int (nI v), .ref (ad (80 + t))] (zW base D cA ad ty I L P) (zW base D cA ad ty (zFound I nc (zMt I nc (zM0 (L 7) v) 10).2 u v t) (zs L 7 (zMt I nc (zM0 (L 7) v) 10).2) P) := by
  refine z_start (by decide +kernel) (Nat.le_of_ble_eq_true rfl) fun p e s m below meth c ls M hP hS hl hr hlocks hnm => ?_
  have M : zM p s m c cX2_findWay RX2 7 base D cA := M
  have hw : zH base D cA s s.heap [] ad ty I L P := ⟨hP, hS⟩
  obtain ⟨hx, hb, -⟩ := id M
  have hl : lv_has ls 7 [(0, .ref (ad 1)), (1, .int (nI u)), (2, .int (nI v)), (3, .ref (ad (80 + t)))] := hl
  obtain ⟨hb1, hb2, hb3, hb4⟩ := zc_b hC
  refine lv_aload_n hx hb dX2_findWay_0 rfl (lv_at hl 3 rfl) ?_
  refine z_cv0 (z_runV (As := []) (rest := []) M hw (zc_tW hC (by omega)) zc_X2_42 (c_X5_end l base D cA ad ty I L P (80 + t) 0 (zc_tW hC ht)) hw.1 rfl rfl ⟨Nat.le_of_ble_eq_true rfl, Nat.le_of_ble_eq_true rfl⟩ ⟨Nat.le_of_ble_eq_true rfl, Nat.le_of_ble_eq_true rfl⟩ hl.1 (Nat.le_of_ble_eq_true rfl) dX2_findWay_1) hw (fun H locs hw => ?_)
  rw [zWay_set (ρ := 96 + t) (by omega)] at hw
  refine lv_aload_n hx hb dX2_findWay_4 rfl (lv_at hl 0 rfl) ?_
  refine lv_iload_n hx hb dX2_findWay_5 rfl (lv_at hl 2 rfl) ?_
  refine z_cv0 (z_runV (As := [.int (nI v)]) (rest := []) M hw (zc_t1 hC) zc_X2_47 (c_X2_measureTo l base D cA ad ty (zWay I (80 + t) (96 + t) (-1) (-1) (-1) (I (96 + t))) L P ni nc ns nt hC (by rw [zWay_ne (by omega) (by omega)]; exact hn) (zEnds_c (fun i hi => zWay_ne (by omega) (by omega)) hE) v hv) hw.1 rfl rfl ⟨Nat.le_of_ble_eq_true rfl, Nat.le_of_ble_eq_true rfl⟩ ⟨Nat.le_of_ble_eq_true rfl, Nat.le_of_ble_eq_true rfl⟩ hl.1 (Nat.le_of_ble_eq_true rfl) dX2_findWay_6) hw (fun H locs hw => ?_)
  rw [zMt_c (I := I) (fun i hi => zWay_ne (by omega) (by omega))] at hw
  refine lv_aload_n hx hb dX2_findWay_9 rfl (lv_at hl 0 rfl) ?_
  refine z_getr M hw (zc_t1 hC) zf_X2_28 (zc_p14 hC) dX2_findWay_10 ?_
  refine lv_iload_n hx hb dX2_findWay_13 rfl (lv_at hl 1 rfl) ?_
  refine z_lNald M hw (zc_t7 hC) rfl ⟨by omega, by omega⟩ dX2_findWay_14 ?_
  refine z_topl (y := ((zMt I nc (zM0 (L 7) v) 10).2) u) (by rw [zs_self]) ?_
  refine lv_ldc2 (v := 1152921504606846976) hx hb M.2.2.2.1 (M.2.2.2.2.1.use (tb 529 (by decide +kernel)) rfl) dX2_findWay_15 ?_
  refine W.lcmp hx hb dX2_findWay_18 ?_
  refine lv_if_ne (tgt := 23) hx hb dX2_findWay_19 (by decide) (fun c1 => ?_) (fun c1 => ?_)
  · skip
    have c1 := fun e => c1 ((lg_cmp_eq _ _).mpr e)
    obtain ⟨f, ef⟩ : ∃ f, f = (zMt I nc (zM0 (L 7) v) 10).2 := ⟨_, rfl⟩
    rw [← ef] at hfin
    have hfu : ¬ f u = zUNR := by rw [ef]; exact c1
    refine lv_aload_n hx hb dX2_findWay_23 rfl (lv_at hl 3 rfl) ?_
    refine z_cv0 (z_runV (As := []) (rest := []) M hw (zc_tW hC (by omega)) zc_X2_53 (c_X5_start l base D cA ad ty (zWay I (80 + t) (96 + t) (-1) (-1) (-1) (I (96 + t))) (zs L 7 (zMt I nc (zM0 (L 7) v) 10).2) P (80 + t) 0 (zc_tW hC ht)) hw.1 rfl rfl ⟨Nat.le_of_ble_eq_true rfl, Nat.le_of_ble_eq_true rfl⟩ ⟨Nat.le_of_ble_eq_true rfl, Nat.le_of_ble_eq_true rfl⟩ hl.1 (Nat.le_of_ble_eq_true rfl) dX2_findWay_24) hw (fun H locs hw => ?_)
    rw [zWay_again (by omega)] at hw
    refine lv_iload_n hx hb dX2_findWay_27 rfl (lv_at hl 1 rfl) ?_
    refine lv_istore (lv' := [(4, .int (nI u)), (0, .ref (ad 1)), (1, .int (nI u)), (2, .int (nI v)), (3, .ref (ad (80 + t)))]) hx hb dX2_findWay_28 hl (by decide) rfl (fun ls hl => ?_)
    refine lv_iconst (v := 0) hx hb dX2_findWay_30 (by decide) ?_
    refine lv_istore (lv' := [(5, .int 0), (4, .int (nI u)), (0, .ref (ad 1)), (1, .int (nI u)), (2, .int (nI v)), (3, .ref (ad (80 + t)))]) hx hb dX2_findWay_31 hl (by decide) rfl (fun ls hl => ?_)
    refine z_loop (9) (fun (k : Nat) H locs ls => ∃ (h : Nat), ∃ (p0 : Int32), ∃ (d0 : Int32), ∃ (r0 : Nat → Int32), (zFw I nc f v u (I (96 + t)) k = (h, k, p0, d0, r0)) ∧ (h < 10) ∧ zH base D cA s H locs ad ty (zWay I (80 + t) (96 + t) (nI k) p0 d0 r0) (zs L 7 f) P ∧ lv_has ls 7 [(0, .ref (ad 1)), (1, .int (nI u)), (2, .int (nI v)), (3, .ref (ad (80 + t))), (4, .int (nI h)), (5, .int (nI k))]) 0 ⟨_, _, _, _, rfl, hu, (by rw [← ef] at hw; exact hw), lv_sub hl [2, 3, 4, 5, 1, 0] rfl⟩ (by omega) (fun k hk_k ih_k H locs ls hI => ?_)
    obtain ⟨h, p0, d0, r0, hq, hh, hw, hl⟩ := hI
    refine lv_iload hx hb dX2_findWay_33 (lv_at hl 5 rfl) ?_
    refine lv_bipush (v := 10) hx hb dX2_findWay_35 (by decide) ?_
    refine lv_icmp_ge (tgt := 94) hx hb dX2_findWay_37 (by decide) (fun c2 => ?_) (fun c2 => ?_)
    · skip
      exact absurd (show nI 10 ≤ nI k from c2) (nI_ge (by omega) (by omega))
    · skip
      refine lv_iload hx hb dX2_findWay_40 (lv_at hl 4 rfl) ?_
      refine lv_iload_n hx hb dX2_findWay_42 rfl (lv_at hl 2 rfl) ?_
      refine lv_icmp_eq (tgt := 94) hx hb dX2_findWay_43 (by decide) (fun c3 => ?_) (fun c3 => ?_)
      · skip
        exact z_vret hx hb hr hw.2 (by unfold zFound; rw [← ef]; rw [if_neg hfu, zFw_at (by rw [hq]; exact nI_inj c3 (by omega) (by omega)) (by omega), hq]; exact hw.1) (Nat.le_of_ble_eq_true rfl) (Nat.le_of_ble_eq_true rfl) dX2_findWay_94 hlocks
      · skip
        have hne : ¬ h = v := fun e => c3 (by rw [e])
        have hk9 : k < 9 := by
          rcases Nat.lt_or_ge k 9 with q | q
          · exact q
          · have e9 : k = 9 := by omega
            subst e9
            have := hfin hfu
            rw [hq] at this
            exact absurd this hne
        refine lv_aload_n hx hb dX2_findWay_46 rfl (lv_at hl 0 rfl) ?_
        refine lv_iload hx hb dX2_findWay_47 (lv_at hl 4 rfl) ?_
        refine z_ci0 (z_runV (As := [.int (nI h)]) (rest := []) M hw (zc_t1 hC) zc_X2_56 (c_X2_lowestBestCable l base D cA ad ty (zWay I (80 + t) (96 + t) (nI k) p0 d0 r0) (zs L 7 f) P ni nc ns nt hC (by rw [zWay_ne (by omega) (by omega)]; exact hn) (zEnds_c (fun i hi => zWay_ne (by omega) (by omega)) hE) h hh) hw.1 rfl rfl ⟨Nat.le_of_ble_eq_true rfl, Nat.le_of_ble_eq_true rfl⟩ ⟨Nat.le_of_ble_eq_true rfl, Nat.le_of_ble_eq_true rfl⟩ hl.1 (Nat.le_of_ble_eq_true rfl) dX2_findWay_49) hw (fun H locs hw => ?_)
        rw [zs_self, zLbc_c (I := I) (fun i hi => zWay_ne (by omega) (by omega))]
        refine lv_istore (lv' := [(6, .int (zoi (zfst (zLbc I f h) nc))), (0, .ref (ad 1)), (1, .int (nI u)), (2, .int (nI v)), (3, .ref (ad (80 + t))), (4, .int (nI h)), (5, .int (nI k))]) hx hb dX2_findWay_52 hl (by decide) rfl (fun ls hl => ?_)
        refine lv_iload hx hb dX2_findWay_54 (lv_at hl 0 rfl) ?_
        refine lv_iconst (v := (-1)) hx hb dX2_findWay_56 (by decide) ?_
        refine lv_icmp_ne (tgt := 61) hx hb dX2_findWay_57 (by decide) (fun c4 => ?_) (fun c4 => ?_)
        · skip
          obtain ⟨c, ec, ecn⟩ := zoi_some c4
          obtain ⟨hcn, hct, -⟩ := zfst_spec ec
          rw [ecn] at hl
          have hbe := zCl_in (x := nI h) hE hcn (of_decide_eq_true hct).1
          refine lv_aload_n hx hb dX2_findWay_61 rfl (lv_at hl 4 rfl) ?_
          refine lv_iload hx hb dX2_findWay_62 (lv_at hl 0 rfl) ?_
          refine lv_aload_n hx hb dX2_findWay_64 rfl (lv_at hl 1 rfl) ?_
          refine z_getr M hw (zc_t1 hC) zf_X2_11 (zc_p10 hC) dX2_findWay_65 ?_
          refine lv_iload hx hb dX2_findWay_68 (lv_at hl 0 rfl) ?_
          refine z_aNald M hw (e9 := 3) (zc_t3 hC) ⟨by decide, rfl⟩ rfl ⟨by omega, by omega⟩ (zc_pC hC (by omega)) dX2_findWay_70 ?_
          refine z_cv0 (z_runV (As := [.int (nI c), .ref (ad (32 + c))]) (rest := []) M hw (zc_tW hC (by omega)) zc_X2_60 (c_X5_add l base D cA ad ty (zWay I (80 + t) (96 + t) (nI k) p0 d0 r0) (zs L 7 f) P (80 + t) 0 (zc_tW hC ht) (96 + t) (zc_tR hC ht) (zc_pR hC ht) (nI c) (32 + c) 0 (zc_tC hC hcn) k zWay_1 hk9 (by omega) (by omega) (by omega)) hw.1 rfl rfl ⟨Nat.le_of_ble_eq_true rfl, Nat.le_of_ble_eq_true rfl⟩ ⟨Nat.le_of_ble_eq_true rfl, Nat.le_of_ble_eq_true rfl⟩ hl.1 (Nat.le_of_ble_eq_true rfl) dX2_findWay_71) hw (fun H locs hw => ?_)
          simp only [zWay_2, zWay_3, zWay_ne (show 32 + c ≠ 80 + t by omega) (show 32 + c ≠ 96 + t by omega)] at hw
          rw [zWay_add (by omega)] at hw
          refine lv_aload_n hx hb dX2_findWay_74 rfl (lv_at hl 1 rfl) ?_
          refine z_getr M hw (zc_t1 hC) zf_X2_11 (zc_p10 hC) dX2_findWay_75 ?_
          refine lv_iload hx hb dX2_findWay_78 (lv_at hl 0 rfl) ?_
          refine z_aNald M hw (e9 := 3) (zc_t3 hC) ⟨by decide, rfl⟩ rfl ⟨by omega, by omega⟩ (zc_pC hC (by omega)) dX2_findWay_80 ?_
          refine lv_iload hx hb dX2_findWay_81 (lv_at hl 5 rfl) ?_
          refine z_ci0 (z_runV (As := [.int (nI h)]) (rest := []) M hw (zc_tC hC (by omega)) zc_X2_64 (c_X0_leadsTo l base D cA ad ty (zWay I (80 + t) (96 + t) (nI (k + 1)) (p0 + I (32 + c) 4) (d0 + I (32 + c) 3) (zs r0 k (nI c))) (zs L 7 f) P (32 + c) 0 (zc_tC hC hcn) (nI h)) hw.1 rfl rfl ⟨Nat.le_of_ble_eq_true rfl, Nat.le_of_ble_eq_true rfl⟩ ⟨Nat.le_of_ble_eq_true rfl, Nat.le_of_ble_eq_true rfl⟩ hl.1 (Nat.le_of_ble_eq_true rfl) dX2_findWay_83) hw (fun H locs hw => ?_)
          rw [zCl_c (I := I) (zWay_ne (by omega) (by omega)), hbe.1]
          refine lv_istore (lv' := [(4, .int (nI (zCleads I (32 + c) (nI h)).toNatClampNeg)), (6, .int (nI c)), (0, .ref (ad 1)), (1, .int (nI u)), (2, .int (nI v)), (3, .ref (ad (80 + t))), (5, .int (nI k))]) hx hb dX2_findWay_86 hl (by decide) rfl (fun ls hl => ?_)
          refine lv_iinc (v := nI (k + 1)) (lv' := [(5, .int (nI (k + 1))), (4, .int (nI (zCleads I (32 + c) (nI h)).toNatClampNeg)), (6, .int (nI c)), (0, .ref (ad 1)), (1, .int (nI u)), (2, .int (nI v)), (3, .ref (ad (80 + t)))]) hx hb dX2_findWay_88 hl (k := 6) rfl (nI_succ _).symm (by decide) rfl (fun ls hl => ?_)
          refine lv_goto (tgt := 33) hx hb dX2_findWay_91 (by decide) ?_
          exact ih_k hk9 _ _ _ ⟨_, _, _, _, (by show zFw1 I nc f v (zFw I nc f v u (I (96 + t)) k) = _; rw [hq]; unfold zFw1; dsimp only; rw [if_neg hne, ec]), hbe.2, hw, lv_sub hl [3, 4, 5, 6, 1, 0] rfl⟩
        · skip
          exact z_vret hx hb hr hw.2 (by unfold zFound; rw [← ef]; rw [if_neg hfu, zFw_no (by rw [hq]; exact zoi_none c4 (fun c h => (zfst_spec h).1) (show nc < 2 ^ 31 by omega)) (by omega), hq]; exact hw.1) (Nat.le_of_ble_eq_true rfl) (Nat.le_of_ble_eq_true rfl) dX2_findWay_60 hlocks
  · skip
    have c1 := (lg_cmp_eq _ _).mp c1
    obtain ⟨f, ef⟩ : ∃ f, f = (zMt I nc (zM0 (L 7) v) 10).2 := ⟨_, rfl⟩
    exact z_vret hx hb hr hw.2 (by unfold zFound; rw [← ef] at hw ⊢; rw [if_pos (by rw [ef]; exact c1)]; exact hw.1) (Nat.le_of_ble_eq_true rfl) (Nat.le_of_ble_eq_true rfl) dX2_findWay_22 hlocks
