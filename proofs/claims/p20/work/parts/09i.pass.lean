set_option maxHeartbeats 4000000 in
set_option maxRecDepth 100000 in
theorem c_X6_findStaleWays (l : Launch) (base : Nat) (D : zDD) (cA : Nat → ClassId) (ad : Nat → Nat) (ty : zTyp) (I : zIt) (L : zLt) (P : zPt) (ni nc ns nt : Nat) (hC : zcls ni nc ns nt ty P) (hI : zInv ni nc ns nt I) (hfin : zFin nc) : zMv l base D cA yX6_findStaleWays cX6_findStaleWays 2 4 96 0 0 [.ref (ad 0)] (zW base D cA ad ty I L P) (zW base D cA ad ty (zStale nc nt (I, L)).1 (zStale nc nt (I, L)).2 P) := by
  refine z_start (by decide +kernel) (Nat.le_of_ble_eq_true rfl) fun p e s m below meth c ls M hP hS hl hr hlocks hnm => ?_
  have M : zM p s m c cX6_findStaleWays RX6 2 base D cA := M
  have hw : zH base D cA s s.heap [] ad ty I L P := ⟨hP, hS⟩
  obtain ⟨hx, hb, -⟩ := id M
  have hl : lv_has ls 2 [(0, .ref (ad 0))] := hl
  obtain ⟨hb1, hb2, hb3, hb4⟩ := zc_b hC
  have hbb : nc ≤ 16 ∧ ns ≤ 4 ∧ nt ≤ 12 := ⟨hb2, hb3, hb4⟩
  refine lv_aload_n hx hb dX6_findStaleWays_0 rfl (lv_at hl 0 rfl) ?_
  refine z_geti M hw (zc_t0 hC) zf_X6_44 dX6_findStaleWays_1 ?_
  refine lv_if_ne (tgt := 8) hx hb dX6_findStaleWays_4 (by decide) (fun c1 => ?_) (fun c1 => ?_)
  · skip
    refine lv_iconst (v := 0) hx hb dX6_findStaleWays_8 (by decide) ?_
    refine lv_istore_n (lv' := [(1, .int 0), (0, .ref (ad 0))]) hx hb dX6_findStaleWays_9 rfl hl (by decide) rfl (fun ls hl => ?_)
    refine z_loop (nt) (fun (k : Nat) H locs ls => ∃ (J : zIt), ∃ (K : zLt), (zFs nc (I, L) k = (J, K)) ∧ zH base D cA s H locs ad ty J K P ∧ lv_has ls 2 [(0, .ref (ad 0)), (1, .int (nI k))]) 0 ⟨_, _, rfl, hw, lv_sub hl [1, 0] rfl⟩ (by omega) (fun k hk_k ih_k H locs ls hI => ?_)
    obtain ⟨J, K, hq, hw, hl⟩ := hI
    have hJ : zInv ni nc ns nt J := by have := zInv_zFs hbb (I, L) hI k hk_k; rw [hq] at this; exact this
    refine lv_iload_n hx hb dX6_findStaleWays_10 rfl (lv_at hl 1 rfl) ?_
    refine lv_aload_n hx hb dX6_findStaleWays_11 rfl (lv_at hl 0 rfl) ?_
    refine z_geti M hw (zc_t0 hC) zf_X6_41 dX6_findStaleWays_12 ?_
    refine z_topi (y := nI nt) hJ.1.2.2.2 ?_
    refine lv_icmp_ge (tgt := 58) hx hb dX6_findStaleWays_15 (by decide) (fun c2 => ?_) (fun c2 => ?_)
    · skip
      have hge : nt = k := Nat.le_antisymm (z_ge (show nI nt ≤ nI k from c2) (by omega) (by omega)) (by omega)
      refine lv_aload_n hx hb dX6_findStaleWays_58 rfl (lv_at hl 0 rfl) ?_
      refine lv_iconst (v := 0) hx hb dX6_findStaleWays_59 (by decide) ?_
      refine z_puti M hw (zc_t0 hC) zf_X6_44 (Or.inl rfl) rfl rfl dX6_findStaleWays_60 (fun H locs hw => ?_)
      exact z_vret hx hb hr hw.2 (by unfold zStale; rw [if_neg c1, hge, hq]; exact hw.1) (Nat.le_of_ble_eq_true rfl) (Nat.le_of_ble_eq_true rfl) dX6_findStaleWays_63 hlocks
    · skip
      have hlt : k < nt := z_lt (show ¬ nI nt ≤ nI k from c2) (by omega)
      obtain ⟨u, v, hu, hv, eu, ev⟩ := hJ.2.2.2.2 k hlt
      refine lv_aload_n hx hb dX6_findStaleWays_18 rfl (lv_at hl 0 rfl) ?_
      refine z_getr M hw (zc_t0 hC) zf_X6_22 (zc_p02 hC) dX6_findStaleWays_19 ?_
      refine lv_aload_n hx hb dX6_findStaleWays_22 rfl (lv_at hl 0 rfl) ?_
      refine z_getr M hw (zc_t0 hC) zf_X6_37 (zc_p05 hC) dX6_findStaleWays_23 ?_
      refine lv_iload_n hx hb dX6_findStaleWays_26 rfl (lv_at hl 1 rfl) ?_
      refine z_aNald M hw (e9 := 6) (zc_t5 hC) ⟨by decide, rfl⟩ rfl ⟨by omega, by omega⟩ (zc_pT hC (by omega)) dX6_findStaleWays_27 ?_
      refine z_geti M hw (zc_tT hC (by omega)) zf_X6_189 dX6_findStaleWays_28 ?_
      refine z_topi (y := nI u) eu ?_
      refine lv_aload_n hx hb dX6_findStaleWays_31 rfl (lv_at hl 0 rfl) ?_
      refine z_getr M hw (zc_t0 hC) zf_X6_37 (zc_p05 hC) dX6_findStaleWays_32 ?_
      refine lv_iload_n hx hb dX6_findStaleWays_35 rfl (lv_at hl 1 rfl) ?_
      refine z_aNald M hw (e9 := 6) (zc_t5 hC) ⟨by decide, rfl⟩ rfl ⟨by omega, by omega⟩ (zc_pT hC (by omega)) dX6_findStaleWays_36 ?_
      refine z_geti M hw (zc_tT hC (by omega)) zf_X6_192 dX6_findStaleWays_37 ?_
      refine z_topi (y := nI v) ev ?_
      refine lv_aload_n hx hb dX6_findStaleWays_40 rfl (lv_at hl 0 rfl) ?_
      refine z_getr M hw (zc_t0 hC) zf_X6_37 (zc_p05 hC) dX6_findStaleWays_41 ?_
      refine lv_iload_n hx hb dX6_findStaleWays_44 rfl (lv_at hl 1 rfl) ?_
      refine z_aNald M hw (e9 := 6) (zc_t5 hC) ⟨by decide, rfl⟩ rfl ⟨by omega, by omega⟩ (zc_pT hC (by omega)) dX6_findStaleWays_45 ?_
      refine z_getr M hw (zc_tT hC (by omega)) zf_X6_171 (zc_pW hC (by omega)) dX6_findStaleWays_46 ?_
      refine z_cv0 (z_runV (As := [.int (nI u), .int (nI v), .ref (ad (80 + k))]) (rest := []) M hw (zc_t1 hC) zc_X6_230 (c_X2_findWay l base D cA ad ty J K P ni nc ns nt hC hJ.1.2.1 (zInv_ends hJ) u v k hu hv hlt (fun h => hfin J hJ.2.2.1 u v (K 7) _ hu hv h)) hw.1 rfl rfl ⟨Nat.le_of_ble_eq_true rfl, Nat.le_of_ble_eq_true rfl⟩ ⟨Nat.le_of_ble_eq_true rfl, Nat.le_of_ble_eq_true rfl⟩ hl.1 (Nat.le_of_ble_eq_true rfl) dX6_findStaleWays_49) hw (fun H locs hw => ?_)
      refine lv_iinc (v := nI (k + 1)) (lv' := [(1, .int (nI (k + 1))), (0, .ref (ad 0))]) hx hb dX6_findStaleWays_52 hl (k := 1) rfl (nI_succ _).symm (by decide) rfl (fun ls hl => ?_)
      refine lv_goto (tgt := 10) hx hb dX6_findStaleWays_55 (by decide) ?_
      exact ih_k hlt _ _ _ ⟨_, _, (by rw [show zFs nc (I, L) (k + 1) = zFs1 nc (zFs nc (I, L) k) k from rfl, hq]; unfold zFs1; dsimp only; rw [eu, ev, nI_clamp (show u < 2 ^ 31 by omega), nI_clamp (show v < 2 ^ 31 by omega)]), hw, lv_sub hl [1, 0] rfl⟩
  · skip
    exact z_vret hx hb hr hw.2 (by unfold zStale; rw [if_pos c1]; exact hw.1) (Nat.le_of_ble_eq_true rfl) (Nat.le_of_ble_eq_true rfl) dX6_findStaleWays_7 hlocks
set_option maxHeartbeats 4000000 in
set_option maxRecDepth 100000 in
theorem c_X6_passHour (l : Launch) (base : Nat) (D : zDD) (cA : Nat → ClassId) (ad : Nat → Nat) (ty : zTyp) (I : zIt) (L : zLt) (P : zPt) (ni nc ns nt : Nat) (hC : zcls ni nc ns nt ty P) (hI : zInv ni nc ns nt I) (hfin : zFin nc) : zMv l base D cA yX6_passHour cX6_passHour 2 5 117 0 0 [.ref (ad 0)] (zW base D cA ad ty I L P) (zW base D cA ad ty (zHr nc ns nt (I, L)).1 (zHr nc ns nt (I, L)).2 P) := by
  refine z_start (by decide +kernel) (Nat.le_of_ble_eq_true rfl) fun p e s m below meth c ls M hP hS hl hr hlocks hnm => ?_
  have M : zM p s m c cX6_passHour RX6 2 base D cA := M
  have hw : zH base D cA s s.heap [] ad ty I L P := ⟨hP, hS⟩
  obtain ⟨hx, hb, -⟩ := id M
  have hl : lv_has ls 2 [(0, .ref (ad 0))] := hl
  obtain ⟨hb1, hb2, hb3, hb4⟩ := zc_b hC
  have hbb : nc ≤ 16 ∧ ns ≤ 4 ∧ nt ≤ 12 := ⟨hb2, hb3, hb4⟩
  refine lv_aload_n hx hb dX6_passHour_0 rfl (lv_at hl 0 rfl) ?_
  refine lv_dup hx hb dX6_passHour_1 rfl ?_
  refine z_geti M hw (zc_t0 hC) zf_X6_48 dX6_passHour_2 ?_
  refine lv_iconst (v := 1) hx hb dX6_passHour_5 (by decide) ?_
  refine lv_iadd hx hb dX6_passHour_6 ?_
  refine z_puti M hw (zc_t0 hC) zf_X6_48 (Or.inl rfl) rfl rfl dX6_passHour_7 (fun H locs hw => ?_)
  refine lv_iconst (v := 0) hx hb dX6_passHour_10 (by decide) ?_
  refine lv_istore_n (lv' := [(1, .int 0), (0, .ref (ad 0))]) hx hb dX6_passHour_11 rfl hl (by decide) rfl (fun ls hl => ?_)
  have hI1 : zInv ni nc ns nt (zu I 0 8 (I 0 8 + 1)) := zInv_zu hbb (by unfold zHl; omega) hI
  refine z_loop (ns) (fun (k : Nat) H locs ls => zH base D cA s H locs ad ty (zShs (zu I 0 8 (I 0 8 + 1)) k) L P ∧ lv_has ls 2 [(0, .ref (ad 0)), (1, .int (nI k))]) 0 ⟨hw, lv_sub hl [1, 0] rfl⟩ (by omega) (fun k hk_k ih_k H locs ls hI => ?_)
  obtain ⟨hw, hl⟩ := hI
  have hJ := zInv_zShs hbb (zu I 0 8 (I 0 8 + 1)) hI1 k hk_k
  refine lv_iload_n hx hb dX6_passHour_12 rfl (lv_at hl 1 rfl) ?_
  refine lv_aload_n hx hb dX6_passHour_13 rfl (lv_at hl 0 rfl) ?_
  refine z_geti M hw (zc_t0 hC) zf_X6_32 dX6_passHour_14 ?_
  refine z_topi (y := nI ns) hJ.1.2.2.1 ?_
  refine lv_icmp_ge (tgt := 36) hx hb dX6_passHour_17 (by decide) (fun c1 => ?_) (fun c1 => ?_)
  · skip
    have hge : ns = k := Nat.le_antisymm (z_ge (show nI ns ≤ nI k from c1) (by omega) (by omega)) (by omega)
    subst hge
    refine lv_aload_n hx hb dX6_passHour_36 rfl (lv_at hl 0 rfl) ?_
    refine z_cv0 (z_runV (As := []) (rest := []) M hw (zc_t0 hC) zc_X6_168 (c_X6_findStaleWays l base D cA ad ty (zShs (zu I 0 8 (I 0 8 + 1)) ns) L P ni nc ns nt hC (zInv_zShs hbb _ hI1 ns (Nat.le_refl _)) hfin) hw.1 rfl rfl ⟨Nat.le_of_ble_eq_true rfl, Nat.le_of_ble_eq_true rfl⟩ ⟨Nat.le_of_ble_eq_true rfl, Nat.le_of_ble_eq_true rfl⟩ hl.1 (Nat.le_of_ble_eq_true rfl) dX6_passHour_37) hw (fun H locs hw => ?_)
    obtain ⟨q, hqd⟩ : ∃ q, q = zStale nc nt (zShs (zu I 0 8 (I 0 8 + 1)) ns, L) := ⟨_, rfl⟩
    rw [← hqd] at hw
    have hq0 : zInv ni nc ns nt q.1 := by rw [hqd]; exact zInv_zStale hbb _ (zInv_zShs hbb _ hI1 ns (Nat.le_refl _))
    refine lv_iconst (v := 0) hx hb dX6_passHour_40 (by decide) ?_
    refine lv_istore_n (lv' := [(1, .int 0), (0, .ref (ad 0))]) hx hb dX6_passHour_41 rfl hl (by decide) rfl (fun ls hl => ?_)
    refine z_loop (nt) (fun (k : Nat) H locs ls => zH base D cA s H locs ad ty ((zSett q k).1) ((zSett q k).2) P ∧ lv_has ls 2 [(0, .ref (ad 0)), (1, .int (nI k))]) 0 ⟨hw, lv_sub hl [1, 0] rfl⟩ (by omega) (fun k hk_k ih_k H locs ls hI => ?_)
    obtain ⟨hw, hl⟩ := hI
    have hJ := zInv_zSett hbb q hq0 k hk_k
    refine lv_iload_n hx hb dX6_passHour_42 rfl (lv_at hl 1 rfl) ?_
    refine lv_aload_n hx hb dX6_passHour_43 rfl (lv_at hl 0 rfl) ?_
    refine z_geti M hw (zc_t0 hC) zf_X6_41 dX6_passHour_44 ?_
    refine z_topi (y := nI nt) hJ.1.2.2.2 ?_
    refine lv_icmp_ge (tgt := 65) hx hb dX6_passHour_47 (by decide) (fun c2 => ?_) (fun c2 => ?_)
    · skip
      have hge : nt = k := Nat.le_antisymm (z_ge (show nI nt ≤ nI k from c2) (by omega) (by omega)) (by omega)
      subst hge
      exact z_vret hx hb hr hw.2 (by unfold zHr; dsimp only; rw [← hqd]; exact hw.1) (Nat.le_of_ble_eq_true rfl) (Nat.le_of_ble_eq_true rfl) dX6_passHour_65 hlocks
    · skip
      have hlt : k < nt := z_lt (show ¬ nI nt ≤ nI k from c2) (by omega)
      refine lv_aload_n hx hb dX6_passHour_50 rfl (lv_at hl 0 rfl) ?_
      refine z_getr M hw (zc_t0 hC) zf_X6_37 (zc_p05 hC) dX6_passHour_51 ?_
      refine lv_iload_n hx hb dX6_passHour_54 rfl (lv_at hl 1 rfl) ?_
      refine z_aNald M hw (e9 := 6) (zc_t5 hC) ⟨by decide, rfl⟩ rfl ⟨by omega, by omega⟩ (zc_pT hC (by omega)) dX6_passHour_55 ?_
      refine z_cv0 (z_runV (As := []) (rest := []) M hw (zc_tT hC (by omega)) zc_X6_237 (c_X4_settleHour l base D cA ad ty (zSett q k).1 (zSett q k).2 P ni nc ns nt hC k hlt) hw.1 rfl rfl ⟨Nat.le_of_ble_eq_true rfl, Nat.le_of_ble_eq_true rfl⟩ ⟨Nat.le_of_ble_eq_true rfl, Nat.le_of_ble_eq_true rfl⟩ hl.1 (Nat.le_of_ble_eq_true rfl) dX6_passHour_56) hw (fun H locs hw => ?_)
      refine lv_iinc (v := nI (k + 1)) (lv' := [(1, .int (nI (k + 1))), (0, .ref (ad 0))]) hx hb dX6_passHour_59 hl (k := 1) rfl (nI_succ _).symm (by decide) rfl (fun ls hl => ?_)
      refine lv_goto (tgt := 42) hx hb dX6_passHour_62 (by decide) ?_
      exact ih_k hlt _ _ _ ⟨hw, lv_sub hl [1, 0] rfl⟩
  · skip
    have hlt : k < ns := z_lt (show ¬ nI ns ≤ nI k from c1) (by omega)
    refine lv_aload_n hx hb dX6_passHour_20 rfl (lv_at hl 0 rfl) ?_
    refine lv_aload_n hx hb dX6_passHour_21 rfl (lv_at hl 0 rfl) ?_
    refine z_getr M hw (zc_t0 hC) zf_X6_28 (zc_p03 hC) dX6_passHour_22 ?_
    refine lv_iload_n hx hb dX6_passHour_25 rfl (lv_at hl 1 rfl) ?_
    refine z_aNald M hw (e9 := 5) (zc_t4 hC) ⟨by decide, rfl⟩ rfl ⟨by omega, by omega⟩ (zc_pS hC (by omega)) dX6_passHour_26 ?_
    refine z_cv0 (z_runV (As := [.ref (ad (48 + k))]) (rest := []) M hw (zc_t0 hC) zc_X6_234 (c_X6_workHour l base D cA ad ty (zShs (zu I 0 8 (I 0 8 + 1)) k) L P ni nc ns nt hC k hlt (hJ.2.2.2.1 k hlt).1 hJ.2.1.1 hJ.2.1.2) hw.1 rfl rfl ⟨Nat.le_of_ble_eq_true rfl, Nat.le_of_ble_eq_true rfl⟩ ⟨Nat.le_of_ble_eq_true rfl, Nat.le_of_ble_eq_true rfl⟩ hl.1 (Nat.le_of_ble_eq_true rfl) dX6_passHour_27) hw (fun H locs hw => ?_)
    refine lv_iinc (v := nI (k + 1)) (lv' := [(1, .int (nI (k + 1))), (0, .ref (ad 0))]) hx hb dX6_passHour_30 hl (k := 1) rfl (nI_succ _).symm (by decide) rfl (fun ls hl => ?_)
    refine lv_goto (tgt := 12) hx hb dX6_passHour_33 (by decide) ?_
    exact ih_k hlt _ _ _ ⟨hw, lv_sub hl [1, 0] rfl⟩
