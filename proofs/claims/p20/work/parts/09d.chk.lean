set_option maxHeartbeats 4000000 in
set_option maxRecDepth 100000 in
theorem c_X6_checkIndex (l : Launch) (base : Nat) (D : zDD) (cA : Nat → ClassId) (ad : Nat → Nat) (ty : zTyp) (I : zIt) (L : zLt) (P : zPt) (hl0 : l.stackTraces = false) (i : Int32) (n : Nat) (hn : n ≤ 4000) : zXv l base D cA yX6_checkIndex cX6_checkIndex 2 6 90 1 6 [.int i, .int (nI n)] (zW base D cA ad ty I L P) (zo1 i n) (zW base D cA ad ty I L P) := by
  refine z_xstart (by decide +kernel) (Nat.le_of_ble_eq_true rfl) fun p e s m below meth c ls M hP hS hl hr hlocks hnm hout => ?_
  have M : zM p s m c cX6_checkIndex RX6 2 base D cA := M
  have hw : zH base D cA s s.heap [] ad ty I L P := ⟨hP, hS⟩
  obtain ⟨hx, hb, -⟩ := id M
  have hl : lv_has ls 2 [(0, .int i), (1, .int (nI n))] := hl
  refine lv_iload_n hx hb dX6_checkIndex_0 rfl (lv_at hl 0 rfl) ?_
  refine lv_if_lt (tgt := 9) hx hb dX6_checkIndex_1 (by decide) (fun c1 => ?_) (fun c1 => ?_)
  · skip
    refine z_throw_at (oc0 := 1) (text := "there is none of this number") (by unfold zo1; rw [if_neg (zlt_neg c1)]) hl0 M hw (by decide) (by decide +kernel) zth_1 hl.1 dX6_checkIndex_9 dX6_checkIndex_12 dX6_checkIndex_13 dX6_checkIndex_15 dX6_checkIndex_18 hout ⟨Nat.le_of_ble_eq_true rfl, Nat.le_of_ble_eq_true rfl, Nat.le_of_ble_eq_true rfl, Nat.le_of_ble_eq_true rfl⟩ (Nat.le_of_ble_eq_true rfl) (Nat.le_of_ble_eq_true rfl) hlocks
  · skip
    refine lv_iload_n hx hb dX6_checkIndex_4 rfl (lv_at hl 0 rfl) ?_
    refine lv_iload_n hx hb dX6_checkIndex_5 rfl (lv_at hl 1 rfl) ?_
    refine lv_icmp_lt (tgt := 19) hx hb dX6_checkIndex_6 (by decide) (fun c2 => ?_) (fun c2 => ?_)
    · skip
      exact z_xvret hx hb hr (by unfold zo1; rw [if_pos (zlt_ok (by omega) c1 c2)]) hw.2 hw.1 (Nat.le_of_ble_eq_true rfl) (Nat.le_of_ble_eq_true rfl) dX6_checkIndex_19 hlocks
    · skip
      refine z_throw_at (oc0 := 1) (text := "there is none of this number") (by unfold zo1; rw [if_neg (zlt_big (by omega) c2)]) hl0 M hw (by decide) (by decide +kernel) zth_1 hl.1 dX6_checkIndex_9 dX6_checkIndex_12 dX6_checkIndex_13 dX6_checkIndex_15 dX6_checkIndex_18 hout ⟨Nat.le_of_ble_eq_true rfl, Nat.le_of_ble_eq_true rfl, Nat.le_of_ble_eq_true rfl, Nat.le_of_ble_eq_true rfl⟩ (Nat.le_of_ble_eq_true rfl) (Nat.le_of_ble_eq_true rfl) hlocks
set_option maxHeartbeats 4000000 in
set_option maxRecDepth 100000 in
theorem c_X6_checkRange (l : Launch) (base : Nat) (D : zDD) (cA : Nat → ClassId) (ad : Nat → Nat) (ty : zTyp) (I : zIt) (L : zLt) (P : zPt) (hl0 : l.stackTraces = false) (v a b : Int32) : zXv l base D cA yX6_checkRange cX6_checkRange 3 6 90 1 6 [.int v, .int a, .int b] (zW base D cA ad ty I L P) (zo2 v a b) (zW base D cA ad ty I L P) := by
  refine z_xstart (by decide +kernel) (Nat.le_of_ble_eq_true rfl) fun p e s m below meth c ls M hP hS hl hr hlocks hnm hout => ?_
  have M : zM p s m c cX6_checkRange RX6 3 base D cA := M
  have hw : zH base D cA s s.heap [] ad ty I L P := ⟨hP, hS⟩
  obtain ⟨hx, hb, -⟩ := id M
  have hl : lv_has ls 3 [(0, .int v), (1, .int a), (2, .int b)] := hl
  refine lv_iload_n hx hb dX6_checkRange_0 rfl (lv_at hl 0 rfl) ?_
  refine lv_iload_n hx hb dX6_checkRange_1 rfl (lv_at hl 1 rfl) ?_
  refine lv_icmp_lt (tgt := 10) hx hb dX6_checkRange_2 (by decide) (fun c1 => ?_) (fun c1 => ?_)
  · skip
    refine z_throw_at (oc0 := 2) (text := "an argument is out of range") (by unfold zo2; rw [if_neg (fun h => absurd h.1 (Int32.not_le.mpr c1))]) hl0 M hw (by decide) (by decide +kernel) zth_2 hl.1 dX6_checkRange_10 dX6_checkRange_13 dX6_checkRange_14 dX6_checkRange_16 dX6_checkRange_19 hout ⟨Nat.le_of_ble_eq_true rfl, Nat.le_of_ble_eq_true rfl, Nat.le_of_ble_eq_true rfl, Nat.le_of_ble_eq_true rfl⟩ (Nat.le_of_ble_eq_true rfl) (Nat.le_of_ble_eq_true rfl) hlocks
  · skip
    refine lv_iload_n hx hb dX6_checkRange_5 rfl (lv_at hl 0 rfl) ?_
    refine lv_iload_n hx hb dX6_checkRange_6 rfl (lv_at hl 2 rfl) ?_
    refine lv_icmp_le (tgt := 20) hx hb dX6_checkRange_7 (by decide) (fun c2 => ?_) (fun c2 => ?_)
    · skip
      exact z_xvret hx hb hr (by unfold zo2; rw [if_pos ⟨Int32.not_lt.mp c1, c2⟩]) hw.2 hw.1 (Nat.le_of_ble_eq_true rfl) (Nat.le_of_ble_eq_true rfl) dX6_checkRange_20 hlocks
    · skip
      refine z_throw_at (oc0 := 2) (text := "an argument is out of range") (by unfold zo2; rw [if_neg (fun h => absurd h.2 c2)]) hl0 M hw (by decide) (by decide +kernel) zth_2 hl.1 dX6_checkRange_10 dX6_checkRange_13 dX6_checkRange_14 dX6_checkRange_16 dX6_checkRange_19 hout ⟨Nat.le_of_ble_eq_true rfl, Nat.le_of_ble_eq_true rfl, Nat.le_of_ble_eq_true rfl, Nat.le_of_ble_eq_true rfl⟩ (Nat.le_of_ble_eq_true rfl) (Nat.le_of_ble_eq_true rfl) hlocks
set_option maxHeartbeats 4000000 in
set_option maxRecDepth 100000 in
theorem c_X6_checkUnlike (l : Launch) (base : Nat) (D : zDD) (cA : Nat → ClassId) (ad : Nat → Nat) (ty : zTyp) (I : zIt) (L : zLt) (P : zPt) (hl0 : l.stackTraces = false) (a b : Int32) : zXv l base D cA yX6_checkUnlike cX6_checkUnlike 2 6 90 1 6 [.int a, .int b] (zW base D cA ad ty I L P) (zoU a b) (zW base D cA ad ty I L P) := by
  refine z_xstart (by decide +kernel) (Nat.le_of_ble_eq_true rfl) fun p e s m below meth c ls M hP hS hl hr hlocks hnm hout => ?_
  have M : zM p s m c cX6_checkUnlike RX6 2 base D cA := M
  have hw : zH base D cA s s.heap [] ad ty I L P := ⟨hP, hS⟩
  obtain ⟨hx, hb, -⟩ := id M
  have hl : lv_has ls 2 [(0, .int a), (1, .int b)] := hl
  refine lv_iload_n hx hb dX6_checkUnlike_0 rfl (lv_at hl 0 rfl) ?_
  refine lv_iload_n hx hb dX6_checkUnlike_1 rfl (lv_at hl 1 rfl) ?_
  refine lv_icmp_ne (tgt := 15) hx hb dX6_checkUnlike_2 (by decide) (fun c1 => ?_) (fun c1 => ?_)
  · skip
    exact z_xvret hx hb hr (by unfold zoU; rw [if_neg c1]) hw.2 hw.1 (Nat.le_of_ble_eq_true rfl) (Nat.le_of_ble_eq_true rfl) dX6_checkUnlike_15 hlocks
  · skip
    refine z_throw_at (oc0 := 2) (text := "both islands are the same") (by unfold zoU; rw [if_pos c1]) hl0 M hw (by decide) (by decide +kernel) zth_2 hl.1 dX6_checkUnlike_5 dX6_checkUnlike_8 dX6_checkUnlike_9 dX6_checkUnlike_11 dX6_checkUnlike_14 hout ⟨Nat.le_of_ble_eq_true rfl, Nat.le_of_ble_eq_true rfl, Nat.le_of_ble_eq_true rfl, Nat.le_of_ble_eq_true rfl⟩ (Nat.le_of_ble_eq_true rfl) (Nat.le_of_ble_eq_true rfl) hlocks
set_option maxHeartbeats 4000000 in
set_option maxRecDepth 100000 in
theorem c_X6_checkRoom (l : Launch) (base : Nat) (D : zDD) (cA : Nat → ClassId) (ad : Nat → Nat) (ty : zTyp) (I : zIt) (L : zLt) (P : zPt) (hl0 : l.stackTraces = false) (a b : Int32) : zXv l base D cA yX6_checkRoom cX6_checkRoom 2 6 90 1 6 [.int a, .int b] (zW base D cA ad ty I L P) (zo3 a b) (zW base D cA ad ty I L P) := by
  refine z_xstart (by decide +kernel) (Nat.le_of_ble_eq_true rfl) fun p e s m below meth c ls M hP hS hl hr hlocks hnm hout => ?_
  have M : zM p s m c cX6_checkRoom RX6 2 base D cA := M
  have hw : zH base D cA s s.heap [] ad ty I L P := ⟨hP, hS⟩
  obtain ⟨hx, hb, -⟩ := id M
  have hl : lv_has ls 2 [(0, .int a), (1, .int b)] := hl
  refine lv_iload_n hx hb dX6_checkRoom_0 rfl (lv_at hl 0 rfl) ?_
  refine lv_iload_n hx hb dX6_checkRoom_1 rfl (lv_at hl 1 rfl) ?_
  refine lv_icmp_lt (tgt := 15) hx hb dX6_checkRoom_2 (by decide) (fun c1 => ?_) (fun c1 => ?_)
  · skip
    exact z_xvret hx hb hr (by unfold zo3; rw [if_pos c1]) hw.2 hw.1 (Nat.le_of_ble_eq_true rfl) (Nat.le_of_ble_eq_true rfl) dX6_checkRoom_15 hlocks
  · skip
    refine z_throw_at (oc0 := 3) (text := "there would be more than told") (by unfold zo3; rw [if_neg c1]) hl0 M hw (by decide) (by decide +kernel) zth_3 hl.1 dX6_checkRoom_5 dX6_checkRoom_8 dX6_checkRoom_9 dX6_checkRoom_11 dX6_checkRoom_14 hout ⟨Nat.le_of_ble_eq_true rfl, Nat.le_of_ble_eq_true rfl, Nat.le_of_ble_eq_true rfl, Nat.le_of_ble_eq_true rfl⟩ (Nat.le_of_ble_eq_true rfl) (Nat.le_of_ble_eq_true rfl) hlocks
set_option maxHeartbeats 4000000 in
set_option maxRecDepth 100000 in
theorem c_X6_checkIdle (l : Launch) (base : Nat) (D : zDD) (cA : Nat → ClassId) (ad : Nat → Nat) (ty : zTyp) (I : zIt) (L : zLt) (P : zPt) (hl0 : l.stackTraces = false) (κ n : Nat) (ht : ty κ = some (3, n)) : zXv l base D cA yX6_checkIdle cX6_checkIdle 1 6 90 1 6 [.ref (ad κ)] (zW base D cA ad ty I L P) (zoI I κ) (zW base D cA ad ty I L P) := by
  refine z_xstart (by decide +kernel) (Nat.le_of_ble_eq_true rfl) fun p e s m below meth c ls M hP hS hl hr hlocks hnm hout => ?_
  have M : zM p s m c cX6_checkIdle RX6 1 base D cA := M
  have hw : zH base D cA s s.heap [] ad ty I L P := ⟨hP, hS⟩
  obtain ⟨hx, hb, -⟩ := id M
  have hl : lv_has ls 1 [(0, .ref (ad κ))] := hl
  refine lv_aload_n hx hb dX6_checkIdle_0 rfl (lv_at hl 0 rfl) ?_
  refine z_geti M hw ht zf_X6_155 dX6_checkIdle_1 ?_
  refine lv_if_eq (tgt := 17) hx hb dX6_checkIdle_4 (by decide) (fun c1 => ?_) (fun c1 => ?_)
  · skip
    exact z_xvret hx hb hr (by unfold zoI; rw [if_pos c1]) hw.2 hw.1 (Nat.le_of_ble_eq_true rfl) (Nat.le_of_ble_eq_true rfl) dX6_checkIdle_17 hlocks
  · skip
    refine z_throw_at (oc0 := 3) (text := "the ship is not idle") (by unfold zoI; rw [if_neg c1]) hl0 M hw (by decide) (by decide +kernel) zth_3 hl.1 dX6_checkIdle_7 dX6_checkIdle_10 dX6_checkIdle_11 dX6_checkIdle_13 dX6_checkIdle_16 hout ⟨Nat.le_of_ble_eq_true rfl, Nat.le_of_ble_eq_true rfl, Nat.le_of_ble_eq_true rfl, Nat.le_of_ble_eq_true rfl⟩ (Nat.le_of_ble_eq_true rfl) (Nat.le_of_ble_eq_true rfl) hlocks
set_option maxHeartbeats 4000000 in
set_option maxRecDepth 100000 in
theorem c_X6_checkSpan (l : Launch) (base : Nat) (D : zDD) (cA : Nat → ClassId) (ad : Nat → Nat) (ty : zTyp) (I : zIt) (L : zLt) (P : zPt) (hl0 : l.stackTraces = false) (ni nc ns nt : Nat) (hC : zcls ni nc ns nt ty P) (hn : I 1 1 = nI nc) (hs : ∀ i, i < nc → I (32 + i) 2 = nI (I (32 + i) 2).toNatClampNeg ∧ (I (32 + i) 2).toNatClampNeg ≤ 8) (i k : Int32) : zXv l base D cA yX6_checkSpan cX6_checkSpan 3 7 111 2 12 [.ref (ad 0), .int i, .int k] (zW base D cA ad ty I L P) (zoS I nc i k) (zW base D cA ad ty I L P) := by
  refine z_xstart (by decide +kernel) (Nat.le_of_ble_eq_true rfl) fun p e s m below meth c ls M hP hS hl hr hlocks hnm hout => ?_
  have M : zM p s m c cX6_checkSpan RX6 3 base D cA := M
  have hw : zH base D cA s s.heap [] ad ty I L P := ⟨hP, hS⟩
  obtain ⟨hx, hb, -⟩ := id M
  have hl : lv_has ls 3 [(0, .ref (ad 0)), (1, .int i), (2, .int k)] := hl
  obtain ⟨hb1, hb2, hb3, hb4⟩ := zc_b hC
  refine lv_iload_n hx hb dX6_checkSpan_0 rfl (lv_at hl 1 rfl) ?_
  refine lv_aload_n hx hb dX6_checkSpan_1 rfl (lv_at hl 0 rfl) ?_
  refine z_getr M hw (zc_t0 hC) zf_X6_22 (zc_p02 hC) dX6_checkSpan_2 ?_
  refine z_geti M hw (zc_t1 hC) zf_X6_67 dX6_checkSpan_5 ?_
  refine z_topi (y := nI nc) hn ?_
  refine z_xcv (z_xrunS (As := [.int i, .int (nI nc)]) (rest := []) M hw.2 zc_X6_61 zn_X6_61 (c_X6_checkIndex l base D cA ad ty I L P hl0 i nc (by omega)) hw.1 rfl rfl ⟨Nat.le_of_ble_eq_true rfl, Nat.le_of_ble_eq_true rfl⟩ ⟨Nat.le_of_ble_eq_true rfl, Nat.le_of_ble_eq_true rfl⟩ hl.1 (Nat.le_of_ble_eq_true rfl) dX6_checkSpan_8) hw.2 (fun c1 ce q H locs hw0 hS hq hv hcl => ?_) (fun c1 H locs hw1 hS => ?_)
  · exact z_xout c1 (by unfold zoS zsq; (try first | rw [if_pos c1] | rw [if_neg c1])) hw0 hS hq hv hcl hout (Nat.le_of_ble_eq_true rfl) (Nat.le_of_ble_eq_true rfl) hlocks
  have hw : zH base D cA s H locs ad ty I L P := ⟨hw1, hS⟩
  have hc1 := zo1_z c1
  refine lv_iload_n hx hb dX6_checkSpan_11 rfl (lv_at hl 2 rfl) ?_
  refine lv_aload_n hx hb dX6_checkSpan_12 rfl (lv_at hl 0 rfl) ?_
  refine z_getr M hw (zc_t0 hC) zf_X6_22 (zc_p02 hC) dX6_checkSpan_13 ?_
  refine z_getr M hw (zc_t1 hC) zf_X6_79 (zc_p10 hC) dX6_checkSpan_16 ?_
  refine lv_iload_n hx hb dX6_checkSpan_19 rfl (lv_at hl 1 rfl) ?_
  refine z_aNald M hw (e9 := 3) (zc_t3 hC) ⟨by decide, rfl⟩ (zlt_nat hc1).1 ⟨by have := (zlt_nat hc1).2; omega, by omega⟩ (zc_pC hC (zlt_nat hc1).2) dX6_checkSpan_20 ?_
  refine z_geti M hw (zc_tC hC (zlt_nat hc1).2) zf_X6_216 dX6_checkSpan_21 ?_
  refine z_topi (y := nI (zSpn I i)) (hs _ (zlt_nat hc1).2).1 ?_
  refine z_xcv (z_xrunS (As := [.int k, .int (nI (zSpn I i))]) (rest := []) M hw.2 zc_X6_61 zn_X6_61 (c_X6_checkIndex l base D cA ad ty I L P hl0 k (zSpn I i) (by have := (hs _ (zlt_nat hc1).2).2; unfold zSpn; omega)) hw.1 rfl rfl ⟨Nat.le_of_ble_eq_true rfl, Nat.le_of_ble_eq_true rfl⟩ ⟨Nat.le_of_ble_eq_true rfl, Nat.le_of_ble_eq_true rfl⟩ hl.1 (Nat.le_of_ble_eq_true rfl) dX6_checkSpan_24) hw.2 (fun c2 ce q H locs hw0 hS hq hv hcl => ?_) (fun c2 H locs hw1 hS => ?_)
  · exact z_xout c2 (by unfold zoS zsq; (try first | rw [if_pos c1] | rw [if_neg c1]); (try first | rw [if_pos c2] | rw [if_neg c2])) hw0 hS hq hv hcl hout (Nat.le_of_ble_eq_true rfl) (Nat.le_of_ble_eq_true rfl) hlocks
  have hw : zH base D cA s H locs ad ty I L P := ⟨hw1, hS⟩
  have hc2 := zo1_z c2
  exact z_xvret hx hb hr (by unfold zoS zsq; rw [if_pos c1]; exact c2) hw.2 hw.1 (Nat.le_of_ble_eq_true rfl) (Nat.le_of_ble_eq_true rfl) dX6_checkSpan_27 hlocks
