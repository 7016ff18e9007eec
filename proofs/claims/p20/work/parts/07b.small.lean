set_option maxHeartbeats 4000000 in
set_option maxRecDepth 100000 in
theorem c_J7_fill_d0a16 (l : Launch) (base : Nat) (D : zDD) (cA : Nat → ClassId) (ad : Nat → Nat) (ty : zTyp) (I : zIt) (L : zLt) (P : zPt) (κ n : Nat) (v : Int64) (ht : ty κ = some (9, n)) (hn : n ≤ 4000) : zMv l base D cA yJ7_fill_d0a16 cJ7_fill_d0a16 5 0 0 0 0 [.ref (ad κ), .long v] (zW base D cA ad ty I L P) (zW base D cA ad ty I (zfl L κ n v) P) := by
  refine z_start (by decide +kernel) (Nat.le_of_ble_eq_true rfl) fun p e s m below meth c ls M hP hS hl hr hlocks hnm => ?_
  have M : zM p s m c cJ7_fill_d0a16 RJ7 5 base D cA := M
  have hw : zH base D cA s s.heap [] ad ty I L P := ⟨hP, hS⟩
  obtain ⟨hx, hb, -⟩ := id M
  have hl : lv_has ls 5 [(0, .ref (ad κ)), (1, .long v)] := hl
  refine lv_iconst (v := 0) hx hb dJ7_fill_d0a16_0 (by decide) ?_
  refine lv_istore_n (lv' := [(3, .int 0), (0, .ref (ad κ)), (1, .long v)]) hx hb dJ7_fill_d0a16_1 rfl hl (by decide) rfl (fun ls hl => ?_)
  refine lv_aload_n hx hb dJ7_fill_d0a16_2 rfl (lv_at hl 1 rfl) ?_
  refine z_alen M hw (e9 := 1) ht (by decide) dJ7_fill_d0a16_3 ?_
  refine lv_istore (lv' := [(4, .int (nI n)), (3, .int 0), (0, .ref (ad κ)), (1, .long v)]) hx hb dJ7_fill_d0a16_4 hl (by decide) rfl (fun ls hl => ?_)
  refine z_loop (n) (fun (k : Nat) H locs ls => zH base D cA s H locs ad ty I (zfl L κ k v) P ∧ lv_has ls 5 [(0, .ref (ad κ)), (1, .long v), (3, .int (nI k)), (4, .int (nI n))]) 0 ⟨(by rw [zfl_0]; exact hw), lv_sub hl [2, 3, 1, 0] rfl⟩ (by omega) (fun k hk_k ih_k H locs ls hI => ?_)
  obtain ⟨hw, hl⟩ := hI
  refine lv_iload_n hx hb dJ7_fill_d0a16_6 rfl (lv_at hl 2 rfl) ?_
  refine lv_iload hx hb dJ7_fill_d0a16_7 (lv_at hl 3 rfl) ?_
  refine lv_icmp_ge (tgt := 22) hx hb dJ7_fill_d0a16_9 (by decide) (fun c1 => ?_) (fun c1 => ?_)
  · skip
    have hkn : k = n := by
          rcases Nat.lt_or_ge k n with h | h
          · exact absurd c1 (nI_ge h (by omega))
          · omega
    exact z_vret hx hb hr hw.2 (by rw [hkn] at hw; exact hw.1) (Nat.le_of_ble_eq_true rfl) (Nat.le_of_ble_eq_true rfl) dJ7_fill_d0a16_22 hlocks
  · skip
    have hlt : k < n := by
          rcases Nat.lt_or_ge k n with h | h
          · exact h
          · exact absurd (nI_le h (by omega)) c1
    refine lv_aload_n hx hb dJ7_fill_d0a16_12 rfl (lv_at hl 0 rfl) ?_
    refine lv_iload_n hx hb dJ7_fill_d0a16_13 rfl (lv_at hl 2 rfl) ?_
    refine lv_lload_n hx hb dJ7_fill_d0a16_14 rfl (lv_at hl 1 rfl) ?_
    refine z_lNast M hw ht rfl ⟨hlt, by omega⟩ dJ7_fill_d0a16_15 (fun H locs hw => ?_)
    refine lv_iinc (v := nI (k + 1)) (lv' := [(3, .int (nI (k + 1))), (0, .ref (ad κ)), (1, .long v), (4, .int (nI n))]) hx hb dJ7_fill_d0a16_16 hl (k := 2) rfl (nI_succ _).symm (by decide) rfl (fun ls hl => ?_)
    refine lv_goto (tgt := 6) hx hb dJ7_fill_d0a16_19 (by decide) ?_
    exact ih_k hlt _ _ _ ⟨(by rw [zfl_succ] at hw; exact hw), lv_sub hl [1, 2, 0, 3] rfl⟩
set_option maxHeartbeats 4000000 in
set_option maxRecDepth 100000 in
theorem c_J7_fill_53178 (l : Launch) (base : Nat) (D : zDD) (cA : Nat → ClassId) (ad : Nat → Nat) (ty : zTyp) (I : zIt) (L : zLt) (P : zPt) (κ n : Nat) (v : Int32) (ht : ty κ = some (8, n)) (hn : n ≤ 4000) : zMv l base D cA yJ7_fill_53178 cJ7_fill_53178 4 0 0 0 0 [.ref (ad κ), .int v] (zW base D cA ad ty I L P) (zW base D cA ad ty (zfl I κ n v) L P) := by
  refine z_start (by decide +kernel) (Nat.le_of_ble_eq_true rfl) fun p e s m below meth c ls M hP hS hl hr hlocks hnm => ?_
  have M : zM p s m c cJ7_fill_53178 RJ7 4 base D cA := M
  have hw : zH base D cA s s.heap [] ad ty I L P := ⟨hP, hS⟩
  obtain ⟨hx, hb, -⟩ := id M
  have hl : lv_has ls 4 [(0, .ref (ad κ)), (1, .int v)] := hl
  refine lv_iconst (v := 0) hx hb dJ7_fill_53178_0 (by decide) ?_
  refine lv_istore_n (lv' := [(2, .int 0), (0, .ref (ad κ)), (1, .int v)]) hx hb dJ7_fill_53178_1 rfl hl (by decide) rfl (fun ls hl => ?_)
  refine lv_aload_n hx hb dJ7_fill_53178_2 rfl (lv_at hl 1 rfl) ?_
  refine z_alen M hw (e9 := 0) ht (by decide) dJ7_fill_53178_3 ?_
  refine lv_istore_n (lv' := [(3, .int (nI n)), (2, .int 0), (0, .ref (ad κ)), (1, .int v)]) hx hb dJ7_fill_53178_4 rfl hl (by decide) rfl (fun ls hl => ?_)
  refine z_loop (n) (fun (k : Nat) H locs ls => zH base D cA s H locs ad ty (zfl I κ k v) L P ∧ lv_has ls 4 [(0, .ref (ad κ)), (1, .int v), (2, .int (nI k)), (3, .int (nI n))]) 0 ⟨(by rw [zfl_0]; exact hw), lv_sub hl [2, 3, 1, 0] rfl⟩ (by omega) (fun k hk_k ih_k H locs ls hI => ?_)
  obtain ⟨hw, hl⟩ := hI
  refine lv_iload_n hx hb dJ7_fill_53178_5 rfl (lv_at hl 2 rfl) ?_
  refine lv_iload_n hx hb dJ7_fill_53178_6 rfl (lv_at hl 3 rfl) ?_
  refine lv_icmp_ge (tgt := 20) hx hb dJ7_fill_53178_7 (by decide) (fun c1 => ?_) (fun c1 => ?_)
  · skip
    have hkn : k = n := by
          rcases Nat.lt_or_ge k n with h | h
          · exact absurd c1 (nI_ge h (by omega))
          · omega
    exact z_vret hx hb hr hw.2 (by rw [hkn] at hw; exact hw.1) (Nat.le_of_ble_eq_true rfl) (Nat.le_of_ble_eq_true rfl) dJ7_fill_53178_20 hlocks
  · skip
    have hlt : k < n := by
          rcases Nat.lt_or_ge k n with h | h
          · exact h
          · exact absurd (nI_le h (by omega)) c1
    refine lv_aload_n hx hb dJ7_fill_53178_10 rfl (lv_at hl 0 rfl) ?_
    refine lv_iload_n hx hb dJ7_fill_53178_11 rfl (lv_at hl 2 rfl) ?_
    refine lv_iload_n hx hb dJ7_fill_53178_12 rfl (lv_at hl 1 rfl) ?_
    refine z_iNast M hw ht rfl ⟨hlt, by omega⟩ dJ7_fill_53178_13 (fun H locs hw => ?_)
    refine lv_iinc (v := nI (k + 1)) (lv' := [(2, .int (nI (k + 1))), (0, .ref (ad κ)), (1, .int v), (3, .int (nI n))]) hx hb dJ7_fill_53178_14 hl (k := 2) rfl (nI_succ _).symm (by decide) rfl (fun ls hl => ?_)
    refine lv_goto (tgt := 5) hx hb dJ7_fill_53178_17 (by decide) ?_
    exact ih_k hlt _ _ _ ⟨(by rw [zfl_succ] at hw; exact hw), lv_sub hl [1, 2, 0, 3] rfl⟩
set_option maxHeartbeats 4000000 in
set_option maxRecDepth 100000 in
theorem c_X0_isWorking (l : Launch) (base : Nat) (D : zDD) (cA : Nat → ClassId) (ad : Nat → Nat) (ty : zTyp) (I : zIt) (L : zLt) (P : zPt) (κ n : Nat) (ht : ty κ = some (0, n)) : zMi l base D cA yX0_isWorking cX0_isWorking 1 .boolean 0 0 0 0 [.ref (ad κ)] (zW base D cA ad ty I L P) (zb (I κ 5 = 0)) (zW base D cA ad ty I L P) := by
  refine z_start (by decide +kernel) (Nat.le_of_ble_eq_true rfl) fun p e s m below meth c ls M hP hS hl hr hlocks hnm => ?_
  have M : zM p s m c cX0_isWorking RX0 1 base D cA := M
  have hw : zH base D cA s s.heap [] ad ty I L P := ⟨hP, hS⟩
  obtain ⟨hx, hb, -⟩ := id M
  have hl : lv_has ls 1 [(0, .ref (ad κ))] := hl
  refine lv_aload_n hx hb dX0_isWorking_0 rfl (lv_at hl 0 rfl) ?_
  refine z_geti M hw ht zf_X0_9 dX0_isWorking_1 ?_
  refine lv_if_ne (tgt := 11) hx hb dX0_isWorking_4 (by decide) (fun c1 => ?_) (fun c1 => ?_)
  · skip
    refine lv_iconst (v := 0) hx hb dX0_isWorking_11 (by decide) ?_
    exact z_iret hx hb hr (by unfold zb; (try first | rw [if_pos c1] | rw [if_neg c1] | rw [if_neg (fun h => h c1)])) rfl hw.2 hw.1 (Nat.le_of_ble_eq_true rfl) (Nat.le_of_ble_eq_true rfl) dX0_isWorking_12 hlocks
  · skip
    refine lv_iconst (v := 1) hx hb dX0_isWorking_7 (by decide) ?_
    refine lv_goto (tgt := 12) hx hb dX0_isWorking_8 (by decide) ?_
    exact z_iret hx hb hr (by unfold zb; (try first | rw [if_pos c1] | rw [if_neg c1] | rw [if_neg (fun h => h c1)])) rfl hw.2 hw.1 (Nat.le_of_ble_eq_true rfl) (Nat.le_of_ble_eq_true rfl) dX0_isWorking_12 hlocks
set_option maxHeartbeats 4000000 in
set_option maxRecDepth 100000 in
theorem c_X0_hasFaultAt (l : Launch) (base : Nat) (D : zDD) (cA : Nat → ClassId) (ad : Nat → Nat) (ty : zTyp) (I : zIt) (L : zLt) (P : zPt) (κ n : Nat) (ht : ty κ = some (0, n)) (k : Int32) : zMi l base D cA yX0_hasFaultAt cX0_hasFaultAt 2 .boolean 0 0 0 0 [.ref (ad κ), .int k] (zW base D cA ad ty I L P) (zb (zHasF I κ k)) (zW base D cA ad ty I L P) := by
  refine z_start (by decide +kernel) (Nat.le_of_ble_eq_true rfl) fun p e s m below meth c ls M hP hS hl hr hlocks hnm => ?_
  have M : zM p s m c cX0_hasFaultAt RX0 2 base D cA := M
  have hw : zH base D cA s s.heap [] ad ty I L P := ⟨hP, hS⟩
  obtain ⟨hx, hb, -⟩ := id M
  have hl : lv_has ls 2 [(0, .ref (ad κ)), (1, .int k)] := hl
  refine lv_aload_n hx hb dX0_hasFaultAt_0 rfl (lv_at hl 0 rfl) ?_
  refine z_geti M hw ht zf_X0_9 dX0_hasFaultAt_1 ?_
  refine lv_iload_n hx hb dX0_hasFaultAt_4 rfl (lv_at hl 1 rfl) ?_
  refine lv_ishr hx hb dX0_hasFaultAt_5 ?_
  refine lv_iconst (v := 1) hx hb dX0_hasFaultAt_6 (by decide) ?_
  refine lv_iand hx hb dX0_hasFaultAt_7 ?_
  refine lv_if_eq (tgt := 15) hx hb dX0_hasFaultAt_8 (by decide) (fun c1 => ?_) (fun c1 => ?_)
  · skip
    refine lv_iconst (v := 0) hx hb dX0_hasFaultAt_15 (by decide) ?_
    exact z_iret hx hb hr (by unfold zb; (try first | rw [if_pos c1] | rw [if_neg c1] | rw [if_neg (fun h => h c1)])) rfl hw.2 hw.1 (Nat.le_of_ble_eq_true rfl) (Nat.le_of_ble_eq_true rfl) dX0_hasFaultAt_16 hlocks
  · skip
    refine lv_iconst (v := 1) hx hb dX0_hasFaultAt_11 (by decide) ?_
    refine lv_goto (tgt := 16) hx hb dX0_hasFaultAt_12 (by decide) ?_
    exact z_iret hx hb hr (by unfold zb; (try first | rw [if_pos c1] | rw [if_neg c1] | rw [if_neg (fun h => h c1)])) rfl hw.2 hw.1 (Nat.le_of_ble_eq_true rfl) (Nat.le_of_ble_eq_true rfl) dX0_hasFaultAt_16 hlocks
set_option maxHeartbeats 4000000 in
set_option maxRecDepth 100000 in
theorem c_X0_leadsTo (l : Launch) (base : Nat) (D : zDD) (cA : Nat → ClassId) (ad : Nat → Nat) (ty : zTyp) (I : zIt) (L : zLt) (P : zPt) (κ n : Nat) (ht : ty κ = some (0, n)) (x : Int32) : zMi l base D cA yX0_leadsTo cX0_leadsTo 2 .int 0 0 0 0 [.ref (ad κ), .int x] (zW base D cA ad ty I L P) (zCleads I κ x) (zW base D cA ad ty I L P) := by
  refine z_start (by decide +kernel) (Nat.le_of_ble_eq_true rfl) fun p e s m below meth c ls M hP hS hl hr hlocks hnm => ?_
  have M : zM p s m c cX0_leadsTo RX0 2 base D cA := M
  have hw : zH base D cA s s.heap [] ad ty I L P := ⟨hP, hS⟩
  obtain ⟨hx, hb, -⟩ := id M
  have hl : lv_has ls 2 [(0, .ref (ad κ)), (1, .int x)] := hl
  refine lv_aload_n hx hb dX0_leadsTo_0 rfl (lv_at hl 0 rfl) ?_
  refine z_geti M hw ht zf_X0_9 dX0_leadsTo_1 ?_
  refine lv_if_eq (tgt := 9) hx hb dX0_leadsTo_4 (by decide) (fun c1 => ?_) (fun c1 => ?_)
  · skip
    refine lv_iload_n hx hb dX0_leadsTo_9 rfl (lv_at hl 1 rfl) ?_
    refine lv_aload_n hx hb dX0_leadsTo_10 rfl (lv_at hl 0 rfl) ?_
    refine z_geti M hw ht zf_X0_15 dX0_leadsTo_11 ?_
    refine lv_icmp_ne (tgt := 22) hx hb dX0_leadsTo_14 (by decide) (fun c2 => ?_) (fun c2 => ?_)
    · skip
      refine lv_iload_n hx hb dX0_leadsTo_22 rfl (lv_at hl 1 rfl) ?_
      refine lv_aload_n hx hb dX0_leadsTo_23 rfl (lv_at hl 0 rfl) ?_
      refine z_geti M hw ht zf_X0_18 dX0_leadsTo_24 ?_
      refine lv_icmp_ne (tgt := 37) hx hb dX0_leadsTo_27 (by decide) (fun c3 => ?_) (fun c3 => ?_)
      · skip
        refine lv_iconst (v := (-1)) hx hb dX0_leadsTo_37 (by decide) ?_
        exact z_iret hx hb hr (by unfold zCleads; (try first | rw [if_pos c1] | rw [if_neg c1] | rw [if_neg (fun h => h c1)]); (try first | rw [if_pos c2] | rw [if_neg c2] | rw [if_neg (fun h => h c2)]); (try first | rw [if_pos c3] | rw [if_neg c3] | rw [if_neg (fun h => h c3)])) rfl hw.2 hw.1 (Nat.le_of_ble_eq_true rfl) (Nat.le_of_ble_eq_true rfl) dX0_leadsTo_38 hlocks
      · skip
        refine lv_aload_n hx hb dX0_leadsTo_30 rfl (lv_at hl 0 rfl) ?_
        refine z_geti M hw ht zf_X0_15 dX0_leadsTo_31 ?_
        refine lv_goto (tgt := 38) hx hb dX0_leadsTo_34 (by decide) ?_
        exact z_iret hx hb hr (by unfold zCleads; (try first | rw [if_pos c1] | rw [if_neg c1] | rw [if_neg (fun h => h c1)]); (try first | rw [if_pos c2] | rw [if_neg c2] | rw [if_neg (fun h => h c2)]); (try first | rw [if_pos c3] | rw [if_neg c3] | rw [if_neg (fun h => h c3)])) rfl hw.2 hw.1 (Nat.le_of_ble_eq_true rfl) (Nat.le_of_ble_eq_true rfl) dX0_leadsTo_38 hlocks
    · skip
      refine lv_aload_n hx hb dX0_leadsTo_17 rfl (lv_at hl 0 rfl) ?_
      refine z_geti M hw ht zf_X0_18 dX0_leadsTo_18 ?_
      exact z_iret hx hb hr (by unfold zCleads; (try first | rw [if_pos c1] | rw [if_neg c1] | rw [if_neg (fun h => h c1)]); (try first | rw [if_pos c2] | rw [if_neg c2] | rw [if_neg (fun h => h c2)])) rfl hw.2 hw.1 (Nat.le_of_ble_eq_true rfl) (Nat.le_of_ble_eq_true rfl) dX0_leadsTo_21 hlocks
  · skip
    refine lv_iconst (v := (-1)) hx hb dX0_leadsTo_7 (by decide) ?_
    exact z_iret hx hb hr (by unfold zCleads; (try first | rw [if_pos c1] | rw [if_neg c1] | rw [if_neg (fun h => h c1)])) rfl hw.2 hw.1 (Nat.le_of_ble_eq_true rfl) (Nat.le_of_ble_eq_true rfl) dX0_leadsTo_8 hlocks
set_option maxHeartbeats 4000000 in
set_option maxRecDepth 100000 in
theorem c_X0_placeOfSpan (l : Launch) (base : Nat) (D : zDD) (cA : Nat → ClassId) (ad : Nat → Nat) (ty : zTyp) (I : zIt) (L : zLt) (P : zPt) (κ n : Nat) (ht : ty κ = some (0, n)) (k a b : Int32) (hne : ¬ 2 * I κ 2 = 0) : zMi l base D cA yX0_placeOfSpan cX0_placeOfSpan 4 .int 0 0 0 0 [.ref (ad κ), .int k, .int a, .int b] (zW base D cA ad ty I L P) (zPlace k a b (I κ 2)) (zW base D cA ad ty I L P) := by
  refine z_start (by decide +kernel) (Nat.le_of_ble_eq_true rfl) fun p e s m below meth c ls M hP hS hl hr hlocks hnm => ?_
  have M : zM p s m c cX0_placeOfSpan RX0 4 base D cA := M
  have hw : zH base D cA s s.heap [] ad ty I L P := ⟨hP, hS⟩
  obtain ⟨hx, hb, -⟩ := id M
  have hl : lv_has ls 4 [(0, .ref (ad κ)), (1, .int k), (2, .int a), (3, .int b)] := hl
  refine lv_iload_n hx hb dX0_placeOfSpan_0 rfl (lv_at hl 2 rfl) ?_
  refine lv_iconst (v := 2) hx hb dX0_placeOfSpan_1 (by decide) ?_
  refine lv_iload_n hx hb dX0_placeOfSpan_2 rfl (lv_at hl 1 rfl) ?_
  refine lv_imul hx hb dX0_placeOfSpan_3 ?_
  refine lv_iconst (v := 1) hx hb dX0_placeOfSpan_4 (by decide) ?_
  refine lv_iadd hx hb dX0_placeOfSpan_5 ?_
  refine lv_iload_n hx hb dX0_placeOfSpan_6 rfl (lv_at hl 3 rfl) ?_
  refine lv_iload_n hx hb dX0_placeOfSpan_7 rfl (lv_at hl 2 rfl) ?_
  refine lv_isub hx hb dX0_placeOfSpan_8 ?_
  refine lv_imul hx hb dX0_placeOfSpan_9 ?_
  refine lv_iconst (v := 2) hx hb dX0_placeOfSpan_10 (by decide) ?_
  refine lv_aload_n hx hb dX0_placeOfSpan_11 rfl (lv_at hl 0 rfl) ?_
  refine z_geti M hw ht zf_X0_21 dX0_placeOfSpan_12 ?_
  refine lv_imul hx hb dX0_placeOfSpan_15 ?_
  refine lv_idiv hx hb dX0_placeOfSpan_16 hne ?_
  refine lv_iadd hx hb dX0_placeOfSpan_17 ?_
  exact z_iret hx hb hr (by rfl) rfl hw.2 hw.1 (Nat.le_of_ble_eq_true rfl) (Nat.le_of_ble_eq_true rfl) dX0_placeOfSpan_18 hlocks
set_option maxHeartbeats 4000000 in
set_option maxRecDepth 100000 in
theorem c_X0_cost (l : Launch) (base : Nat) (D : zDD) (cA : Nat → ClassId) (ad : Nat → Nat) (ty : zTyp) (I : zIt) (L : zLt) (P : zPt) (κ n : Nat) (ht : ty κ = some (0, n)) : zMl l base D cA yX0_cost cX0_cost 1 0 0 0 0 [.ref (ad κ)] (zW base D cA ad ty I L P) (zCost I κ) (zW base D cA ad ty I L P) := by
  refine z_start (by decide +kernel) (Nat.le_of_ble_eq_true rfl) fun p e s m below meth c ls M hP hS hl hr hlocks hnm => ?_
  have M : zM p s m c cX0_cost RX0 1 base D cA := M
  have hw : zH base D cA s s.heap [] ad ty I L P := ⟨hP, hS⟩
  obtain ⟨hx, hb, -⟩ := id M
  have hl : lv_has ls 1 [(0, .ref (ad κ))] := hl
  refine lv_aload_n hx hb dX0_cost_0 rfl (lv_at hl 0 rfl) ?_
  refine z_geti M hw ht zf_X0_27 dX0_cost_1 ?_
  refine lv_i2l hx hb dX0_cost_4 rfl ?_
  refine lv_bipush (v := 17) hx hb dX0_cost_5 (by decide) ?_
  refine lv_lshl hx hb dX0_cost_7 rfl ?_
  refine lv_aload_n hx hb dX0_cost_8 rfl (lv_at hl 0 rfl) ?_
  refine z_geti M hw ht zf_X0_24 dX0_cost_9 ?_
  refine lv_i2l hx hb dX0_cost_12 rfl ?_
  refine lv_iconst (v := 4) hx hb dX0_cost_13 (by decide) ?_
  refine lv_lshl hx hb dX0_cost_14 rfl ?_
  refine lv_ladd hx hb dX0_cost_15 ?_
  refine lv_lconst (v := 1) hx hb dX0_cost_16 (by decide) ?_
  refine lv_ladd hx hb dX0_cost_17 ?_
  exact z_lret hx hb hr (by rfl) hw.2 hw.1 (Nat.le_of_ble_eq_true rfl) (Nat.le_of_ble_eq_true rfl) dX0_cost_18 hlocks
set_option maxHeartbeats 4000000 in
set_option maxRecDepth 100000 in
theorem c_X5_end (l : Launch) (base : Nat) (D : zDD) (cA : Nat → ClassId) (ad : Nat → Nat) (ty : zTyp) (I : zIt) (L : zLt) (P : zPt) (κ n : Nat) (ht : ty κ = some (5, n)) : zMv l base D cA yX5_end cX5_end 1 0 0 0 0 [.ref (ad κ)] (zW base D cA ad ty I L P) (zW base D cA ad ty (zu (zu (zu I κ 1 (-1)) κ 2 (-1)) κ 3 (-1)) L P) := by
  refine z_start (by decide +kernel) (Nat.le_of_ble_eq_true rfl) fun p e s m below meth c ls M hP hS hl hr hlocks hnm => ?_
  have M : zM p s m c cX5_end RX5 1 base D cA := M
  have hw : zH base D cA s s.heap [] ad ty I L P := ⟨hP, hS⟩
  obtain ⟨hx, hb, -⟩ := id M
  have hl : lv_has ls 1 [(0, .ref (ad κ))] := hl
  refine lv_aload_n hx hb dX5_end_0 rfl (lv_at hl 0 rfl) ?_
  refine lv_iconst (v := (-1)) hx hb dX5_end_1 (by decide) ?_
  refine z_puti M hw ht zf_X5_15 (Or.inl rfl) rfl rfl dX5_end_2 (fun H locs hw => ?_)
  refine lv_aload_n hx hb dX5_end_5 rfl (lv_at hl 0 rfl) ?_
  refine lv_iconst (v := (-1)) hx hb dX5_end_6 (by decide) ?_
  refine z_puti M hw ht zf_X5_19 (Or.inl rfl) rfl rfl dX5_end_7 (fun H locs hw => ?_)
  refine lv_aload_n hx hb dX5_end_10 rfl (lv_at hl 0 rfl) ?_
  refine lv_iconst (v := (-1)) hx hb dX5_end_11 (by decide) ?_
  refine z_puti M hw ht zf_X5_22 (Or.inl rfl) rfl rfl dX5_end_12 (fun H locs hw => ?_)
  exact z_vret hx hb hr hw.2 hw.1 (Nat.le_of_ble_eq_true rfl) (Nat.le_of_ble_eq_true rfl) dX5_end_15 hlocks
set_option maxHeartbeats 4000000 in
set_option maxRecDepth 100000 in
theorem c_X5_start (l : Launch) (base : Nat) (D : zDD) (cA : Nat → ClassId) (ad : Nat → Nat) (ty : zTyp) (I : zIt) (L : zLt) (P : zPt) (κ n : Nat) (ht : ty κ = some (5, n)) : zMv l base D cA yX5_start cX5_start 1 0 0 0 0 [.ref (ad κ)] (zW base D cA ad ty I L P) (zW base D cA ad ty (zu (zu (zu I κ 1 0) κ 2 0) κ 3 0) L P) := by
  refine z_start (by decide +kernel) (Nat.le_of_ble_eq_true rfl) fun p e s m below meth c ls M hP hS hl hr hlocks hnm => ?_
  have M : zM p s m c cX5_start RX5 1 base D cA := M
  have hw : zH base D cA s s.heap [] ad ty I L P := ⟨hP, hS⟩
  obtain ⟨hx, hb, -⟩ := id M
  have hl : lv_has ls 1 [(0, .ref (ad κ))] := hl
  refine lv_aload_n hx hb dX5_start_0 rfl (lv_at hl 0 rfl) ?_
  refine lv_iconst (v := 0) hx hb dX5_start_1 (by decide) ?_
  refine z_puti M hw ht zf_X5_15 (Or.inl rfl) rfl rfl dX5_start_2 (fun H locs hw => ?_)
  refine lv_aload_n hx hb dX5_start_5 rfl (lv_at hl 0 rfl) ?_
  refine lv_iconst (v := 0) hx hb dX5_start_6 (by decide) ?_
  refine z_puti M hw ht zf_X5_19 (Or.inl rfl) rfl rfl dX5_start_7 (fun H locs hw => ?_)
  refine lv_aload_n hx hb dX5_start_10 rfl (lv_at hl 0 rfl) ?_
  refine lv_iconst (v := 0) hx hb dX5_start_11 (by decide) ?_
  refine z_puti M hw ht zf_X5_22 (Or.inl rfl) rfl rfl dX5_start_12 (fun H locs hw => ?_)
  exact z_vret hx hb hr hw.2 hw.1 (Nat.le_of_ble_eq_true rfl) (Nat.le_of_ble_eq_true rfl) dX5_start_15 hlocks
set_option maxHeartbeats 4000000 in
set_option maxRecDepth 100000 in
theorem c_X5_cableAt (l : Launch) (base : Nat) (D : zDD) (cA : Nat → ClassId) (ad : Nat → Nat) (ty : zTyp) (I : zIt) (L : zLt) (P : zPt) (κ n : Nat) (ht : ty κ = some (5, n)) (ρ : Nat) (hr0 : ty ρ = some (8, 9)) (hp0 : P κ 0 = some ρ) (q : Int32) (hq : q < I κ 1 → q = nI q.toNatClampNeg ∧ q.toNatClampNeg < 9) : zMi l base D cA yX5_cableAt cX5_cableAt 2 .int 0 0 0 0 [.ref (ad κ), .int q] (zW base D cA ad ty I L P) (if q < I κ 1 then I ρ q.toNatClampNeg else -1) (zW base D cA ad ty I L P) := by
  refine z_start (by decide +kernel) (Nat.le_of_ble_eq_true rfl) fun p e s m below meth c ls M hP hS hl hr hlocks hnm => ?_
  have M : zM p s m c cX5_cableAt RX5 2 base D cA := M
  have hw : zH base D cA s s.heap [] ad ty I L P := ⟨hP, hS⟩
  obtain ⟨hx, hb, -⟩ := id M
  have hl : lv_has ls 2 [(0, .ref (ad κ)), (1, .int q)] := hl
  refine lv_iload_n hx hb dX5_cableAt_0 rfl (lv_at hl 1 rfl) ?_
  refine lv_aload_n hx hb dX5_cableAt_1 rfl (lv_at hl 0 rfl) ?_
  refine z_geti M hw ht zf_X5_15 dX5_cableAt_2 ?_
  refine lv_icmp_ge (tgt := 17) hx hb dX5_cableAt_5 (by decide) (fun c1 => ?_) (fun c1 => ?_)
  · skip
    refine lv_iconst (v := (-1)) hx hb dX5_cableAt_17 (by decide) ?_
    exact z_iret hx hb hr (by rw [if_neg (by simpa using c1)]) rfl hw.2 hw.1 (Nat.le_of_ble_eq_true rfl) (Nat.le_of_ble_eq_true rfl) dX5_cableAt_18 hlocks
  · skip
    have c1 : q < I κ 1 := by simpa using c1
    refine lv_aload_n hx hb dX5_cableAt_8 rfl (lv_at hl 0 rfl) ?_
    refine z_getr M hw ht zf_X5_9 hp0 dX5_cableAt_9 ?_
    refine lv_iload_n hx hb dX5_cableAt_12 rfl (lv_at hl 1 rfl) ?_
    refine z_iNald M hw hr0 (hq c1).1 ⟨(hq c1).2, by omega⟩ dX5_cableAt_13 ?_
    refine lv_goto (tgt := 18) hx hb dX5_cableAt_14 (by decide) ?_
    exact z_iret hx hb hr (by rw [if_pos c1]) rfl hw.2 hw.1 (Nat.le_of_ble_eq_true rfl) (Nat.le_of_ble_eq_true rfl) dX5_cableAt_18 hlocks
set_option maxHeartbeats 4000000 in
set_option maxRecDepth 100000 in
theorem c_X5_add (l : Launch) (base : Nat) (D : zDD) (cA : Nat → ClassId) (ad : Nat → Nat) (ty : zTyp) (I : zIt) (L : zLt) (P : zPt) (κ n : Nat) (ht : ty κ = some (5, n)) (ρ : Nat) (hr0 : ty ρ = some (8, 9)) (hp0 : P κ 0 = some ρ) (q : Int32) (μ n' : Nat) (hm : ty μ = some (0, n')) (j : Nat) (hj : I κ 1 = nI j) (hj9 : j < 9) (hne : ρ ≠ κ) (hmk : μ ≠ κ) (hmr : μ ≠ ρ) : zMv l base D cA yX5_add cX5_add 3 0 0 0 0 [.ref (ad κ), .int q, .ref (ad μ)] (zW base D cA ad ty I L P) (zW base D cA ad ty (zu (zu (zu (zu I ρ j q) κ 1 (nI (j + 1))) κ 2 (I κ 2 + I μ 4)) κ 3 (I κ 3 + I μ 3)) L P) := by
  refine z_start (by decide +kernel) (Nat.le_of_ble_eq_true rfl) fun p e s m below meth c ls M hP hS hl hr hlocks hnm => ?_
  have M : zM p s m c cX5_add RX5 3 base D cA := M
  have hw : zH base D cA s s.heap [] ad ty I L P := ⟨hP, hS⟩
  obtain ⟨hx, hb, -⟩ := id M
  have hl : lv_has ls 3 [(0, .ref (ad κ)), (1, .int q), (2, .ref (ad μ))] := hl
  refine lv_aload_n hx hb dX5_add_0 rfl (lv_at hl 0 rfl) ?_
  refine z_geti M hw ht zf_X5_15 dX5_add_1 ?_
  refine lv_if_lt (tgt := 19) hx hb dX5_add_4 (by decide) (fun c1 => ?_) (fun c1 => ?_)
  · skip
    exact absurd c1 (by rw [hj]; exact nI_pos (by omega))
  · skip
    refine lv_aload_n hx hb dX5_add_7 rfl (lv_at hl 0 rfl) ?_
    refine z_geti M hw ht zf_X5_15 dX5_add_8 ?_
    refine lv_aload_n hx hb dX5_add_11 rfl (lv_at hl 0 rfl) ?_
    refine z_getr M hw ht zf_X5_9 hp0 dX5_add_12 ?_
    refine z_alen M hw (e9 := 0) hr0 (by decide) dX5_add_15 ?_
    refine lv_icmp_lt (tgt := 20) hx hb dX5_add_16 (by decide) (fun c2 => ?_) (fun c2 => ?_)
    · skip
      refine lv_aload_n hx hb dX5_add_20 rfl (lv_at hl 0 rfl) ?_
      refine z_getr M hw ht zf_X5_9 hp0 dX5_add_21 ?_
      refine lv_aload_n hx hb dX5_add_24 rfl (lv_at hl 0 rfl) ?_
      refine z_geti M hw ht zf_X5_15 dX5_add_25 ?_
      refine lv_iload_n hx hb dX5_add_28 rfl (lv_at hl 1 rfl) ?_
      refine z_iNast M hw hr0 hj ⟨hj9, by omega⟩ dX5_add_29 (fun H locs hw => ?_)
      refine lv_aload_n hx hb dX5_add_30 rfl (lv_at hl 0 rfl) ?_
      refine lv_dup hx hb dX5_add_31 rfl ?_
      refine z_geti M hw ht zf_X5_15 dX5_add_32 ?_
      refine z_topi (y := I κ 1) (by rw [zu_ne _ _ (by omega)]) ?_
      refine lv_iconst (v := 1) hx hb dX5_add_35 (by decide) ?_
      refine lv_iadd hx hb dX5_add_36 ?_
      refine z_puti M hw ht zf_X5_15 (Or.inl rfl) rfl rfl dX5_add_37 (fun H locs hw => ?_)
      refine lv_aload_n hx hb dX5_add_40 rfl (lv_at hl 0 rfl) ?_
      refine lv_dup hx hb dX5_add_41 rfl ?_
      refine z_geti M hw ht zf_X5_19 dX5_add_42 ?_
      refine z_topi (y := I κ 2) (by rw [zu_ne _ _ (by omega), zu_ne _ _ (by omega)]) ?_
      refine lv_aload_n hx hb dX5_add_45 rfl (lv_at hl 2 rfl) ?_
      refine z_geti M hw hm zf_X5_25 dX5_add_46 ?_
      refine z_topi (y := I μ 4) (by rw [zu_ne _ _ (by omega), zu_ne _ _ (by omega)]) ?_
      refine lv_iadd hx hb dX5_add_49 ?_
      refine z_puti M hw ht zf_X5_19 (Or.inl rfl) rfl rfl dX5_add_50 (fun H locs hw => ?_)
      refine lv_aload_n hx hb dX5_add_53 rfl (lv_at hl 0 rfl) ?_
      refine lv_dup hx hb dX5_add_54 rfl ?_
      refine z_geti M hw ht zf_X5_22 dX5_add_55 ?_
      refine z_topi (y := I κ 3) (by rw [zu_ne _ _ (by omega), zu_ne _ _ (by omega), zu_ne _ _ (by omega)]) ?_
      refine lv_aload_n hx hb dX5_add_58 rfl (lv_at hl 2 rfl) ?_
      refine z_geti M hw hm zf_X5_30 dX5_add_59 ?_
      refine z_topi (y := I μ 3) (by rw [zu_ne _ _ (by omega), zu_ne _ _ (by omega), zu_ne _ _ (by omega)]) ?_
      refine lv_iadd hx hb dX5_add_62 ?_
      refine z_puti M hw ht zf_X5_22 (Or.inl rfl) rfl rfl dX5_add_63 (fun H locs hw => ?_)
      exact z_vret hx hb hr hw.2 (by first | exact hw.1 | (rw [← nI_succ] at hw; exact hw.1) | (rw [hj, ← nI_succ] at hw; exact hw.1)) (Nat.le_of_ble_eq_true rfl) (Nat.le_of_ble_eq_true rfl) dX5_add_66 hlocks
    · skip
      exact absurd (by rw [hj]; exact nI_lt hj9 (by omega)) c2
set_option maxHeartbeats 4000000 in
set_option maxRecDepth 100000 in
theorem c_X3_aimAt (l : Launch) (base : Nat) (D : zDD) (cA : Nat → ClassId) (ad : Nat → Nat) (ty : zTyp) (I : zIt) (L : zLt) (P : zPt) (κ n : Nat) (ht : ty κ = some (3, n)) (a b : Int32) : zMv l base D cA yX3_aimAt cX3_aimAt 3 0 0 0 0 [.ref (ad κ), .int a, .int b] (zW base D cA ad ty I L P) (zW base D cA ad ty (zu (zu I κ 5 a) κ 6 b) L P) := by
  refine z_start (by decide +kernel) (Nat.le_of_ble_eq_true rfl) fun p e s m below meth c ls M hP hS hl hr hlocks hnm => ?_
  have M : zM p s m c cX3_aimAt RX3 3 base D cA := M
  have hw : zH base D cA s s.heap [] ad ty I L P := ⟨hP, hS⟩
  obtain ⟨hx, hb, -⟩ := id M
  have hl : lv_has ls 3 [(0, .ref (ad κ)), (1, .int a), (2, .int b)] := hl
  refine lv_aload_n hx hb dX3_aimAt_0 rfl (lv_at hl 0 rfl) ?_
  refine lv_iload_n hx hb dX3_aimAt_1 rfl (lv_at hl 1 rfl) ?_
  refine z_puti M hw ht zf_X3_18 (Or.inl rfl) rfl rfl dX3_aimAt_2 (fun H locs hw => ?_)
  refine lv_aload_n hx hb dX3_aimAt_5 rfl (lv_at hl 0 rfl) ?_
  refine lv_iload_n hx hb dX3_aimAt_6 rfl (lv_at hl 2 rfl) ?_
  refine z_puti M hw ht zf_X3_21 (Or.inl rfl) rfl rfl dX3_aimAt_7 (fun H locs hw => ?_)
  exact z_vret hx hb hr hw.2 hw.1 (Nat.le_of_ble_eq_true rfl) (Nat.le_of_ble_eq_true rfl) dX3_aimAt_10 hlocks
set_option maxHeartbeats 4000000 in
set_option maxRecDepth 100000 in
theorem c_X3_begin (l : Launch) (base : Nat) (D : zDD) (cA : Nat → ClassId) (ad : Nat → Nat) (ty : zTyp) (I : zIt) (L : zLt) (P : zPt) (κ n : Nat) (ht : ty κ = some (3, n)) (a b : Int32) : zMv l base D cA yX3_begin cX3_begin 3 0 0 0 0 [.ref (ad κ), .int a, .int b] (zW base D cA ad ty I L P) (zW base D cA ad ty (zu (zu I κ 3 a) κ 4 b) L P) := by
  refine z_start (by decide +kernel) (Nat.le_of_ble_eq_true rfl) fun p e s m below meth c ls M hP hS hl hr hlocks hnm => ?_
  have M : zM p s m c cX3_begin RX3 3 base D cA := M
  have hw : zH base D cA s s.heap [] ad ty I L P := ⟨hP, hS⟩
  obtain ⟨hx, hb, -⟩ := id M
  have hl : lv_has ls 3 [(0, .ref (ad κ)), (1, .int a), (2, .int b)] := hl
  refine lv_aload_n hx hb dX3_begin_0 rfl (lv_at hl 0 rfl) ?_
  refine lv_iload_n hx hb dX3_begin_1 rfl (lv_at hl 1 rfl) ?_
  refine z_puti M hw ht zf_X3_9 (Or.inl rfl) rfl rfl dX3_begin_2 (fun H locs hw => ?_)
  refine lv_aload_n hx hb dX3_begin_5 rfl (lv_at hl 0 rfl) ?_
  refine lv_iload_n hx hb dX3_begin_6 rfl (lv_at hl 2 rfl) ?_
  refine z_puti M hw ht zf_X3_15 (Or.inl rfl) rfl rfl dX3_begin_7 (fun H locs hw => ?_)
  exact z_vret hx hb hr hw.2 hw.1 (Nat.le_of_ble_eq_true rfl) (Nat.le_of_ble_eq_true rfl) dX3_begin_10 hlocks
set_option maxHeartbeats 4000000 in
set_option maxRecDepth 100000 in
theorem c_X3_hoursTo (l : Launch) (base : Nat) (D : zDD) (cA : Nat → ClassId) (ad : Nat → Nat) (ty : zTyp) (I : zIt) (L : zLt) (P : zPt) (κ n : Nat) (ht : ty κ = some (3, n)) (a b : Int32) (hne : ¬ I κ 0 = 0) : zMi l base D cA yX3_hoursTo cX3_hoursTo 4 .int 1 20 0 0 [.ref (ad κ), .int a, .int b] (zW base D cA ad ty I L P) (zHours (I κ 1) (I κ 2) (I κ 0) a b) (zW base D cA ad ty I L P) := by
  refine z_start (by decide +kernel) (Nat.le_of_ble_eq_true rfl) fun p e s m below meth c ls M hP hS hl hr hlocks hnm => ?_
  have M : zM p s m c cX3_hoursTo RX3 4 base D cA := M
  have hw : zH base D cA s s.heap [] ad ty I L P := ⟨hP, hS⟩
  obtain ⟨hx, hb, -⟩ := id M
  have hl : lv_has ls 4 [(0, .ref (ad κ)), (1, .int a), (2, .int b)] := hl
  refine lv_iload_n hx hb dX3_hoursTo_0 rfl (lv_at hl 1 rfl) ?_
  refine lv_aload_n hx hb dX3_hoursTo_1 rfl (lv_at hl 0 rfl) ?_
  refine z_geti M hw ht zf_X3_27 dX3_hoursTo_2 ?_
  refine lv_isub hx hb dX3_hoursTo_5 ?_
  refine va_mabs hx hb (M.2.2.1.trans hl.1.symm) M.2.2.2.1 (M.2.2.2.2.1.use (tb 385 (by decide +kernel)) rfl) (M.2.2.2.2.1.use (tb 386 (by decide +kernel)) rfl) (M.2.2.2.2.1.use (tb 12 (by decide +kernel)) rfl) (M.2.2.2.2.1.use (tb 387 (by decide +kernel)) rfl) (Nat.le_of_ble_eq_true rfl) (Nat.le_of_ble_eq_true rfl) (Nat.le_of_ble_eq_true rfl) (Nat.le_of_ble_eq_true rfl) dX3_hoursTo_6 ?_
  refine W.eq (g2 := F0 m 9 ls [.int (zabs (a - (I κ 1)))]) rfl ?_
  refine lv_iload_n hx hb dX3_hoursTo_9 rfl (lv_at hl 2 rfl) ?_
  refine lv_aload_n hx hb dX3_hoursTo_10 rfl (lv_at hl 0 rfl) ?_
  refine z_geti M hw ht zf_X3_30 dX3_hoursTo_11 ?_
  refine lv_isub hx hb dX3_hoursTo_14 ?_
  refine va_mabs hx hb (M.2.2.1.trans hl.1.symm) M.2.2.2.1 (M.2.2.2.2.1.use (tb 385 (by decide +kernel)) rfl) (M.2.2.2.2.1.use (tb 386 (by decide +kernel)) rfl) (M.2.2.2.2.1.use (tb 12 (by decide +kernel)) rfl) (M.2.2.2.2.1.use (tb 387 (by decide +kernel)) rfl) (Nat.le_of_ble_eq_true rfl) (Nat.le_of_ble_eq_true rfl) (Nat.le_of_ble_eq_true rfl) (Nat.le_of_ble_eq_true rfl) dX3_hoursTo_15 ?_
  refine W.eq (g2 := F0 m 18 ls [.int (zabs (b - (I κ 2))), .int (zabs (a - (I κ 1)))]) rfl ?_
  refine lv_iadd hx hb dX3_hoursTo_18 ?_
  refine lv_topi (fun x1 ex1 => ?_)
  refine lv_istore_n (lv' := [(3, .int x1), (0, .ref (ad κ)), (1, .int a), (2, .int b)]) hx hb dX3_hoursTo_19 rfl hl (by decide) rfl (fun ls hl => ?_)
  refine lv_iload_n hx hb dX3_hoursTo_20 rfl (lv_at hl 0 rfl) ?_
  refine lv_aload_n hx hb dX3_hoursTo_21 rfl (lv_at hl 1 rfl) ?_
  refine z_geti M hw ht zf_X3_33 dX3_hoursTo_22 ?_
  refine lv_iadd hx hb dX3_hoursTo_25 ?_
  refine lv_iconst (v := 1) hx hb dX3_hoursTo_26 (by decide) ?_
  refine lv_isub hx hb dX3_hoursTo_27 ?_
  refine lv_aload_n hx hb dX3_hoursTo_28 rfl (lv_at hl 1 rfl) ?_
  refine z_geti M hw ht zf_X3_33 dX3_hoursTo_29 ?_
  refine lv_idiv hx hb dX3_hoursTo_32 hne ?_
  exact z_iret hx hb hr (by unfold zHours; simp only [ex1]) rfl hw.2 hw.1 (Nat.le_of_ble_eq_true rfl) (Nat.le_of_ble_eq_true rfl) dX3_hoursTo_33 hlocks
set_option maxHeartbeats 4000000 in
set_option maxRecDepth 100000 in
theorem c_X4_credit (l : Launch) (base : Nat) (D : zDD) (cA : Nat → ClassId) (ad : Nat → Nat) (ty : zTyp) (I : zIt) (L : zLt) (P : zPt) (κ n : Nat) (ht : ty κ = some (4, n)) (a : Int32) : zMv l base D cA yX4_credit cX4_credit 2 1 21 0 0 [.ref (ad κ), .int a] (zW base D cA ad ty I L P) (zW base D cA ad ty (zu I κ 8 (zmin (I κ 5) (I κ 8 + a))) L P) := by
  refine z_start (by decide +kernel) (Nat.le_of_ble_eq_true rfl) fun p e s m below meth c ls M hP hS hl hr hlocks hnm => ?_
  have M : zM p s m c cX4_credit RX4 2 base D cA := M
  have hw : zH base D cA s s.heap [] ad ty I L P := ⟨hP, hS⟩
  obtain ⟨hx, hb, -⟩ := id M
  have hl : lv_has ls 2 [(0, .ref (ad κ)), (1, .int a)] := hl
  refine lv_aload_n hx hb dX4_credit_0 rfl (lv_at hl 0 rfl) ?_
  refine lv_aload_n hx hb dX4_credit_1 rfl (lv_at hl 0 rfl) ?_
  refine z_geti M hw ht zf_X4_47 dX4_credit_2 ?_
  refine lv_aload_n hx hb dX4_credit_5 rfl (lv_at hl 0 rfl) ?_
  refine z_geti M hw ht zf_X4_22 dX4_credit_6 ?_
  refine lv_iload_n hx hb dX4_credit_9 rfl (lv_at hl 1 rfl) ?_
  refine lv_iadd hx hb dX4_credit_10 ?_
  refine va_mmin hx hb (M.2.2.1.trans hl.1.symm) M.2.2.2.1 (M.2.2.2.2.1.use (tb 572 (by decide +kernel)) rfl) (M.2.2.2.2.1.use (tb 573 (by decide +kernel)) rfl) (M.2.2.2.2.1.use (tb 12 (by decide +kernel)) rfl) (M.2.2.2.2.1.use (tb 574 (by decide +kernel)) rfl) (Nat.le_of_ble_eq_true rfl) (Nat.le_of_ble_eq_true rfl) (Nat.le_of_ble_eq_true rfl) (Nat.le_of_ble_eq_true rfl) dX4_credit_11 ?_
  refine W.eq (g2 := F0 m 14 ls [.int (zmin (I κ 5) ((I κ 8) + a)), .ref (ad κ)]) rfl ?_
  refine z_puti M hw ht zf_X4_22 (Or.inl rfl) rfl rfl dX4_credit_14 (fun H locs hw => ?_)
  exact z_vret hx hb hr hw.2 hw.1 (Nat.le_of_ble_eq_true rfl) (Nat.le_of_ble_eq_true rfl) dX4_credit_17 hlocks
