set_option maxHeartbeats 4000000 in
set_option maxRecDepth 100000 in
theorem c_L_island (l : Launch) (base : Nat) (D : zDD) (cA : Nat → ClassId) (ad : Nat → Nat) (ty : zTyp) (I : zIt) (L : zLt) (P : zPt) (n0 : Nat) (ht0 : ty 0 = some (6, n0)) {oc : Nat} {r : Int32} {W1 : Heap → Prop} {ty2 : zTyp} {I2 : zIt} {L2 : zLt} {P2 : zPt} (p0 : Int32) (p1 : Int32) (hM : zXi l base D cA yX6_island cX6_island 3 .int 7 112 4 20 [.ref (ad 0), .int p0, .int p1] (zW base D cA ad ty I L P) oc r W1) (hoc : oc = 0 ∨ oc = 2 ∨ oc = 3) (hW : ∀ H, W1 H → ∃ ad2, (∀ κ t, ty κ = some t → ad2 κ = ad κ) ∧ zW base D cA ad2 ty2 I2 L2 P2 H) : zMh l base D cA yL_island cL_island 4 [(0, 7, 8, 14), (0, 7, 13, 18)] 8 134 4 20 [.ref (ad 0), .int p0, .int p1] (zW base D cA ad ty I L P) (if oc = 0 then r.toInt64 else (-9000000000000000)) (fun H => ∃ ad2, (∀ κ t, ty κ = some t → ad2 κ = ad κ) ∧ if oc = 0 then zW base D cA ad2 ty2 I2 L2 P2 H else zW base D cA ad2 ty I L P H) := by
  refine z_hstart (by decide +kernel) (Nat.le_of_ble_eq_true rfl) fun p e s m below meth c ls M hP hS hl hr hlocks hN htab => ?_
  have M : zM p s m c cL_island RL 4 base D cA := M
  have hw : zH base D cA s s.heap [] ad ty I L P := ⟨hP, hS⟩
  obtain ⟨hx, hb, -⟩ := id M
  have hl : lv_has ls 4 [(0, .ref (ad 0)), (1, .int p0), (2, .int p1)] := hl
  refine lv_aload_n hx hb dL_island_0 rfl (lv_at hl 0 rfl) ?_
  refine lv_iload_n hx hb dL_island_1 rfl (lv_at hl 1 rfl) ?_
  refine lv_iload_n hx hb dL_island_2 rfl (lv_at hl 2 rfl) ?_
  refine z_xci (z_xrunV (As := [.int p0, .int p1]) (rest := []) M hw ht0 zc_L_8 zn_L_8 hM hw.1 rfl rfl ⟨Nat.le_of_ble_eq_true rfl, Nat.le_of_ble_eq_true rfl⟩ ⟨Nat.le_of_ble_eq_true rfl, Nat.le_of_ble_eq_true rfl⟩ hl.1 (Nat.le_of_ble_eq_true rfl) dL_island_3) hw.2 (fun hne ce q H locs hw0 hS hq hv hcl => ?_) (fun h0 H locs hw1 hS => ?_)
  · skip
    have hw : zH base D cA s H locs ad ty I L P := ⟨hw0, hS⟩
    rcases hoc with h | h | h
    · exact absurd h hne
    · skip
      refine z_catch M hN htab h (Or.inr (Or.inl rfl)) [] ⟨0, 7, 8, 14⟩ [⟨0, 7, 13, 18⟩] rfl (fun z hz => absurd hz List.not_mem_nil) (by decide) rfl hq hv hcl ?_
      show W p l e _ s m _ below meth c H locs _ _ _ (F0 m 8 ls [.ref q])
      refine lv_astore_n (lv' := [(3, .ref q), (0, .ref (ad 0)), (1, .int p0), (2, .int p1)]) hx hb dL_island_8 rfl hl (by decide) rfl (fun ls hl => ?_)
      refine lv_ldc2 (v := -9000000000000000) hx hb M.2.2.2.1 (M.2.2.2.2.1.use (tb 212 (by decide +kernel)) rfl) dL_island_9 ?_
      exact z_lret hx hb hr (by rw [h]; rfl) hw.2 ⟨ad, fun _ _ _ => rfl, (by rw [if_neg hne]; exact hw.1)⟩ (Nat.le_of_ble_eq_true rfl) (Nat.le_of_ble_eq_true rfl) dL_island_12 hlocks
    · skip
      refine z_catch M hN htab h (Or.inr (Or.inr rfl)) [⟨0, 7, 8, 14⟩] ⟨0, 7, 13, 18⟩ [] rfl (fun z hz => by rw [List.mem_singleton.mp hz]; exact ⟨by decide, 2, (Or.inr (Or.inl rfl)), by decide, rfl⟩) (by decide) rfl hq hv hcl ?_
      show W p l e _ s m _ below meth c H locs _ _ _ (F0 m 13 ls [.ref q])
      refine lv_astore_n (lv' := [(3, .ref q), (0, .ref (ad 0)), (1, .int p0), (2, .int p1)]) hx hb dL_island_13 rfl hl (by decide) rfl (fun ls hl => ?_)
      refine lv_ldc2 (v := -9000000000000000) hx hb M.2.2.2.1 (M.2.2.2.2.1.use (tb 212 (by decide +kernel)) rfl) dL_island_14 ?_
      exact z_lret hx hb hr (by rw [h]; rfl) hw.2 ⟨ad, fun _ _ _ => rfl, (by rw [if_neg hne]; exact hw.1)⟩ (Nat.le_of_ble_eq_true rfl) (Nat.le_of_ble_eq_true rfl) dL_island_17 hlocks
  · skip
    obtain ⟨ad2, hag, hw2⟩ := hW _ hw1
    have e0 : ad 0 = ad2 0 := (hag _ _ ht0).symm
    rw [e0] at hl
    have hw : zH base D cA s H locs ad2 ty2 I2 L2 P2 := ⟨hw2, hS⟩
    refine lv_i2l hx hb dL_island_6 rfl ?_
    exact z_lret hx hb hr (by rw [h0]; rfl) hw.2 ⟨ad2, hag, (by rw [if_pos h0]; exact hw.1)⟩ (Nat.le_of_ble_eq_true rfl) (Nat.le_of_ble_eq_true rfl) dL_island_7 hlocks
theorem zh_island : zCH 81 yL_island cL_island 4 [(0, 7, 8, 14), (0, 7, 13, 18)] 3 := ⟨tb 99 (by decide +kernel), tb 0 (by decide +kernel), ⟨tb 101 (by decide +kernel), rfl⟩, ⟨by decide +kernel, by decide +kernel⟩, by decide +kernel, tb 100 (by decide +kernel)⟩
set_option maxHeartbeats 4000000 in
set_option maxRecDepth 100000 in
theorem c_L_cable (l : Launch) (base : Nat) (D : zDD) (cA : Nat → ClassId) (ad : Nat → Nat) (ty : zTyp) (I : zIt) (L : zLt) (P : zPt) (n0 : Nat) (ht0 : ty 0 = some (6, n0)) {oc : Nat} {r : Int32} {W1 : Heap → Prop} {ty2 : zTyp} {I2 : zIt} {L2 : zLt} {P2 : zPt} (p0 : Int32) (p1 : Int32) (p2 : Int32) (p3 : Int32) (p4 : Int32) (hM : zXi l base D cA yX6_cable cX6_cable 6 .int 7 112 8 48 [.ref (ad 0), .int p0, .int p1, .int p2, .int p3, .int p4] (zW base D cA ad ty I L P) oc r W1) (hoc : oc = 0 ∨ oc = 1 ∨ oc = 2 ∨ oc = 3) (hW : ∀ H, W1 H → ∃ ad2, (∀ κ t, ty κ = some t → ad2 κ = ad κ) ∧ zW base D cA ad2 ty2 I2 L2 P2 H) : zMh l base D cA yL_cable cL_cable 7 [(0, 12, 13, 24), (0, 12, 19, 14), (0, 12, 25, 18)] 8 137 8 48 [.ref (ad 0), .int p0, .int p1, .int p2, .int p3, .int p4] (zW base D cA ad ty I L P) (if oc = 0 then r.toInt64 else (-9000000000000000)) (fun H => ∃ ad2, (∀ κ t, ty κ = some t → ad2 κ = ad κ) ∧ if oc = 0 then zW base D cA ad2 ty2 I2 L2 P2 H else zW base D cA ad2 ty I L P H) := by
  refine z_hstart (by decide +kernel) (Nat.le_of_ble_eq_true rfl) fun p e s m below meth c ls M hP hS hl hr hlocks hN htab => ?_
  have M : zM p s m c cL_cable RL 7 base D cA := M
  have hw : zH base D cA s s.heap [] ad ty I L P := ⟨hP, hS⟩
  obtain ⟨hx, hb, -⟩ := id M
  have hl : lv_has ls 7 [(0, .ref (ad 0)), (1, .int p0), (2, .int p1), (3, .int p2), (4, .int p3), (5, .int p4)] := hl
  refine lv_aload_n hx hb dL_cable_0 rfl (lv_at hl 0 rfl) ?_
  refine lv_iload_n hx hb dL_cable_1 rfl (lv_at hl 1 rfl) ?_
  refine lv_iload_n hx hb dL_cable_2 rfl (lv_at hl 2 rfl) ?_
  refine lv_iload_n hx hb dL_cable_3 rfl (lv_at hl 3 rfl) ?_
  refine lv_iload hx hb dL_cable_4 (lv_at hl 4 rfl) ?_
  refine lv_iload hx hb dL_cable_6 (lv_at hl 5 rfl) ?_
  refine z_xci (z_xrunV (As := [.int p0, .int p1, .int p2, .int p3, .int p4]) (rest := []) M hw ht0 zc_L_20 zn_L_20 hM hw.1 rfl rfl ⟨Nat.le_of_ble_eq_true rfl, Nat.le_of_ble_eq_true rfl⟩ ⟨Nat.le_of_ble_eq_true rfl, Nat.le_of_ble_eq_true rfl⟩ hl.1 (Nat.le_of_ble_eq_true rfl) dL_cable_8) hw.2 (fun hne ce q H locs hw0 hS hq hv hcl => ?_) (fun h0 H locs hw1 hS => ?_)
  · skip
    have hw : zH base D cA s H locs ad ty I L P := ⟨hw0, hS⟩
    rcases hoc with h | h | h | h
    · exact absurd h hne
    · skip
      refine z_catch M hN htab h (Or.inl rfl) [] ⟨0, 12, 13, 24⟩ [⟨0, 12, 19, 14⟩, ⟨0, 12, 25, 18⟩] rfl (fun z hz => absurd hz List.not_mem_nil) (by decide) rfl hq hv hcl ?_
      show W p l e _ s m _ below meth c H locs _ _ _ (F0 m 13 ls [.ref q])
      refine lv_astore (lv' := [(6, .ref q), (0, .ref (ad 0)), (1, .int p0), (2, .int p1), (3, .int p2), (4, .int p3), (5, .int p4)]) hx hb dL_cable_13 hl (by decide) rfl (fun ls hl => ?_)
      refine lv_ldc2 (v := -9000000000000000) hx hb M.2.2.2.1 (M.2.2.2.2.1.use (tb 212 (by decide +kernel)) rfl) dL_cable_15 ?_
      exact z_lret hx hb hr (by rw [h]; rfl) hw.2 ⟨ad, fun _ _ _ => rfl, (by rw [if_neg hne]; exact hw.1)⟩ (Nat.le_of_ble_eq_true rfl) (Nat.le_of_ble_eq_true rfl) dL_cable_18 hlocks
    · skip
      refine z_catch M hN htab h (Or.inr (Or.inl rfl)) [⟨0, 12, 13, 24⟩] ⟨0, 12, 19, 14⟩ [⟨0, 12, 25, 18⟩] rfl (fun z hz => by rw [List.mem_singleton.mp hz]; exact ⟨by decide, 1, (Or.inl rfl), by decide, rfl⟩) (by decide) rfl hq hv hcl ?_
      show W p l e _ s m _ below meth c H locs _ _ _ (F0 m 19 ls [.ref q])
      refine lv_astore (lv' := [(6, .ref q), (0, .ref (ad 0)), (1, .int p0), (2, .int p1), (3, .int p2), (4, .int p3), (5, .int p4)]) hx hb dL_cable_19 hl (by decide) rfl (fun ls hl => ?_)
      refine lv_ldc2 (v := -9000000000000000) hx hb M.2.2.2.1 (M.2.2.2.2.1.use (tb 212 (by decide +kernel)) rfl) dL_cable_21 ?_
      exact z_lret hx hb hr (by rw [h]; rfl) hw.2 ⟨ad, fun _ _ _ => rfl, (by rw [if_neg hne]; exact hw.1)⟩ (Nat.le_of_ble_eq_true rfl) (Nat.le_of_ble_eq_true rfl) dL_cable_24 hlocks
    · skip
      refine z_catch M hN htab h (Or.inr (Or.inr rfl)) [⟨0, 12, 13, 24⟩, ⟨0, 12, 19, 14⟩] ⟨0, 12, 25, 18⟩ [] rfl (fun z hz => by rcases List.mem_cons.mp hz with e | hz; (rw [e]; exact ⟨by decide, 1, (Or.inl rfl), by decide, rfl⟩); (rw [List.mem_singleton.mp hz]; exact ⟨by decide, 2, (Or.inr (Or.inl rfl)), by decide, rfl⟩)) (by decide) rfl hq hv hcl ?_
      show W p l e _ s m _ below meth c H locs _ _ _ (F0 m 25 ls [.ref q])
      refine lv_astore (lv' := [(6, .ref q), (0, .ref (ad 0)), (1, .int p0), (2, .int p1), (3, .int p2), (4, .int p3), (5, .int p4)]) hx hb dL_cable_25 hl (by decide) rfl (fun ls hl => ?_)
      refine lv_ldc2 (v := -9000000000000000) hx hb M.2.2.2.1 (M.2.2.2.2.1.use (tb 212 (by decide +kernel)) rfl) dL_cable_27 ?_
      exact z_lret hx hb hr (by rw [h]; rfl) hw.2 ⟨ad, fun _ _ _ => rfl, (by rw [if_neg hne]; exact hw.1)⟩ (Nat.le_of_ble_eq_true rfl) (Nat.le_of_ble_eq_true rfl) dL_cable_30 hlocks
  · skip
    obtain ⟨ad2, hag, hw2⟩ := hW _ hw1
    have e0 : ad 0 = ad2 0 := (hag _ _ ht0).symm
    rw [e0] at hl
    have hw : zH base D cA s H locs ad2 ty2 I2 L2 P2 := ⟨hw2, hS⟩
    refine lv_i2l hx hb dL_cable_11 rfl ?_
    exact z_lret hx hb hr (by rw [h0]; rfl) hw.2 ⟨ad2, hag, (by rw [if_pos h0]; exact hw.1)⟩ (Nat.le_of_ble_eq_true rfl) (Nat.le_of_ble_eq_true rfl) dL_cable_12 hlocks
theorem zh_cable : zCH 84 yL_cable cL_cable 7 [(0, 12, 13, 24), (0, 12, 19, 14), (0, 12, 25, 18)] 6 := ⟨tb 213 (by decide +kernel), tb 0 (by decide +kernel), ⟨tb 215 (by decide +kernel), rfl⟩, ⟨by decide +kernel, by decide +kernel⟩, by decide +kernel, tb 214 (by decide +kernel)⟩
set_option maxHeartbeats 4000000 in
set_option maxRecDepth 100000 in
theorem c_L_price (l : Launch) (base : Nat) (D : zDD) (cA : Nat → ClassId) (ad : Nat → Nat) (ty : zTyp) (I : zIt) (L : zLt) (P : zPt) (n0 : Nat) (ht0 : ty 0 = some (6, n0)) {oc : Nat} {r : Int32} {W1 : Heap → Prop} {ty2 : zTyp} {I2 : zIt} {L2 : zLt} {P2 : zPt} (p0 : Int32) (p1 : Int32) (hM : zXi l base D cA yX6_price cX6_price 4 .int 7 112 2 12 [.ref (ad 0), .int p0, .int p1] (zW base D cA ad ty I L P) oc r W1) (hoc : oc = 0 ∨ oc = 1 ∨ oc = 2) (hW : ∀ H, W1 H → ∃ ad2, (∀ κ t, ty κ = some t → ad2 κ = ad κ) ∧ zW base D cA ad2 ty2 I2 L2 P2 H) : zMh l base D cA yL_price cL_price 4 [(0, 7, 8, 24), (0, 7, 13, 14)] 8 135 2 12 [.ref (ad 0), .int p0, .int p1] (zW base D cA ad ty I L P) (if oc = 0 then r.toInt64 else (-9000000000000000)) (fun H => ∃ ad2, (∀ κ t, ty κ = some t → ad2 κ = ad κ) ∧ if oc = 0 then zW base D cA ad2 ty2 I2 L2 P2 H else zW base D cA ad2 ty I L P H) := by
  refine z_hstart (by decide +kernel) (Nat.le_of_ble_eq_true rfl) fun p e s m below meth c ls M hP hS hl hr hlocks hN htab => ?_
  have M : zM p s m c cL_price RL 4 base D cA := M
  have hw : zH base D cA s s.heap [] ad ty I L P := ⟨hP, hS⟩
  obtain ⟨hx, hb, -⟩ := id M
  have hl : lv_has ls 4 [(0, .ref (ad 0)), (1, .int p0), (2, .int p1)] := hl
  refine lv_aload_n hx hb dL_price_0 rfl (lv_at hl 0 rfl) ?_
  refine lv_iload_n hx hb dL_price_1 rfl (lv_at hl 1 rfl) ?_
  refine lv_iload_n hx hb dL_price_2 rfl (lv_at hl 2 rfl) ?_
  refine z_xci (z_xrunV (As := [.int p0, .int p1]) (rest := []) M hw ht0 zc_L_26 zn_L_26 hM hw.1 rfl rfl ⟨Nat.le_of_ble_eq_true rfl, Nat.le_of_ble_eq_true rfl⟩ ⟨Nat.le_of_ble_eq_true rfl, Nat.le_of_ble_eq_true rfl⟩ hl.1 (Nat.le_of_ble_eq_true rfl) dL_price_3) hw.2 (fun hne ce q H locs hw0 hS hq hv hcl => ?_) (fun h0 H locs hw1 hS => ?_)
  · skip
    have hw : zH base D cA s H locs ad ty I L P := ⟨hw0, hS⟩
    rcases hoc with h | h | h
    · exact absurd h hne
    · skip
      refine z_catch M hN htab h (Or.inl rfl) [] ⟨0, 7, 8, 24⟩ [⟨0, 7, 13, 14⟩] rfl (fun z hz => absurd hz List.not_mem_nil) (by decide) rfl hq hv hcl ?_
      show W p l e _ s m _ below meth c H locs _ _ _ (F0 m 8 ls [.ref q])
      refine lv_astore_n (lv' := [(3, .ref q), (0, .ref (ad 0)), (1, .int p0), (2, .int p1)]) hx hb dL_price_8 rfl hl (by decide) rfl (fun ls hl => ?_)
      refine lv_ldc2 (v := -9000000000000000) hx hb M.2.2.2.1 (M.2.2.2.2.1.use (tb 212 (by decide +kernel)) rfl) dL_price_9 ?_
      exact z_lret hx hb hr (by rw [h]; rfl) hw.2 ⟨ad, fun _ _ _ => rfl, (by rw [if_neg hne]; exact hw.1)⟩ (Nat.le_of_ble_eq_true rfl) (Nat.le_of_ble_eq_true rfl) dL_price_12 hlocks
    · skip
      refine z_catch M hN htab h (Or.inr (Or.inl rfl)) [⟨0, 7, 8, 24⟩] ⟨0, 7, 13, 14⟩ [] rfl (fun z hz => by rw [List.mem_singleton.mp hz]; exact ⟨by decide, 1, (Or.inl rfl), by decide, rfl⟩) (by decide) rfl hq hv hcl ?_
      show W p l e _ s m _ below meth c H locs _ _ _ (F0 m 13 ls [.ref q])
      refine lv_astore_n (lv' := [(3, .ref q), (0, .ref (ad 0)), (1, .int p0), (2, .int p1)]) hx hb dL_price_13 rfl hl (by decide) rfl (fun ls hl => ?_)
      refine lv_ldc2 (v := -9000000000000000) hx hb M.2.2.2.1 (M.2.2.2.2.1.use (tb 212 (by decide +kernel)) rfl) dL_price_14 ?_
      exact z_lret hx hb hr (by rw [h]; rfl) hw.2 ⟨ad, fun _ _ _ => rfl, (by rw [if_neg hne]; exact hw.1)⟩ (Nat.le_of_ble_eq_true rfl) (Nat.le_of_ble_eq_true rfl) dL_price_17 hlocks
  · skip
    obtain ⟨ad2, hag, hw2⟩ := hW _ hw1
    have e0 : ad 0 = ad2 0 := (hag _ _ ht0).symm
    rw [e0] at hl
    have hw : zH base D cA s H locs ad2 ty2 I2 L2 P2 := ⟨hw2, hS⟩
    refine lv_i2l hx hb dL_price_6 rfl ?_
    exact z_lret hx hb hr (by rw [h0]; rfl) hw.2 ⟨ad2, hag, (by rw [if_pos h0]; exact hw.1)⟩ (Nat.le_of_ble_eq_true rfl) (Nat.le_of_ble_eq_true rfl) dL_price_7 hlocks
theorem zh_price : zCH 87 yL_price cL_price 4 [(0, 7, 8, 24), (0, 7, 13, 14)] 3 := ⟨tb 283 (by decide +kernel), tb 0 (by decide +kernel), ⟨tb 285 (by decide +kernel), rfl⟩, ⟨by decide +kernel, by decide +kernel⟩, by decide +kernel, tb 284 (by decide +kernel)⟩
set_option maxHeartbeats 4000000 in
set_option maxRecDepth 100000 in
theorem c_L_fault (l : Launch) (base : Nat) (D : zDD) (cA : Nat → ClassId) (ad : Nat → Nat) (ty : zTyp) (I : zIt) (L : zLt) (P : zPt) (n0 : Nat) (ht0 : ty 0 = some (6, n0)) {oc : Nat} {r : Int32} {W1 : Heap → Prop} {ty2 : zTyp} {I2 : zIt} {L2 : zLt} {P2 : zPt} (p0 : Int32) (p1 : Int32) (hM : zXi l base D cA yX6_fault cX6_fault 3 .int 8 133 3 18 [.ref (ad 0), .int p0, .int p1] (zW base D cA ad ty I L P) oc r W1) (hoc : oc = 0 ∨ oc = 1 ∨ oc = 3) (hW : ∀ H, W1 H → ∃ ad2, (∀ κ t, ty κ = some t → ad2 κ = ad κ) ∧ zW base D cA ad2 ty2 I2 L2 P2 H) : zMh l base D cA yL_fault cL_fault 4 [(0, 7, 8, 24), (0, 7, 13, 18)] 9 155 3 18 [.ref (ad 0), .int p0, .int p1] (zW base D cA ad ty I L P) (if oc = 0 then r.toInt64 else (-9000000000000000)) (fun H => ∃ ad2, (∀ κ t, ty κ = some t → ad2 κ = ad κ) ∧ if oc = 0 then zW base D cA ad2 ty2 I2 L2 P2 H else zW base D cA ad2 ty I L P H) := by
  refine z_hstart (by decide +kernel) (Nat.le_of_ble_eq_true rfl) fun p e s m below meth c ls M hP hS hl hr hlocks hN htab => ?_
  have M : zM p s m c cL_fault RL 4 base D cA := M
  have hw : zH base D cA s s.heap [] ad ty I L P := ⟨hP, hS⟩
  obtain ⟨hx, hb, -⟩ := id M
  have hl : lv_has ls 4 [(0, .ref (ad 0)), (1, .int p0), (2, .int p1)] := hl
  refine lv_aload_n hx hb dL_fault_0 rfl (lv_at hl 0 rfl) ?_
  refine lv_iload_n hx hb dL_fault_1 rfl (lv_at hl 1 rfl) ?_
  refine lv_iload_n hx hb dL_fault_2 rfl (lv_at hl 2 rfl) ?_
  refine z_xci (z_xrunV (As := [.int p0, .int p1]) (rest := []) M hw ht0 zc_L_29 zn_L_29 hM hw.1 rfl rfl ⟨Nat.le_of_ble_eq_true rfl, Nat.le_of_ble_eq_true rfl⟩ ⟨Nat.le_of_ble_eq_true rfl, Nat.le_of_ble_eq_true rfl⟩ hl.1 (Nat.le_of_ble_eq_true rfl) dL_fault_3) hw.2 (fun hne ce q H locs hw0 hS hq hv hcl => ?_) (fun h0 H locs hw1 hS => ?_)
  · skip
    have hw : zH base D cA s H locs ad ty I L P := ⟨hw0, hS⟩
    rcases hoc with h | h | h
    · exact absurd h hne
    · skip
      refine z_catch M hN htab h (Or.inl rfl) [] ⟨0, 7, 8, 24⟩ [⟨0, 7, 13, 18⟩] rfl (fun z hz => absurd hz List.not_mem_nil) (by decide) rfl hq hv hcl ?_
      show W p l e _ s m _ below meth c H locs _ _ _ (F0 m 8 ls [.ref q])
      refine lv_astore_n (lv' := [(3, .ref q), (0, .ref (ad 0)), (1, .int p0), (2, .int p1)]) hx hb dL_fault_8 rfl hl (by decide) rfl (fun ls hl => ?_)
      refine lv_ldc2 (v := -9000000000000000) hx hb M.2.2.2.1 (M.2.2.2.2.1.use (tb 212 (by decide +kernel)) rfl) dL_fault_9 ?_
      exact z_lret hx hb hr (by rw [h]; rfl) hw.2 ⟨ad, fun _ _ _ => rfl, (by rw [if_neg hne]; exact hw.1)⟩ (Nat.le_of_ble_eq_true rfl) (Nat.le_of_ble_eq_true rfl) dL_fault_12 hlocks
    · skip
      refine z_catch M hN htab h (Or.inr (Or.inr rfl)) [⟨0, 7, 8, 24⟩] ⟨0, 7, 13, 18⟩ [] rfl (fun z hz => by rw [List.mem_singleton.mp hz]; exact ⟨by decide, 1, (Or.inl rfl), by decide, rfl⟩) (by decide) rfl hq hv hcl ?_
      show W p l e _ s m _ below meth c H locs _ _ _ (F0 m 13 ls [.ref q])
      refine lv_astore_n (lv' := [(3, .ref q), (0, .ref (ad 0)), (1, .int p0), (2, .int p1)]) hx hb dL_fault_13 rfl hl (by decide) rfl (fun ls hl => ?_)
      refine lv_ldc2 (v := -9000000000000000) hx hb M.2.2.2.1 (M.2.2.2.2.1.use (tb 212 (by decide +kernel)) rfl) dL_fault_14 ?_
      exact z_lret hx hb hr (by rw [h]; rfl) hw.2 ⟨ad, fun _ _ _ => rfl, (by rw [if_neg hne]; exact hw.1)⟩ (Nat.le_of_ble_eq_true rfl) (Nat.le_of_ble_eq_true rfl) dL_fault_17 hlocks
  · skip
    obtain ⟨ad2, hag, hw2⟩ := hW _ hw1
    have e0 : ad 0 = ad2 0 := (hag _ _ ht0).symm
    rw [e0] at hl
    have hw : zH base D cA s H locs ad2 ty2 I2 L2 P2 := ⟨hw2, hS⟩
    refine lv_i2l hx hb dL_fault_6 rfl ?_
    exact z_lret hx hb hr (by rw [h0]; rfl) hw.2 ⟨ad2, hag, (by rw [if_pos h0]; exact hw.1)⟩ (Nat.le_of_ble_eq_true rfl) (Nat.le_of_ble_eq_true rfl) dL_fault_7 hlocks
theorem zh_fault : zCH 89 yL_fault cL_fault 4 [(0, 7, 8, 24), (0, 7, 13, 18)] 3 := ⟨tb 290 (by decide +kernel), tb 0 (by decide +kernel), ⟨tb 292 (by decide +kernel), rfl⟩, ⟨by decide +kernel, by decide +kernel⟩, by decide +kernel, tb 291 (by decide +kernel)⟩
set_option maxHeartbeats 4000000 in
set_option maxRecDepth 100000 in
theorem c_L_ship (l : Launch) (base : Nat) (D : zDD) (cA : Nat → ClassId) (ad : Nat → Nat) (ty : zTyp) (I : zIt) (L : zLt) (P : zPt) (n0 : Nat) (ht0 : ty 0 = some (6, n0)) {oc : Nat} {r : Int32} {W1 : Heap → Prop} {ty2 : zTyp} {I2 : zIt} {L2 : zLt} {P2 : zPt} (p0 : Int32) (p1 : Int32) (hM : zXi l base D cA yX6_ship cX6_ship 3 .int 7 112 4 26 [.ref (ad 0), .int p0, .int p1] (zW base D cA ad ty I L P) oc r W1) (hoc : oc = 0 ∨ oc = 1 ∨ oc = 2 ∨ oc = 3) (hW : ∀ H, W1 H → ∃ ad2, (∀ κ t, ty κ = some t → ad2 κ = ad κ) ∧ zW base D cA ad2 ty2 I2 L2 P2 H) : zMh l base D cA yL_ship cL_ship 4 [(0, 7, 8, 24), (0, 7, 13, 14), (0, 7, 18, 18)] 8 134 4 26 [.ref (ad 0), .int p0, .int p1] (zW base D cA ad ty I L P) (if oc = 0 then r.toInt64 else (-9000000000000000)) (fun H => ∃ ad2, (∀ κ t, ty κ = some t → ad2 κ = ad κ) ∧ if oc = 0 then zW base D cA ad2 ty2 I2 L2 P2 H else zW base D cA ad2 ty I L P H) := by
  refine z_hstart (by decide +kernel) (Nat.le_of_ble_eq_true rfl) fun p e s m below meth c ls M hP hS hl hr hlocks hN htab => ?_
  have M : zM p s m c cL_ship RL 4 base D cA := M
  have hw : zH base D cA s s.heap [] ad ty I L P := ⟨hP, hS⟩
  obtain ⟨hx, hb, -⟩ := id M
  have hl : lv_has ls 4 [(0, .ref (ad 0)), (1, .int p0), (2, .int p1)] := hl
  refine lv_aload_n hx hb dL_ship_0 rfl (lv_at hl 0 rfl) ?_
  refine lv_iload_n hx hb dL_ship_1 rfl (lv_at hl 1 rfl) ?_
  refine lv_iload_n hx hb dL_ship_2 rfl (lv_at hl 2 rfl) ?_
  refine z_xci (z_xrunV (As := [.int p0, .int p1]) (rest := []) M hw ht0 zc_L_32 zn_L_32 hM hw.1 rfl rfl ⟨Nat.le_of_ble_eq_true rfl, Nat.le_of_ble_eq_true rfl⟩ ⟨Nat.le_of_ble_eq_true rfl, Nat.le_of_ble_eq_true rfl⟩ hl.1 (Nat.le_of_ble_eq_true rfl) dL_ship_3) hw.2 (fun hne ce q H locs hw0 hS hq hv hcl => ?_) (fun h0 H locs hw1 hS => ?_)
  · skip
    have hw : zH base D cA s H locs ad ty I L P := ⟨hw0, hS⟩
    rcases hoc with h | h | h | h
    · exact absurd h hne
    · skip
      refine z_catch M hN htab h (Or.inl rfl) [] ⟨0, 7, 8, 24⟩ [⟨0, 7, 13, 14⟩, ⟨0, 7, 18, 18⟩] rfl (fun z hz => absurd hz List.not_mem_nil) (by decide) rfl hq hv hcl ?_
      show W p l e _ s m _ below meth c H locs _ _ _ (F0 m 8 ls [.ref q])
      refine lv_astore_n (lv' := [(3, .ref q), (0, .ref (ad 0)), (1, .int p0), (2, .int p1)]) hx hb dL_ship_8 rfl hl (by decide) rfl (fun ls hl => ?_)
      refine lv_ldc2 (v := -9000000000000000) hx hb M.2.2.2.1 (M.2.2.2.2.1.use (tb 212 (by decide +kernel)) rfl) dL_ship_9 ?_
      exact z_lret hx hb hr (by rw [h]; rfl) hw.2 ⟨ad, fun _ _ _ => rfl, (by rw [if_neg hne]; exact hw.1)⟩ (Nat.le_of_ble_eq_true rfl) (Nat.le_of_ble_eq_true rfl) dL_ship_12 hlocks
    · skip
      refine z_catch M hN htab h (Or.inr (Or.inl rfl)) [⟨0, 7, 8, 24⟩] ⟨0, 7, 13, 14⟩ [⟨0, 7, 18, 18⟩] rfl (fun z hz => by rw [List.mem_singleton.mp hz]; exact ⟨by decide, 1, (Or.inl rfl), by decide, rfl⟩) (by decide) rfl hq hv hcl ?_
      show W p l e _ s m _ below meth c H locs _ _ _ (F0 m 13 ls [.ref q])
      refine lv_astore_n (lv' := [(3, .ref q), (0, .ref (ad 0)), (1, .int p0), (2, .int p1)]) hx hb dL_ship_13 rfl hl (by decide) rfl (fun ls hl => ?_)
      refine lv_ldc2 (v := -9000000000000000) hx hb M.2.2.2.1 (M.2.2.2.2.1.use (tb 212 (by decide +kernel)) rfl) dL_ship_14 ?_
      exact z_lret hx hb hr (by rw [h]; rfl) hw.2 ⟨ad, fun _ _ _ => rfl, (by rw [if_neg hne]; exact hw.1)⟩ (Nat.le_of_ble_eq_true rfl) (Nat.le_of_ble_eq_true rfl) dL_ship_17 hlocks
    · skip
      refine z_catch M hN htab h (Or.inr (Or.inr rfl)) [⟨0, 7, 8, 24⟩, ⟨0, 7, 13, 14⟩] ⟨0, 7, 18, 18⟩ [] rfl (fun z hz => by rcases List.mem_cons.mp hz with e | hz; (rw [e]; exact ⟨by decide, 1, (Or.inl rfl), by decide, rfl⟩); (rw [List.mem_singleton.mp hz]; exact ⟨by decide, 2, (Or.inr (Or.inl rfl)), by decide, rfl⟩)) (by decide) rfl hq hv hcl ?_
      show W p l e _ s m _ below meth c H locs _ _ _ (F0 m 18 ls [.ref q])
      refine lv_astore_n (lv' := [(3, .ref q), (0, .ref (ad 0)), (1, .int p0), (2, .int p1)]) hx hb dL_ship_18 rfl hl (by decide) rfl (fun ls hl => ?_)
      refine lv_ldc2 (v := -9000000000000000) hx hb M.2.2.2.1 (M.2.2.2.2.1.use (tb 212 (by decide +kernel)) rfl) dL_ship_19 ?_
      exact z_lret hx hb hr (by rw [h]; rfl) hw.2 ⟨ad, fun _ _ _ => rfl, (by rw [if_neg hne]; exact hw.1)⟩ (Nat.le_of_ble_eq_true rfl) (Nat.le_of_ble_eq_true rfl) dL_ship_22 hlocks
  · skip
    obtain ⟨ad2, hag, hw2⟩ := hW _ hw1
    have e0 : ad 0 = ad2 0 := (hag _ _ ht0).symm
    rw [e0] at hl
    have hw : zH base D cA s H locs ad2 ty2 I2 L2 P2 := ⟨hw2, hS⟩
    refine lv_i2l hx hb dL_ship_6 rfl ?_
    exact z_lret hx hb hr (by rw [h0]; rfl) hw.2 ⟨ad2, hag, (by rw [if_pos h0]; exact hw.1)⟩ (Nat.le_of_ble_eq_true rfl) (Nat.le_of_ble_eq_true rfl) dL_ship_7 hlocks
theorem zh_ship : zCH 91 yL_ship cL_ship 4 [(0, 7, 8, 24), (0, 7, 13, 14), (0, 7, 18, 18)] 3 := ⟨tb 313 (by decide +kernel), tb 0 (by decide +kernel), ⟨tb 315 (by decide +kernel), rfl⟩, ⟨by decide +kernel, by decide +kernel⟩, by decide +kernel, tb 314 (by decide +kernel)⟩
set_option maxHeartbeats 4000000 in
set_option maxRecDepth 100000 in
theorem c_L_send (l : Launch) (base : Nat) (D : zDD) (cA : Nat → ClassId) (ad : Nat → Nat) (ty : zTyp) (I : zIt) (L : zLt) (P : zPt) (n0 : Nat) (ht0 : ty 0 = some (6, n0)) {oc : Nat} {r : Int32} {W1 : Heap → Prop} {ty2 : zTyp} {I2 : zIt} {L2 : zLt} {P2 : zPt} (p0 : Int32) (p1 : Int32) (p2 : Int32) (hM : zXi l base D cA yX6_send cX6_send 7 .int 8 133 5 30 [.ref (ad 0), .int p0, .int p1, .int p2] (zW base D cA ad ty I L P) oc r W1) (hoc : oc = 0 ∨ oc = 1 ∨ oc = 3) (hW : ∀ H, W1 H → ∃ ad2, (∀ κ t, ty κ = some t → ad2 κ = ad κ) ∧ zW base D cA ad2 ty2 I2 L2 P2 H) : zMh l base D cA yL_send cL_send 5 [(0, 8, 9, 24), (0, 8, 15, 18)] 9 159 5 30 [.ref (ad 0), .int p0, .int p1, .int p2] (zW base D cA ad ty I L P) (if oc = 0 then r.toInt64 else (-9000000000000000)) (fun H => ∃ ad2, (∀ κ t, ty κ = some t → ad2 κ = ad κ) ∧ if oc = 0 then zW base D cA ad2 ty2 I2 L2 P2 H else zW base D cA ad2 ty I L P H) := by
  refine z_hstart (by decide +kernel) (Nat.le_of_ble_eq_true rfl) fun p e s m below meth c ls M hP hS hl hr hlocks hN htab => ?_
  have M : zM p s m c cL_send RL 5 base D cA := M
  have hw : zH base D cA s s.heap [] ad ty I L P := ⟨hP, hS⟩
  obtain ⟨hx, hb, -⟩ := id M
  have hl : lv_has ls 5 [(0, .ref (ad 0)), (1, .int p0), (2, .int p1), (3, .int p2)] := hl
  refine lv_aload_n hx hb dL_send_0 rfl (lv_at hl 0 rfl) ?_
  refine lv_iload_n hx hb dL_send_1 rfl (lv_at hl 1 rfl) ?_
  refine lv_iload_n hx hb dL_send_2 rfl (lv_at hl 2 rfl) ?_
  refine lv_iload_n hx hb dL_send_3 rfl (lv_at hl 3 rfl) ?_
  refine z_xci (z_xrunV (As := [.int p0, .int p1, .int p2]) (rest := []) M hw ht0 zc_L_35 zn_L_35 hM hw.1 rfl rfl ⟨Nat.le_of_ble_eq_true rfl, Nat.le_of_ble_eq_true rfl⟩ ⟨Nat.le_of_ble_eq_true rfl, Nat.le_of_ble_eq_true rfl⟩ hl.1 (Nat.le_of_ble_eq_true rfl) dL_send_4) hw.2 (fun hne ce q H locs hw0 hS hq hv hcl => ?_) (fun h0 H locs hw1 hS => ?_)
  · skip
    have hw : zH base D cA s H locs ad ty I L P := ⟨hw0, hS⟩
    rcases hoc with h | h | h
    · exact absurd h hne
    · skip
      refine z_catch M hN htab h (Or.inl rfl) [] ⟨0, 8, 9, 24⟩ [⟨0, 8, 15, 18⟩] rfl (fun z hz => absurd hz List.not_mem_nil) (by decide) rfl hq hv hcl ?_
      show W p l e _ s m _ below meth c H locs _ _ _ (F0 m 9 ls [.ref q])
      refine lv_astore (lv' := [(4, .ref q), (0, .ref (ad 0)), (1, .int p0), (2, .int p1), (3, .int p2)]) hx hb dL_send_9 hl (by decide) rfl (fun ls hl => ?_)
      refine lv_ldc2 (v := -9000000000000000) hx hb M.2.2.2.1 (M.2.2.2.2.1.use (tb 212 (by decide +kernel)) rfl) dL_send_11 ?_
      exact z_lret hx hb hr (by rw [h]; rfl) hw.2 ⟨ad, fun _ _ _ => rfl, (by rw [if_neg hne]; exact hw.1)⟩ (Nat.le_of_ble_eq_true rfl) (Nat.le_of_ble_eq_true rfl) dL_send_14 hlocks
    · skip
      refine z_catch M hN htab h (Or.inr (Or.inr rfl)) [⟨0, 8, 9, 24⟩] ⟨0, 8, 15, 18⟩ [] rfl (fun z hz => by rw [List.mem_singleton.mp hz]; exact ⟨by decide, 1, (Or.inl rfl), by decide, rfl⟩) (by decide) rfl hq hv hcl ?_
      show W p l e _ s m _ below meth c H locs _ _ _ (F0 m 15 ls [.ref q])
      refine lv_astore (lv' := [(4, .ref q), (0, .ref (ad 0)), (1, .int p0), (2, .int p1), (3, .int p2)]) hx hb dL_send_15 hl (by decide) rfl (fun ls hl => ?_)
      refine lv_ldc2 (v := -9000000000000000) hx hb M.2.2.2.1 (M.2.2.2.2.1.use (tb 212 (by decide +kernel)) rfl) dL_send_17 ?_
      exact z_lret hx hb hr (by rw [h]; rfl) hw.2 ⟨ad, fun _ _ _ => rfl, (by rw [if_neg hne]; exact hw.1)⟩ (Nat.le_of_ble_eq_true rfl) (Nat.le_of_ble_eq_true rfl) dL_send_20 hlocks
  · skip
    obtain ⟨ad2, hag, hw2⟩ := hW _ hw1
    have e0 : ad 0 = ad2 0 := (hag _ _ ht0).symm
    rw [e0] at hl
    have hw : zH base D cA s H locs ad2 ty2 I2 L2 P2 := ⟨hw2, hS⟩
    refine lv_i2l hx hb dL_send_7 rfl ?_
    exact z_lret hx hb hr (by rw [h0]; rfl) hw.2 ⟨ad2, hag, (by rw [if_pos h0]; exact hw.1)⟩ (Nat.le_of_ble_eq_true rfl) (Nat.le_of_ble_eq_true rfl) dL_send_8 hlocks
theorem zh_send : zCH 93 yL_send cL_send 5 [(0, 8, 9, 24), (0, 8, 15, 18)] 4 := ⟨tb 357 (by decide +kernel), tb 0 (by decide +kernel), ⟨tb 359 (by decide +kernel), rfl⟩, ⟨by decide +kernel, by decide +kernel⟩, by decide +kernel, tb 358 (by decide +kernel)⟩
set_option maxHeartbeats 4000000 in
set_option maxRecDepth 100000 in
theorem c_L_home (l : Launch) (base : Nat) (D : zDD) (cA : Nat → ClassId) (ad : Nat → Nat) (ty : zTyp) (I : zIt) (L : zLt) (P : zPt) (n0 : Nat) (ht0 : ty 0 = some (6, n0)) {oc : Nat} {r : Int32} {W1 : Heap → Prop} {ty2 : zTyp} {I2 : zIt} {L2 : zLt} {P2 : zPt} (p0 : Int32) (p1 : Int32) (hM : zXi l base D cA yX6_home cX6_home 3 .int 7 111 3 18 [.ref (ad 0), .int p0, .int p1] (zW base D cA ad ty I L P) oc r W1) (hoc : oc = 0 ∨ oc = 1 ∨ oc = 3) (hW : ∀ H, W1 H → ∃ ad2, (∀ κ t, ty κ = some t → ad2 κ = ad κ) ∧ zW base D cA ad2 ty2 I2 L2 P2 H) : zMh l base D cA yL_home cL_home 4 [(0, 7, 8, 24), (0, 7, 13, 18)] 8 133 3 18 [.ref (ad 0), .int p0, .int p1] (zW base D cA ad ty I L P) (if oc = 0 then r.toInt64 else (-9000000000000000)) (fun H => ∃ ad2, (∀ κ t, ty κ = some t → ad2 κ = ad κ) ∧ if oc = 0 then zW base D cA ad2 ty2 I2 L2 P2 H else zW base D cA ad2 ty I L P H) := by
  refine z_hstart (by decide +kernel) (Nat.le_of_ble_eq_true rfl) fun p e s m below meth c ls M hP hS hl hr hlocks hN htab => ?_
  have M : zM p s m c cL_home RL 4 base D cA := M
  have hw : zH base D cA s s.heap [] ad ty I L P := ⟨hP, hS⟩
  obtain ⟨hx, hb, -⟩ := id M
  have hl : lv_has ls 4 [(0, .ref (ad 0)), (1, .int p0), (2, .int p1)] := hl
  refine lv_aload_n hx hb dL_home_0 rfl (lv_at hl 0 rfl) ?_
  refine lv_iload_n hx hb dL_home_1 rfl (lv_at hl 1 rfl) ?_
  refine lv_iload_n hx hb dL_home_2 rfl (lv_at hl 2 rfl) ?_
  refine z_xci (z_xrunV (As := [.int p0, .int p1]) (rest := []) M hw ht0 zc_L_39 zn_L_39 hM hw.1 rfl rfl ⟨Nat.le_of_ble_eq_true rfl, Nat.le_of_ble_eq_true rfl⟩ ⟨Nat.le_of_ble_eq_true rfl, Nat.le_of_ble_eq_true rfl⟩ hl.1 (Nat.le_of_ble_eq_true rfl) dL_home_3) hw.2 (fun hne ce q H locs hw0 hS hq hv hcl => ?_) (fun h0 H locs hw1 hS => ?_)
  · skip
    have hw : zH base D cA s H locs ad ty I L P := ⟨hw0, hS⟩
    rcases hoc with h | h | h
    · exact absurd h hne
    · skip
      refine z_catch M hN htab h (Or.inl rfl) [] ⟨0, 7, 8, 24⟩ [⟨0, 7, 13, 18⟩] rfl (fun z hz => absurd hz List.not_mem_nil) (by decide) rfl hq hv hcl ?_
      show W p l e _ s m _ below meth c H locs _ _ _ (F0 m 8 ls [.ref q])
      refine lv_astore_n (lv' := [(3, .ref q), (0, .ref (ad 0)), (1, .int p0), (2, .int p1)]) hx hb dL_home_8 rfl hl (by decide) rfl (fun ls hl => ?_)
      refine lv_ldc2 (v := -9000000000000000) hx hb M.2.2.2.1 (M.2.2.2.2.1.use (tb 212 (by decide +kernel)) rfl) dL_home_9 ?_
      exact z_lret hx hb hr (by rw [h]; rfl) hw.2 ⟨ad, fun _ _ _ => rfl, (by rw [if_neg hne]; exact hw.1)⟩ (Nat.le_of_ble_eq_true rfl) (Nat.le_of_ble_eq_true rfl) dL_home_12 hlocks
    · skip
      refine z_catch M hN htab h (Or.inr (Or.inr rfl)) [⟨0, 7, 8, 24⟩] ⟨0, 7, 13, 18⟩ [] rfl (fun z hz => by rw [List.mem_singleton.mp hz]; exact ⟨by decide, 1, (Or.inl rfl), by decide, rfl⟩) (by decide) rfl hq hv hcl ?_
      show W p l e _ s m _ below meth c H locs _ _ _ (F0 m 13 ls [.ref q])
      refine lv_astore_n (lv' := [(3, .ref q), (0, .ref (ad 0)), (1, .int p0), (2, .int p1)]) hx hb dL_home_13 rfl hl (by decide) rfl (fun ls hl => ?_)
      refine lv_ldc2 (v := -9000000000000000) hx hb M.2.2.2.1 (M.2.2.2.2.1.use (tb 212 (by decide +kernel)) rfl) dL_home_14 ?_
      exact z_lret hx hb hr (by rw [h]; rfl) hw.2 ⟨ad, fun _ _ _ => rfl, (by rw [if_neg hne]; exact hw.1)⟩ (Nat.le_of_ble_eq_true rfl) (Nat.le_of_ble_eq_true rfl) dL_home_17 hlocks
  · skip
    obtain ⟨ad2, hag, hw2⟩ := hW _ hw1
    have e0 : ad 0 = ad2 0 := (hag _ _ ht0).symm
    rw [e0] at hl
    have hw : zH base D cA s H locs ad2 ty2 I2 L2 P2 := ⟨hw2, hS⟩
    refine lv_i2l hx hb dL_home_6 rfl ?_
    exact z_lret hx hb hr (by rw [h0]; rfl) hw.2 ⟨ad2, hag, (by rw [if_pos h0]; exact hw.1)⟩ (Nat.le_of_ble_eq_true rfl) (Nat.le_of_ble_eq_true rfl) dL_home_7 hlocks
theorem zh_home : zCH 96 yL_home cL_home 4 [(0, 7, 8, 24), (0, 7, 13, 18)] 3 := ⟨tb 400 (by decide +kernel), tb 0 (by decide +kernel), ⟨tb 402 (by decide +kernel), rfl⟩, ⟨by decide +kernel, by decide +kernel⟩, by decide +kernel, tb 401 (by decide +kernel)⟩
set_option maxHeartbeats 4000000 in
set_option maxRecDepth 100000 in
theorem c_L_trader (l : Launch) (base : Nat) (D : zDD) (cA : Nat → ClassId) (ad : Nat → Nat) (ty : zTyp) (I : zIt) (L : zLt) (P : zPt) (n0 : Nat) (ht0 : ty 0 = some (6, n0)) {oc : Nat} {r : Int32} {W1 : Heap → Prop} {ty2 : zTyp} {I2 : zIt} {L2 : zLt} {P2 : zPt} (p0 : Int32) (p1 : Int32) (p2 : Int32) (p3 : Int32) (p4 : Int32) (p5 : Int32) (hM : zXi l base D cA yX6_trader cX6_trader 7 .int 7 112 13 84 [.ref (ad 0), .int p0, .int p1, .int p2, .int p3, .int p4, .int p5] (zW base D cA ad ty I L P) oc r W1) (hoc : oc = 0 ∨ oc = 1 ∨ oc = 2 ∨ oc = 3) (hW : ∀ H, W1 H → ∃ ad2, (∀ κ t, ty κ = some t → ad2 κ = ad κ) ∧ zW base D cA ad2 ty2 I2 L2 P2 H) : zMh l base D cA yL_trader cL_trader 8 [(0, 14, 15, 24), (0, 14, 21, 14), (0, 14, 27, 18)] 8 138 13 84 [.ref (ad 0), .int p0, .int p1, .int p2, .int p3, .int p4, .int p5] (zW base D cA ad ty I L P) (if oc = 0 then r.toInt64 else (-9000000000000000)) (fun H => ∃ ad2, (∀ κ t, ty κ = some t → ad2 κ = ad κ) ∧ if oc = 0 then zW base D cA ad2 ty2 I2 L2 P2 H else zW base D cA ad2 ty I L P H) := by
  refine z_hstart (by decide +kernel) (Nat.le_of_ble_eq_true rfl) fun p e s m below meth c ls M hP hS hl hr hlocks hN htab => ?_
  have M : zM p s m c cL_trader RL 8 base D cA := M
  have hw : zH base D cA s s.heap [] ad ty I L P := ⟨hP, hS⟩
  obtain ⟨hx, hb, -⟩ := id M
  have hl : lv_has ls 8 [(0, .ref (ad 0)), (1, .int p0), (2, .int p1), (3, .int p2), (4, .int p3), (5, .int p4), (6, .int p5)] := hl
  refine lv_aload_n hx hb dL_trader_0 rfl (lv_at hl 0 rfl) ?_
  refine lv_iload_n hx hb dL_trader_1 rfl (lv_at hl 1 rfl) ?_
  refine lv_iload_n hx hb dL_trader_2 rfl (lv_at hl 2 rfl) ?_
  refine lv_iload_n hx hb dL_trader_3 rfl (lv_at hl 3 rfl) ?_
  refine lv_iload hx hb dL_trader_4 (lv_at hl 4 rfl) ?_
  refine lv_iload hx hb dL_trader_6 (lv_at hl 5 rfl) ?_
  refine lv_iload hx hb dL_trader_8 (lv_at hl 6 rfl) ?_
  refine z_xci (z_xrunV (As := [.int p0, .int p1, .int p2, .int p3, .int p4, .int p5]) (rest := []) M hw ht0 zc_L_42 zn_L_42 hM hw.1 rfl rfl ⟨Nat.le_of_ble_eq_true rfl, Nat.le_of_ble_eq_true rfl⟩ ⟨Nat.le_of_ble_eq_true rfl, Nat.le_of_ble_eq_true rfl⟩ hl.1 (Nat.le_of_ble_eq_true rfl) dL_trader_10) hw.2 (fun hne ce q H locs hw0 hS hq hv hcl => ?_) (fun h0 H locs hw1 hS => ?_)
  · skip
    have hw : zH base D cA s H locs ad ty I L P := ⟨hw0, hS⟩
    rcases hoc with h | h | h | h
    · exact absurd h hne
    · skip
      refine z_catch M hN htab h (Or.inl rfl) [] ⟨0, 14, 15, 24⟩ [⟨0, 14, 21, 14⟩, ⟨0, 14, 27, 18⟩] rfl (fun z hz => absurd hz List.not_mem_nil) (by decide) rfl hq hv hcl ?_
      show W p l e _ s m _ below meth c H locs _ _ _ (F0 m 15 ls [.ref q])
      refine lv_astore (lv' := [(7, .ref q), (0, .ref (ad 0)), (1, .int p0), (2, .int p1), (3, .int p2), (4, .int p3), (5, .int p4), (6, .int p5)]) hx hb dL_trader_15 hl (by decide) rfl (fun ls hl => ?_)
      refine lv_ldc2 (v := -9000000000000000) hx hb M.2.2.2.1 (M.2.2.2.2.1.use (tb 212 (by decide +kernel)) rfl) dL_trader_17 ?_
      exact z_lret hx hb hr (by rw [h]; rfl) hw.2 ⟨ad, fun _ _ _ => rfl, (by rw [if_neg hne]; exact hw.1)⟩ (Nat.le_of_ble_eq_true rfl) (Nat.le_of_ble_eq_true rfl) dL_trader_20 hlocks
    · skip
      refine z_catch M hN htab h (Or.inr (Or.inl rfl)) [⟨0, 14, 15, 24⟩] ⟨0, 14, 21, 14⟩ [⟨0, 14, 27, 18⟩] rfl (fun z hz => by rw [List.mem_singleton.mp hz]; exact ⟨by decide, 1, (Or.inl rfl), by decide, rfl⟩) (by decide) rfl hq hv hcl ?_
      show W p l e _ s m _ below meth c H locs _ _ _ (F0 m 21 ls [.ref q])
      refine lv_astore (lv' := [(7, .ref q), (0, .ref (ad 0)), (1, .int p0), (2, .int p1), (3, .int p2), (4, .int p3), (5, .int p4), (6, .int p5)]) hx hb dL_trader_21 hl (by decide) rfl (fun ls hl => ?_)
      refine lv_ldc2 (v := -9000000000000000) hx hb M.2.2.2.1 (M.2.2.2.2.1.use (tb 212 (by decide +kernel)) rfl) dL_trader_23 ?_
      exact z_lret hx hb hr (by rw [h]; rfl) hw.2 ⟨ad, fun _ _ _ => rfl, (by rw [if_neg hne]; exact hw.1)⟩ (Nat.le_of_ble_eq_true rfl) (Nat.le_of_ble_eq_true rfl) dL_trader_26 hlocks
    · skip
      refine z_catch M hN htab h (Or.inr (Or.inr rfl)) [⟨0, 14, 15, 24⟩, ⟨0, 14, 21, 14⟩] ⟨0, 14, 27, 18⟩ [] rfl (fun z hz => by rcases List.mem_cons.mp hz with e | hz; (rw [e]; exact ⟨by decide, 1, (Or.inl rfl), by decide, rfl⟩); (rw [List.mem_singleton.mp hz]; exact ⟨by decide, 2, (Or.inr (Or.inl rfl)), by decide, rfl⟩)) (by decide) rfl hq hv hcl ?_
      show W p l e _ s m _ below meth c H locs _ _ _ (F0 m 27 ls [.ref q])
      refine lv_astore (lv' := [(7, .ref q), (0, .ref (ad 0)), (1, .int p0), (2, .int p1), (3, .int p2), (4, .int p3), (5, .int p4), (6, .int p5)]) hx hb dL_trader_27 hl (by decide) rfl (fun ls hl => ?_)
      refine lv_ldc2 (v := -9000000000000000) hx hb M.2.2.2.1 (M.2.2.2.2.1.use (tb 212 (by decide +kernel)) rfl) dL_trader_29 ?_
      exact z_lret hx hb hr (by rw [h]; rfl) hw.2 ⟨ad, fun _ _ _ => rfl, (by rw [if_neg hne]; exact hw.1)⟩ (Nat.le_of_ble_eq_true rfl) (Nat.le_of_ble_eq_true rfl) dL_trader_32 hlocks
  · skip
    obtain ⟨ad2, hag, hw2⟩ := hW _ hw1
    have e0 : ad 0 = ad2 0 := (hag _ _ ht0).symm
    rw [e0] at hl
    have hw : zH base D cA s H locs ad2 ty2 I2 L2 P2 := ⟨hw2, hS⟩
    refine lv_i2l hx hb dL_trader_13 rfl ?_
    exact z_lret hx hb hr (by rw [h0]; rfl) hw.2 ⟨ad2, hag, (by rw [if_pos h0]; exact hw.1)⟩ (Nat.le_of_ble_eq_true rfl) (Nat.le_of_ble_eq_true rfl) dL_trader_14 hlocks
theorem zh_trader : zCH 98 yL_trader cL_trader 8 [(0, 14, 15, 24), (0, 14, 21, 14), (0, 14, 27, 18)] 7 := ⟨tb 407 (by decide +kernel), tb 0 (by decide +kernel), ⟨tb 409 (by decide +kernel), rfl⟩, ⟨by decide +kernel, by decide +kernel⟩, by decide +kernel, tb 408 (by decide +kernel)⟩
set_option maxHeartbeats 4000000 in
set_option maxRecDepth 100000 in
theorem c_L_pass (l : Launch) (base : Nat) (D : zDD) (cA : Nat → ClassId) (ad : Nat → Nat) (ty : zTyp) (I : zIt) (L : zLt) (P : zPt) (n0 : Nat) (ht0 : ty 0 = some (6, n0)) {oc : Nat} {r : Int32} {W1 : Heap → Prop} {ty2 : zTyp} {I2 : zIt} {L2 : zLt} {P2 : zPt} (p0 : Int32) (hM : zXi l base D cA yX6_pass cX6_pass 3 .int 7 138 1 6 [.ref (ad 0), .int p0] (zW base D cA ad ty I L P) oc r W1) (hoc : oc = 0 ∨ oc = 2) (hW : ∀ H, W1 H → ∃ ad2, (∀ κ t, ty κ = some t → ad2 κ = ad κ) ∧ zW base D cA ad2 ty2 I2 L2 P2 H) : zMh l base D cA yL_pass cL_pass 3 [(0, 6, 7, 14)] 8 160 1 6 [.ref (ad 0), .int p0] (zW base D cA ad ty I L P) (if oc = 0 then r.toInt64 else (-9000000000000000)) (fun H => ∃ ad2, (∀ κ t, ty κ = some t → ad2 κ = ad κ) ∧ if oc = 0 then zW base D cA ad2 ty2 I2 L2 P2 H else zW base D cA ad2 ty I L P H) := by
  refine z_hstart (by decide +kernel) (Nat.le_of_ble_eq_true rfl) fun p e s m below meth c ls M hP hS hl hr hlocks hN htab => ?_
  have M : zM p s m c cL_pass RL 3 base D cA := M
  have hw : zH base D cA s s.heap [] ad ty I L P := ⟨hP, hS⟩
  obtain ⟨hx, hb, -⟩ := id M
  have hl : lv_has ls 3 [(0, .ref (ad 0)), (1, .int p0)] := hl
  refine lv_aload_n hx hb dL_pass_0 rfl (lv_at hl 0 rfl) ?_
  refine lv_iload_n hx hb dL_pass_1 rfl (lv_at hl 1 rfl) ?_
  refine z_xci (z_xrunV (As := [.int p0]) (rest := []) M hw ht0 zc_L_46 zn_L_46 hM hw.1 rfl rfl ⟨Nat.le_of_ble_eq_true rfl, Nat.le_of_ble_eq_true rfl⟩ ⟨Nat.le_of_ble_eq_true rfl, Nat.le_of_ble_eq_true rfl⟩ hl.1 (Nat.le_of_ble_eq_true rfl) dL_pass_2) hw.2 (fun hne ce q H locs hw0 hS hq hv hcl => ?_) (fun h0 H locs hw1 hS => ?_)
  · skip
    have hw : zH base D cA s H locs ad ty I L P := ⟨hw0, hS⟩
    rcases hoc with h | h
    · exact absurd h hne
    · skip
      refine z_catch M hN htab h (Or.inr (Or.inl rfl)) [] ⟨0, 6, 7, 14⟩ [] rfl (fun z hz => absurd hz List.not_mem_nil) (by decide) rfl hq hv hcl ?_
      show W p l e _ s m _ below meth c H locs _ _ _ (F0 m 7 ls [.ref q])
      refine lv_astore_n (lv' := [(2, .ref q), (0, .ref (ad 0)), (1, .int p0)]) hx hb dL_pass_7 rfl hl (by decide) rfl (fun ls hl => ?_)
      refine lv_ldc2 (v := -9000000000000000) hx hb M.2.2.2.1 (M.2.2.2.2.1.use (tb 212 (by decide +kernel)) rfl) dL_pass_8 ?_
      exact z_lret hx hb hr (by rw [h]; rfl) hw.2 ⟨ad, fun _ _ _ => rfl, (by rw [if_neg hne]; exact hw.1)⟩ (Nat.le_of_ble_eq_true rfl) (Nat.le_of_ble_eq_true rfl) dL_pass_11 hlocks
  · skip
    obtain ⟨ad2, hag, hw2⟩ := hW _ hw1
    have e0 : ad 0 = ad2 0 := (hag _ _ ht0).symm
    rw [e0] at hl
    have hw : zH base D cA s H locs ad2 ty2 I2 L2 P2 := ⟨hw2, hS⟩
    refine lv_i2l hx hb dL_pass_5 rfl ?_
    exact z_lret hx hb hr (by rw [h0]; rfl) hw.2 ⟨ad2, hag, (by rw [if_pos h0]; exact hw.1)⟩ (Nat.le_of_ble_eq_true rfl) (Nat.le_of_ble_eq_true rfl) dL_pass_6 hlocks
theorem zh_pass : zCH 101 yL_pass cL_pass 3 [(0, 6, 7, 14)] 2 := ⟨tb 486 (by decide +kernel), tb 0 (by decide +kernel), ⟨tb 488 (by decide +kernel), rfl⟩, ⟨by decide +kernel, by decide +kernel⟩, by decide +kernel, tb 487 (by decide +kernel)⟩
set_option maxHeartbeats 4000000 in
set_option maxRecDepth 100000 in
theorem c_L_works (l : Launch) (base : Nat) (D : zDD) (cA : Nat → ClassId) (ad : Nat → Nat) (ty : zTyp) (I : zIt) (L : zLt) (P : zPt) (n0 : Nat) (ht0 : ty 0 = some (6, n0)) {oc : Nat} {r : Int32} {W1 : Heap → Prop} {ty2 : zTyp} {I2 : zIt} {L2 : zLt} {P2 : zPt} (p0 : Int32) (hM : zXi l base D cA yX6_works cX6_works 2 .boolean 7 111 1 6 [.ref (ad 0), .int p0] (zW base D cA ad ty I L P) oc r W1) (hoc : oc = 0 ∨ oc = 1) (hW : ∀ H, W1 H → ∃ ad2, (∀ κ t, ty κ = some t → ad2 κ = ad κ) ∧ zW base D cA ad2 ty2 I2 L2 P2 H) : zMh l base D cA yL_works cL_works 3 [(0, 13, 14, 24)] 8 132 1 6 [.ref (ad 0), .int p0] (zW base D cA ad ty I L P) (if oc = 0 then (if r = 0 then 0 else 1) else (-9000000000000000)) (fun H => ∃ ad2, (∀ κ t, ty κ = some t → ad2 κ = ad κ) ∧ if oc = 0 then zW base D cA ad2 ty2 I2 L2 P2 H else zW base D cA ad2 ty I L P H) := by
  refine z_hstart (by decide +kernel) (Nat.le_of_ble_eq_true rfl) fun p e s m below meth c ls M hP hS hl hr hlocks hN htab => ?_
  have M : zM p s m c cL_works RL 3 base D cA := M
  have hw : zH base D cA s s.heap [] ad ty I L P := ⟨hP, hS⟩
  obtain ⟨hx, hb, -⟩ := id M
  have hl : lv_has ls 3 [(0, .ref (ad 0)), (1, .int p0)] := hl
  refine lv_aload_n hx hb dL_works_0 rfl (lv_at hl 0 rfl) ?_
  refine lv_iload_n hx hb dL_works_1 rfl (lv_at hl 1 rfl) ?_
  refine z_xci (z_xrunV (As := [.int p0]) (rest := []) M hw ht0 zc_L_50 zn_L_50 hM hw.1 rfl rfl ⟨Nat.le_of_ble_eq_true rfl, Nat.le_of_ble_eq_true rfl⟩ ⟨Nat.le_of_ble_eq_true rfl, Nat.le_of_ble_eq_true rfl⟩ hl.1 (Nat.le_of_ble_eq_true rfl) dL_works_2) hw.2 (fun hne ce q H locs hw0 hS hq hv hcl => ?_) (fun h0 H locs hw1 hS => ?_)
  · skip
    have hw : zH base D cA s H locs ad ty I L P := ⟨hw0, hS⟩
    rcases hoc with h | h
    · exact absurd h hne
    · skip
      refine z_catch M hN htab h (Or.inl rfl) [] ⟨0, 13, 14, 24⟩ [] rfl (fun z hz => absurd hz List.not_mem_nil) (by decide) rfl hq hv hcl ?_
      show W p l e _ s m _ below meth c H locs _ _ _ (F0 m 14 ls [.ref q])
      refine lv_astore_n (lv' := [(2, .ref q), (0, .ref (ad 0)), (1, .int p0)]) hx hb dL_works_14 rfl hl (by decide) rfl (fun ls hl => ?_)
      refine lv_ldc2 (v := -9000000000000000) hx hb M.2.2.2.1 (M.2.2.2.2.1.use (tb 212 (by decide +kernel)) rfl) dL_works_15 ?_
      exact z_lret hx hb hr (by rw [h]; rfl) hw.2 ⟨ad, fun _ _ _ => rfl, (by rw [if_neg hne]; exact hw.1)⟩ (Nat.le_of_ble_eq_true rfl) (Nat.le_of_ble_eq_true rfl) dL_works_18 hlocks
  · skip
    obtain ⟨ad2, hag, hw2⟩ := hW _ hw1
    have e0 : ad 0 = ad2 0 := (hag _ _ ht0).symm
    rw [e0] at hl
    have hw : zH base D cA s H locs ad2 ty2 I2 L2 P2 := ⟨hw2, hS⟩
    refine lv_if_eq (tgt := 12) hx hb dL_works_5 (by decide) (fun c1 => ?_) (fun c1 => ?_)
    · skip
      refine lv_lconst (v := 0) hx hb dL_works_12 (by decide) ?_
      exact z_lret hx hb hr (by rw [if_pos h0, if_pos c1]) hw.2 ⟨ad2, hag, (by rw [if_pos h0]; exact hw.1)⟩ (Nat.le_of_ble_eq_true rfl) (Nat.le_of_ble_eq_true rfl) dL_works_13 hlocks
    · skip
      refine lv_lconst (v := 1) hx hb dL_works_8 (by decide) ?_
      refine lv_goto (tgt := 13) hx hb dL_works_9 (by decide) ?_
      exact z_lret hx hb hr (by rw [if_pos h0, if_neg c1]) hw.2 ⟨ad2, hag, (by rw [if_pos h0]; exact hw.1)⟩ (Nat.le_of_ble_eq_true rfl) (Nat.le_of_ble_eq_true rfl) dL_works_13 hlocks
theorem zh_works : zCH 104 yL_works cL_works 3 [(0, 13, 14, 24)] 2 := ⟨tb 575 (by decide +kernel), tb 0 (by decide +kernel), ⟨tb 577 (by decide +kernel), rfl⟩, ⟨by decide +kernel, by decide +kernel⟩, by decide +kernel, tb 576 (by decide +kernel)⟩
set_option maxHeartbeats 4000000 in
set_option maxRecDepth 100000 in
theorem c_L_faultAt (l : Launch) (base : Nat) (D : zDD) (cA : Nat → ClassId) (ad : Nat → Nat) (ty : zTyp) (I : zIt) (L : zLt) (P : zPt) (n0 : Nat) (ht0 : ty 0 = some (6, n0)) {oc : Nat} {r : Int32} {W1 : Heap → Prop} {ty2 : zTyp} {I2 : zIt} {L2 : zLt} {P2 : zPt} (p0 : Int32) (hM : zXi l base D cA yX6_faultAt cX6_faultAt 2 .int 6 90 1 6 [.ref (ad 0), .int p0] (zW base D cA ad ty I L P) oc r W1) (hoc : oc = 0 ∨ oc = 1) (hW : ∀ H, W1 H → ∃ ad2, (∀ κ t, ty κ = some t → ad2 κ = ad κ) ∧ zW base D cA ad2 ty2 I2 L2 P2 H) : zMh l base D cA yL_faultAt cL_faultAt 3 [(0, 6, 7, 24)] 7 111 1 6 [.ref (ad 0), .int p0] (zW base D cA ad ty I L P) (if oc = 0 then r.toInt64 else (-9000000000000000)) (fun H => ∃ ad2, (∀ κ t, ty κ = some t → ad2 κ = ad κ) ∧ if oc = 0 then zW base D cA ad2 ty2 I2 L2 P2 H else zW base D cA ad2 ty I L P H) := by
  refine z_hstart (by decide +kernel) (Nat.le_of_ble_eq_true rfl) fun p e s m below meth c ls M hP hS hl hr hlocks hN htab => ?_
  have M : zM p s m c cL_faultAt RL 3 base D cA := M
  have hw : zH base D cA s s.heap [] ad ty I L P := ⟨hP, hS⟩
  obtain ⟨hx, hb, -⟩ := id M
  have hl : lv_has ls 3 [(0, .ref (ad 0)), (1, .int p0)] := hl
  refine lv_aload_n hx hb dL_faultAt_0 rfl (lv_at hl 0 rfl) ?_
  refine lv_iload_n hx hb dL_faultAt_1 rfl (lv_at hl 1 rfl) ?_
  refine z_xci (z_xrunV (As := [.int p0]) (rest := []) M hw ht0 zc_L_54 zn_L_54 hM hw.1 rfl rfl ⟨Nat.le_of_ble_eq_true rfl, Nat.le_of_ble_eq_true rfl⟩ ⟨Nat.le_of_ble_eq_true rfl, Nat.le_of_ble_eq_true rfl⟩ hl.1 (Nat.le_of_ble_eq_true rfl) dL_faultAt_2) hw.2 (fun hne ce q H locs hw0 hS hq hv hcl => ?_) (fun h0 H locs hw1 hS => ?_)
  · skip
    have hw : zH base D cA s H locs ad ty I L P := ⟨hw0, hS⟩
    rcases hoc with h | h
    · exact absurd h hne
    · skip
      refine z_catch M hN htab h (Or.inl rfl) [] ⟨0, 6, 7, 24⟩ [] rfl (fun z hz => absurd hz List.not_mem_nil) (by decide) rfl hq hv hcl ?_
      show W p l e _ s m _ below meth c H locs _ _ _ (F0 m 7 ls [.ref q])
      refine lv_astore_n (lv' := [(2, .ref q), (0, .ref (ad 0)), (1, .int p0)]) hx hb dL_faultAt_7 rfl hl (by decide) rfl (fun ls hl => ?_)
      refine lv_ldc2 (v := -9000000000000000) hx hb M.2.2.2.1 (M.2.2.2.2.1.use (tb 212 (by decide +kernel)) rfl) dL_faultAt_8 ?_
      exact z_lret hx hb hr (by rw [h]; rfl) hw.2 ⟨ad, fun _ _ _ => rfl, (by rw [if_neg hne]; exact hw.1)⟩ (Nat.le_of_ble_eq_true rfl) (Nat.le_of_ble_eq_true rfl) dL_faultAt_11 hlocks
  · skip
    obtain ⟨ad2, hag, hw2⟩ := hW _ hw1
    have e0 : ad 0 = ad2 0 := (hag _ _ ht0).symm
    rw [e0] at hl
    have hw : zH base D cA s H locs ad2 ty2 I2 L2 P2 := ⟨hw2, hS⟩
    refine lv_i2l hx hb dL_faultAt_5 rfl ?_
    exact z_lret hx hb hr (by rw [h0]; rfl) hw.2 ⟨ad2, hag, (by rw [if_pos h0]; exact hw.1)⟩ (Nat.le_of_ble_eq_true rfl) (Nat.le_of_ble_eq_true rfl) dL_faultAt_6 hlocks
theorem zh_faultAt : zCH 106 yL_faultAt cL_faultAt 3 [(0, 6, 7, 24)] 2 := ⟨tb 586 (by decide +kernel), tb 0 (by decide +kernel), ⟨tb 588 (by decide +kernel), rfl⟩, ⟨by decide +kernel, by decide +kernel⟩, by decide +kernel, tb 587 (by decide +kernel)⟩
set_option maxHeartbeats 4000000 in
set_option maxRecDepth 100000 in
theorem c_L_shipOf (l : Launch) (base : Nat) (D : zDD) (cA : Nat → ClassId) (ad : Nat → Nat) (ty : zTyp) (I : zIt) (L : zLt) (P : zPt) (n0 : Nat) (ht0 : ty 0 = some (6, n0)) {oc : Nat} {r : Int32} {W1 : Heap → Prop} {ty2 : zTyp} {I2 : zIt} {L2 : zLt} {P2 : zPt} (p0 : Int32) (p1 : Int32) (hM : zXi l base D cA yX6_shipOf cX6_shipOf 4 .int 7 112 2 12 [.ref (ad 0), .int p0, .int p1] (zW base D cA ad ty I L P) oc r W1) (hoc : oc = 0 ∨ oc = 1 ∨ oc = 2) (hW : ∀ H, W1 H → ∃ ad2, (∀ κ t, ty κ = some t → ad2 κ = ad κ) ∧ zW base D cA ad2 ty2 I2 L2 P2 H) : zMh l base D cA yL_shipOf cL_shipOf 4 [(0, 7, 8, 24), (0, 7, 13, 14)] 8 135 2 12 [.ref (ad 0), .int p0, .int p1] (zW base D cA ad ty I L P) (if oc = 0 then r.toInt64 else (-9000000000000000)) (fun H => ∃ ad2, (∀ κ t, ty κ = some t → ad2 κ = ad κ) ∧ if oc = 0 then zW base D cA ad2 ty2 I2 L2 P2 H else zW base D cA ad2 ty I L P H) := by
  refine z_hstart (by decide +kernel) (Nat.le_of_ble_eq_true rfl) fun p e s m below meth c ls M hP hS hl hr hlocks hN htab => ?_
  have M : zM p s m c cL_shipOf RL 4 base D cA := M
  have hw : zH base D cA s s.heap [] ad ty I L P := ⟨hP, hS⟩
  obtain ⟨hx, hb, -⟩ := id M
  have hl : lv_has ls 4 [(0, .ref (ad 0)), (1, .int p0), (2, .int p1)] := hl
  refine lv_aload_n hx hb dL_shipOf_0 rfl (lv_at hl 0 rfl) ?_
  refine lv_iload_n hx hb dL_shipOf_1 rfl (lv_at hl 1 rfl) ?_
  refine lv_iload_n hx hb dL_shipOf_2 rfl (lv_at hl 2 rfl) ?_
  refine z_xci (z_xrunV (As := [.int p0, .int p1]) (rest := []) M hw ht0 zc_L_57 zn_L_57 hM hw.1 rfl rfl ⟨Nat.le_of_ble_eq_true rfl, Nat.le_of_ble_eq_true rfl⟩ ⟨Nat.le_of_ble_eq_true rfl, Nat.le_of_ble_eq_true rfl⟩ hl.1 (Nat.le_of_ble_eq_true rfl) dL_shipOf_3) hw.2 (fun hne ce q H locs hw0 hS hq hv hcl => ?_) (fun h0 H locs hw1 hS => ?_)
  · skip
    have hw : zH base D cA s H locs ad ty I L P := ⟨hw0, hS⟩
    rcases hoc with h | h | h
    · exact absurd h hne
    · skip
      refine z_catch M hN htab h (Or.inl rfl) [] ⟨0, 7, 8, 24⟩ [⟨0, 7, 13, 14⟩] rfl (fun z hz => absurd hz List.not_mem_nil) (by decide) rfl hq hv hcl ?_
      show W p l e _ s m _ below meth c H locs _ _ _ (F0 m 8 ls [.ref q])
      refine lv_astore_n (lv' := [(3, .ref q), (0, .ref (ad 0)), (1, .int p0), (2, .int p1)]) hx hb dL_shipOf_8 rfl hl (by decide) rfl (fun ls hl => ?_)
      refine lv_ldc2 (v := -9000000000000000) hx hb M.2.2.2.1 (M.2.2.2.2.1.use (tb 212 (by decide +kernel)) rfl) dL_shipOf_9 ?_
      exact z_lret hx hb hr (by rw [h]; rfl) hw.2 ⟨ad, fun _ _ _ => rfl, (by rw [if_neg hne]; exact hw.1)⟩ (Nat.le_of_ble_eq_true rfl) (Nat.le_of_ble_eq_true rfl) dL_shipOf_12 hlocks
    · skip
      refine z_catch M hN htab h (Or.inr (Or.inl rfl)) [⟨0, 7, 8, 24⟩] ⟨0, 7, 13, 14⟩ [] rfl (fun z hz => by rw [List.mem_singleton.mp hz]; exact ⟨by decide, 1, (Or.inl rfl), by decide, rfl⟩) (by decide) rfl hq hv hcl ?_
      show W p l e _ s m _ below meth c H locs _ _ _ (F0 m 13 ls [.ref q])
      refine lv_astore_n (lv' := [(3, .ref q), (0, .ref (ad 0)), (1, .int p0), (2, .int p1)]) hx hb dL_shipOf_13 rfl hl (by decide) rfl (fun ls hl => ?_)
      refine lv_ldc2 (v := -9000000000000000) hx hb M.2.2.2.1 (M.2.2.2.2.1.use (tb 212 (by decide +kernel)) rfl) dL_shipOf_14 ?_
      exact z_lret hx hb hr (by rw [h]; rfl) hw.2 ⟨ad, fun _ _ _ => rfl, (by rw [if_neg hne]; exact hw.1)⟩ (Nat.le_of_ble_eq_true rfl) (Nat.le_of_ble_eq_true rfl) dL_shipOf_17 hlocks
  · skip
    obtain ⟨ad2, hag, hw2⟩ := hW _ hw1
    have e0 : ad 0 = ad2 0 := (hag _ _ ht0).symm
    rw [e0] at hl
    have hw : zH base D cA s H locs ad2 ty2 I2 L2 P2 := ⟨hw2, hS⟩
    refine lv_i2l hx hb dL_shipOf_6 rfl ?_
    exact z_lret hx hb hr (by rw [h0]; rfl) hw.2 ⟨ad2, hag, (by rw [if_pos h0]; exact hw.1)⟩ (Nat.le_of_ble_eq_true rfl) (Nat.le_of_ble_eq_true rfl) dL_shipOf_7 hlocks
theorem zh_shipOf : zCH 108 yL_shipOf cL_shipOf 4 [(0, 7, 8, 24), (0, 7, 13, 14)] 3 := ⟨tb 598 (by decide +kernel), tb 0 (by decide +kernel), ⟨tb 600 (by decide +kernel), rfl⟩, ⟨by decide +kernel, by decide +kernel⟩, by decide +kernel, tb 599 (by decide +kernel)⟩
set_option maxHeartbeats 4000000 in
set_option maxRecDepth 100000 in
theorem c_L_way (l : Launch) (base : Nat) (D : zDD) (cA : Nat → ClassId) (ad : Nat → Nat) (ty : zTyp) (I : zIt) (L : zLt) (P : zPt) (n0 : Nat) (ht0 : ty 0 = some (6, n0)) {oc : Nat} {r : Int32} {W1 : Heap → Prop} {ty2 : zTyp} {I2 : zIt} {L2 : zLt} {P2 : zPt} (p0 : Int32) (p1 : Int32) (hM : zXi l base D cA yX6_way cX6_way 3 .int 7 117 2 12 [.ref (ad 0), .int p0, .int p1] (zW base D cA ad ty I L P) oc r W1) (hoc : oc = 0 ∨ oc = 1) (hW : ∀ H, W1 H → ∃ ad2, (∀ κ t, ty κ = some t → ad2 κ = ad κ) ∧ zW base D cA ad2 ty2 I2 L2 P2 H) : zMh l base D cA yL_way cL_way 4 [(0, 7, 8, 24)] 8 139 2 12 [.ref (ad 0), .int p0, .int p1] (zW base D cA ad ty I L P) (if oc = 0 then r.toInt64 else (-9000000000000000)) (fun H => ∃ ad2, (∀ κ t, ty κ = some t → ad2 κ = ad κ) ∧ if oc = 0 then zW base D cA ad2 ty2 I2 L2 P2 H else zW base D cA ad2 ty I L P H) := by
  refine z_hstart (by decide +kernel) (Nat.le_of_ble_eq_true rfl) fun p e s m below meth c ls M hP hS hl hr hlocks hN htab => ?_
  have M : zM p s m c cL_way RL 4 base D cA := M
  have hw : zH base D cA s s.heap [] ad ty I L P := ⟨hP, hS⟩
  obtain ⟨hx, hb, -⟩ := id M
  have hl : lv_has ls 4 [(0, .ref (ad 0)), (1, .int p0), (2, .int p1)] := hl
  refine lv_aload_n hx hb dL_way_0 rfl (lv_at hl 0 rfl) ?_
  refine lv_iload_n hx hb dL_way_1 rfl (lv_at hl 1 rfl) ?_
  refine lv_iload_n hx hb dL_way_2 rfl (lv_at hl 2 rfl) ?_
  refine z_xci (z_xrunV (As := [.int p0, .int p1]) (rest := []) M hw ht0 zc_L_60 zn_L_60 hM hw.1 rfl rfl ⟨Nat.le_of_ble_eq_true rfl, Nat.le_of_ble_eq_true rfl⟩ ⟨Nat.le_of_ble_eq_true rfl, Nat.le_of_ble_eq_true rfl⟩ hl.1 (Nat.le_of_ble_eq_true rfl) dL_way_3) hw.2 (fun hne ce q H locs hw0 hS hq hv hcl => ?_) (fun h0 H locs hw1 hS => ?_)
  · skip
    have hw : zH base D cA s H locs ad ty I L P := ⟨hw0, hS⟩
    rcases hoc with h | h
    · exact absurd h hne
    · skip
      refine z_catch M hN htab h (Or.inl rfl) [] ⟨0, 7, 8, 24⟩ [] rfl (fun z hz => absurd hz List.not_mem_nil) (by decide) rfl hq hv hcl ?_
      show W p l e _ s m _ below meth c H locs _ _ _ (F0 m 8 ls [.ref q])
      refine lv_astore_n (lv' := [(3, .ref q), (0, .ref (ad 0)), (1, .int p0), (2, .int p1)]) hx hb dL_way_8 rfl hl (by decide) rfl (fun ls hl => ?_)
      refine lv_ldc2 (v := -9000000000000000) hx hb M.2.2.2.1 (M.2.2.2.2.1.use (tb 212 (by decide +kernel)) rfl) dL_way_9 ?_
      exact z_lret hx hb hr (by rw [h]; rfl) hw.2 ⟨ad, fun _ _ _ => rfl, (by rw [if_neg hne]; exact hw.1)⟩ (Nat.le_of_ble_eq_true rfl) (Nat.le_of_ble_eq_true rfl) dL_way_12 hlocks
  · skip
    obtain ⟨ad2, hag, hw2⟩ := hW _ hw1
    have e0 : ad 0 = ad2 0 := (hag _ _ ht0).symm
    rw [e0] at hl
    have hw : zH base D cA s H locs ad2 ty2 I2 L2 P2 := ⟨hw2, hS⟩
    refine lv_i2l hx hb dL_way_6 rfl ?_
    exact z_lret hx hb hr (by rw [h0]; rfl) hw.2 ⟨ad2, hag, (by rw [if_pos h0]; exact hw.1)⟩ (Nat.le_of_ble_eq_true rfl) (Nat.le_of_ble_eq_true rfl) dL_way_7 hlocks
theorem zh_way : zCH 110 yL_way cL_way 4 [(0, 7, 8, 24)] 3 := ⟨tb 605 (by decide +kernel), tb 0 (by decide +kernel), ⟨tb 607 (by decide +kernel), rfl⟩, ⟨by decide +kernel, by decide +kernel⟩, by decide +kernel, tb 606 (by decide +kernel)⟩
set_option maxHeartbeats 4000000 in
set_option maxRecDepth 100000 in
theorem c_L_sum (l : Launch) (base : Nat) (D : zDD) (cA : Nat → ClassId) (ad : Nat → Nat) (ty : zTyp) (I : zIt) (L : zLt) (P : zPt) (n0 : Nat) (ht0 : ty 0 = some (6, n0)) {oc : Nat} {r : Int32} {W1 : Heap → Prop} {ty2 : zTyp} {I2 : zIt} {L2 : zLt} {P2 : zPt} (p0 : Int32) (p1 : Int32) (hM : zXi l base D cA yX6_sum cX6_sum 4 .int 7 117 2 12 [.ref (ad 0), .int p0, .int p1] (zW base D cA ad ty I L P) oc r W1) (hoc : oc = 0 ∨ oc = 1 ∨ oc = 2) (hW : ∀ H, W1 H → ∃ ad2, (∀ κ t, ty κ = some t → ad2 κ = ad κ) ∧ zW base D cA ad2 ty2 I2 L2 P2 H) : zMh l base D cA yL_sum cL_sum 4 [(0, 7, 8, 24), (0, 7, 13, 14)] 8 140 2 12 [.ref (ad 0), .int p0, .int p1] (zW base D cA ad ty I L P) (if oc = 0 then r.toInt64 else (-9000000000000000)) (fun H => ∃ ad2, (∀ κ t, ty κ = some t → ad2 κ = ad κ) ∧ if oc = 0 then zW base D cA ad2 ty2 I2 L2 P2 H else zW base D cA ad2 ty I L P H) := by
  refine z_hstart (by decide +kernel) (Nat.le_of_ble_eq_true rfl) fun p e s m below meth c ls M hP hS hl hr hlocks hN htab => ?_
  have M : zM p s m c cL_sum RL 4 base D cA := M
  have hw : zH base D cA s s.heap [] ad ty I L P := ⟨hP, hS⟩
  obtain ⟨hx, hb, -⟩ := id M
  have hl : lv_has ls 4 [(0, .ref (ad 0)), (1, .int p0), (2, .int p1)] := hl
  refine lv_aload_n hx hb dL_sum_0 rfl (lv_at hl 0 rfl) ?_
  refine lv_iload_n hx hb dL_sum_1 rfl (lv_at hl 1 rfl) ?_
  refine lv_iload_n hx hb dL_sum_2 rfl (lv_at hl 2 rfl) ?_
  refine z_xci (z_xrunV (As := [.int p0, .int p1]) (rest := []) M hw ht0 zc_L_63 zn_L_63 hM hw.1 rfl rfl ⟨Nat.le_of_ble_eq_true rfl, Nat.le_of_ble_eq_true rfl⟩ ⟨Nat.le_of_ble_eq_true rfl, Nat.le_of_ble_eq_true rfl⟩ hl.1 (Nat.le_of_ble_eq_true rfl) dL_sum_3) hw.2 (fun hne ce q H locs hw0 hS hq hv hcl => ?_) (fun h0 H locs hw1 hS => ?_)
  · skip
    have hw : zH base D cA s H locs ad ty I L P := ⟨hw0, hS⟩
    rcases hoc with h | h | h
    · exact absurd h hne
    · skip
      refine z_catch M hN htab h (Or.inl rfl) [] ⟨0, 7, 8, 24⟩ [⟨0, 7, 13, 14⟩] rfl (fun z hz => absurd hz List.not_mem_nil) (by decide) rfl hq hv hcl ?_
      show W p l e _ s m _ below meth c H locs _ _ _ (F0 m 8 ls [.ref q])
      refine lv_astore_n (lv' := [(3, .ref q), (0, .ref (ad 0)), (1, .int p0), (2, .int p1)]) hx hb dL_sum_8 rfl hl (by decide) rfl (fun ls hl => ?_)
      refine lv_ldc2 (v := -9000000000000000) hx hb M.2.2.2.1 (M.2.2.2.2.1.use (tb 212 (by decide +kernel)) rfl) dL_sum_9 ?_
      exact z_lret hx hb hr (by rw [h]; rfl) hw.2 ⟨ad, fun _ _ _ => rfl, (by rw [if_neg hne]; exact hw.1)⟩ (Nat.le_of_ble_eq_true rfl) (Nat.le_of_ble_eq_true rfl) dL_sum_12 hlocks
    · skip
      refine z_catch M hN htab h (Or.inr (Or.inl rfl)) [⟨0, 7, 8, 24⟩] ⟨0, 7, 13, 14⟩ [] rfl (fun z hz => by rw [List.mem_singleton.mp hz]; exact ⟨by decide, 1, (Or.inl rfl), by decide, rfl⟩) (by decide) rfl hq hv hcl ?_
      show W p l e _ s m _ below meth c H locs _ _ _ (F0 m 13 ls [.ref q])
      refine lv_astore_n (lv' := [(3, .ref q), (0, .ref (ad 0)), (1, .int p0), (2, .int p1)]) hx hb dL_sum_13 rfl hl (by decide) rfl (fun ls hl => ?_)
      refine lv_ldc2 (v := -9000000000000000) hx hb M.2.2.2.1 (M.2.2.2.2.1.use (tb 212 (by decide +kernel)) rfl) dL_sum_14 ?_
      exact z_lret hx hb hr (by rw [h]; rfl) hw.2 ⟨ad, fun _ _ _ => rfl, (by rw [if_neg hne]; exact hw.1)⟩ (Nat.le_of_ble_eq_true rfl) (Nat.le_of_ble_eq_true rfl) dL_sum_17 hlocks
  · skip
    obtain ⟨ad2, hag, hw2⟩ := hW _ hw1
    have e0 : ad 0 = ad2 0 := (hag _ _ ht0).symm
    rw [e0] at hl
    have hw : zH base D cA s H locs ad2 ty2 I2 L2 P2 := ⟨hw2, hS⟩
    refine lv_i2l hx hb dL_sum_6 rfl ?_
    exact z_lret hx hb hr (by rw [h0]; rfl) hw.2 ⟨ad2, hag, (by rw [if_pos h0]; exact hw.1)⟩ (Nat.le_of_ble_eq_true rfl) (Nat.le_of_ble_eq_true rfl) dL_sum_7 hlocks
theorem zh_sum : zCH 112 yL_sum cL_sum 4 [(0, 7, 8, 24), (0, 7, 13, 14)] 3 := ⟨tb 617 (by decide +kernel), tb 0 (by decide +kernel), ⟨tb 619 (by decide +kernel), rfl⟩, ⟨by decide +kernel, by decide +kernel⟩, by decide +kernel, tb 618 (by decide +kernel)⟩
set_option maxHeartbeats 4000000 in
set_option maxRecDepth 100000 in
theorem c_L_sumAnew (l : Launch) (base : Nat) (D : zDD) (cA : Nat → ClassId) (ad : Nat → Nat) (ty : zTyp) (I : zIt) (L : zLt) (P : zPt) (n0 : Nat) (ht0 : ty 0 = some (6, n0)) {oc : Nat} {r : Int32} {W1 : Heap → Prop} {ty2 : zTyp} {I2 : zIt} {L2 : zLt} {P2 : zPt} (p0 : Int32) (hM : zXi l base D cA yX6_sumAnew cX6_sumAnew 2 .int 7 111 1 6 [.ref (ad 0), .int p0] (zW base D cA ad ty I L P) oc r W1) (hoc : oc = 0 ∨ oc = 1) (hW : ∀ H, W1 H → ∃ ad2, (∀ κ t, ty κ = some t → ad2 κ = ad κ) ∧ zW base D cA ad2 ty2 I2 L2 P2 H) : zMh l base D cA yL_sumAnew cL_sumAnew 3 [(0, 6, 7, 24)] 8 132 1 6 [.ref (ad 0), .int p0] (zW base D cA ad ty I L P) (if oc = 0 then r.toInt64 else (-9000000000000000)) (fun H => ∃ ad2, (∀ κ t, ty κ = some t → ad2 κ = ad κ) ∧ if oc = 0 then zW base D cA ad2 ty2 I2 L2 P2 H else zW base D cA ad2 ty I L P H) := by
  refine z_hstart (by decide +kernel) (Nat.le_of_ble_eq_true rfl) fun p e s m below meth c ls M hP hS hl hr hlocks hN htab => ?_
  have M : zM p s m c cL_sumAnew RL 3 base D cA := M
  have hw : zH base D cA s s.heap [] ad ty I L P := ⟨hP, hS⟩
  obtain ⟨hx, hb, -⟩ := id M
  have hl : lv_has ls 3 [(0, .ref (ad 0)), (1, .int p0)] := hl
  refine lv_aload_n hx hb dL_sumAnew_0 rfl (lv_at hl 0 rfl) ?_
  refine lv_iload_n hx hb dL_sumAnew_1 rfl (lv_at hl 1 rfl) ?_
  refine z_xci (z_xrunV (As := [.int p0]) (rest := []) M hw ht0 zc_L_66 zn_L_66 hM hw.1 rfl rfl ⟨Nat.le_of_ble_eq_true rfl, Nat.le_of_ble_eq_true rfl⟩ ⟨Nat.le_of_ble_eq_true rfl, Nat.le_of_ble_eq_true rfl⟩ hl.1 (Nat.le_of_ble_eq_true rfl) dL_sumAnew_2) hw.2 (fun hne ce q H locs hw0 hS hq hv hcl => ?_) (fun h0 H locs hw1 hS => ?_)
  · skip
    have hw : zH base D cA s H locs ad ty I L P := ⟨hw0, hS⟩
    rcases hoc with h | h
    · exact absurd h hne
    · skip
      refine z_catch M hN htab h (Or.inl rfl) [] ⟨0, 6, 7, 24⟩ [] rfl (fun z hz => absurd hz List.not_mem_nil) (by decide) rfl hq hv hcl ?_
      show W p l e _ s m _ below meth c H locs _ _ _ (F0 m 7 ls [.ref q])
      refine lv_astore_n (lv' := [(2, .ref q), (0, .ref (ad 0)), (1, .int p0)]) hx hb dL_sumAnew_7 rfl hl (by decide) rfl (fun ls hl => ?_)
      refine lv_ldc2 (v := -9000000000000000) hx hb M.2.2.2.1 (M.2.2.2.2.1.use (tb 212 (by decide +kernel)) rfl) dL_sumAnew_8 ?_
      exact z_lret hx hb hr (by rw [h]; rfl) hw.2 ⟨ad, fun _ _ _ => rfl, (by rw [if_neg hne]; exact hw.1)⟩ (Nat.le_of_ble_eq_true rfl) (Nat.le_of_ble_eq_true rfl) dL_sumAnew_11 hlocks
  · skip
    obtain ⟨ad2, hag, hw2⟩ := hW _ hw1
    have e0 : ad 0 = ad2 0 := (hag _ _ ht0).symm
    rw [e0] at hl
    have hw : zH base D cA s H locs ad2 ty2 I2 L2 P2 := ⟨hw2, hS⟩
    refine lv_i2l hx hb dL_sumAnew_5 rfl ?_
    exact z_lret hx hb hr (by rw [h0]; rfl) hw.2 ⟨ad2, hag, (by rw [if_pos h0]; exact hw.1)⟩ (Nat.le_of_ble_eq_true rfl) (Nat.le_of_ble_eq_true rfl) dL_sumAnew_6 hlocks
theorem zh_sumAnew : zCH 118 yL_sumAnew cL_sumAnew 3 [(0, 6, 7, 24)] 2 := ⟨tb 643 (by decide +kernel), tb 0 (by decide +kernel), ⟨tb 645 (by decide +kernel), rfl⟩, ⟨by decide +kernel, by decide +kernel⟩, by decide +kernel, tb 644 (by decide +kernel)⟩
set_option maxHeartbeats 4000000 in
set_option maxRecDepth 100000 in
theorem c_L_account (l : Launch) (base : Nat) (D : zDD) (cA : Nat → ClassId) (ad : Nat → Nat) (ty : zTyp) (I : zIt) (L : zLt) (P : zPt) (n0 : Nat) (ht0 : ty 0 = some (6, n0)) {oc : Nat} {r : Int64} {W1 : Heap → Prop} {ty2 : zTyp} {I2 : zIt} {L2 : zLt} {P2 : zPt} (p0 : Int32) (p1 : Int32) (hM : zXl l base D cA yX6_account cX6_account 4 7 112 2 12 [.ref (ad 0), .int p0, .int p1] (zW base D cA ad ty I L P) oc r W1) (hoc : oc = 0 ∨ oc = 1 ∨ oc = 2) (hW : ∀ H, W1 H → ∃ ad2, (∀ κ t, ty κ = some t → ad2 κ = ad κ) ∧ zW base D cA ad2 ty2 I2 L2 P2 H) : zMh l base D cA yL_account cL_account 4 [(0, 6, 7, 24), (0, 6, 12, 14)] 8 135 2 12 [.ref (ad 0), .int p0, .int p1] (zW base D cA ad ty I L P) (if oc = 0 then r else (-9000000000000000)) (fun H => ∃ ad2, (∀ κ t, ty κ = some t → ad2 κ = ad κ) ∧ if oc = 0 then zW base D cA ad2 ty2 I2 L2 P2 H else zW base D cA ad2 ty I L P H) := by
  refine z_hstart (by decide +kernel) (Nat.le_of_ble_eq_true rfl) fun p e s m below meth c ls M hP hS hl hr hlocks hN htab => ?_
  have M : zM p s m c cL_account RL 4 base D cA := M
  have hw : zH base D cA s s.heap [] ad ty I L P := ⟨hP, hS⟩
  obtain ⟨hx, hb, -⟩ := id M
  have hl : lv_has ls 4 [(0, .ref (ad 0)), (1, .int p0), (2, .int p1)] := hl
  refine lv_aload_n hx hb dL_account_0 rfl (lv_at hl 0 rfl) ?_
  refine lv_iload_n hx hb dL_account_1 rfl (lv_at hl 1 rfl) ?_
  refine lv_iload_n hx hb dL_account_2 rfl (lv_at hl 2 rfl) ?_
  refine z_xcl (z_xrunV (As := [.int p0, .int p1]) (rest := []) M hw ht0 zc_L_69 zn_L_69 hM hw.1 rfl rfl ⟨Nat.le_of_ble_eq_true rfl, Nat.le_of_ble_eq_true rfl⟩ ⟨Nat.le_of_ble_eq_true rfl, Nat.le_of_ble_eq_true rfl⟩ hl.1 (Nat.le_of_ble_eq_true rfl) dL_account_3) hw.2 (fun hne ce q H locs hw0 hS hq hv hcl => ?_) (fun h0 H locs hw1 hS => ?_)
  · skip
    have hw : zH base D cA s H locs ad ty I L P := ⟨hw0, hS⟩
    rcases hoc with h | h | h
    · exact absurd h hne
    · skip
      refine z_catch M hN htab h (Or.inl rfl) [] ⟨0, 6, 7, 24⟩ [⟨0, 6, 12, 14⟩] rfl (fun z hz => absurd hz List.not_mem_nil) (by decide) rfl hq hv hcl ?_
      show W p l e _ s m _ below meth c H locs _ _ _ (F0 m 7 ls [.ref q])
      refine lv_astore_n (lv' := [(3, .ref q), (0, .ref (ad 0)), (1, .int p0), (2, .int p1)]) hx hb dL_account_7 rfl hl (by decide) rfl (fun ls hl => ?_)
      refine lv_ldc2 (v := -9000000000000000) hx hb M.2.2.2.1 (M.2.2.2.2.1.use (tb 212 (by decide +kernel)) rfl) dL_account_8 ?_
      exact z_lret hx hb hr (by rw [h]; rfl) hw.2 ⟨ad, fun _ _ _ => rfl, (by rw [if_neg hne]; exact hw.1)⟩ (Nat.le_of_ble_eq_true rfl) (Nat.le_of_ble_eq_true rfl) dL_account_11 hlocks
    · skip
      refine z_catch M hN htab h (Or.inr (Or.inl rfl)) [⟨0, 6, 7, 24⟩] ⟨0, 6, 12, 14⟩ [] rfl (fun z hz => by rw [List.mem_singleton.mp hz]; exact ⟨by decide, 1, (Or.inl rfl), by decide, rfl⟩) (by decide) rfl hq hv hcl ?_
      show W p l e _ s m _ below meth c H locs _ _ _ (F0 m 12 ls [.ref q])
      refine lv_astore_n (lv' := [(3, .ref q), (0, .ref (ad 0)), (1, .int p0), (2, .int p1)]) hx hb dL_account_12 rfl hl (by decide) rfl (fun ls hl => ?_)
      refine lv_ldc2 (v := -9000000000000000) hx hb M.2.2.2.1 (M.2.2.2.2.1.use (tb 212 (by decide +kernel)) rfl) dL_account_13 ?_
      exact z_lret hx hb hr (by rw [h]; rfl) hw.2 ⟨ad, fun _ _ _ => rfl, (by rw [if_neg hne]; exact hw.1)⟩ (Nat.le_of_ble_eq_true rfl) (Nat.le_of_ble_eq_true rfl) dL_account_16 hlocks
  · skip
    obtain ⟨ad2, hag, hw2⟩ := hW _ hw1
    have e0 : ad 0 = ad2 0 := (hag _ _ ht0).symm
    rw [e0] at hl
    have hw : zH base D cA s H locs ad2 ty2 I2 L2 P2 := ⟨hw2, hS⟩
    exact z_lret hx hb hr (by rw [h0]; rfl) hw.2 ⟨ad2, hag, (by rw [if_pos h0]; exact hw.1)⟩ (Nat.le_of_ble_eq_true rfl) (Nat.le_of_ble_eq_true rfl) dL_account_6 hlocks
theorem zh_account : zCH 114 yL_account cL_account 4 [(0, 6, 7, 24), (0, 6, 12, 14)] 3 := ⟨tb 624 (by decide +kernel), tb 0 (by decide +kernel), ⟨tb 626 (by decide +kernel), rfl⟩, ⟨by decide +kernel, by decide +kernel⟩, by decide +kernel, tb 625 (by decide +kernel)⟩
set_option maxHeartbeats 4000000 in
set_option maxRecDepth 100000 in
theorem c_L_reach (l : Launch) (base : Nat) (D : zDD) (cA : Nat → ClassId) (ad : Nat → Nat) (ty : zTyp) (I : zIt) (L : zLt) (P : zPt) (n0 : Nat) (ht0 : ty 0 = some (6, n0)) {oc : Nat} {r : Int32} {W1 : Heap → Prop} {ty2 : zTyp} {I2 : zIt} {L2 : zLt} {P2 : zPt} (p0 : Int32) (hM : zXi l base D cA yX6_reach cX6_reach 2 .int 7 111 1 6 [.ref (ad 0), .int p0] (zW base D cA ad ty I L P) oc r W1) (hoc : oc = 0 ∨ oc = 1) (hW : ∀ H, W1 H → ∃ ad2, (∀ κ t, ty κ = some t → ad2 κ = ad κ) ∧ zW base D cA ad2 ty2 I2 L2 P2 H) : zMh l base D cA yL_reach cL_reach 3 [(0, 6, 7, 24)] 8 132 1 6 [.ref (ad 0), .int p0] (zW base D cA ad ty I L P) (if oc = 0 then r.toInt64 else (-9000000000000000)) (fun H => ∃ ad2, (∀ κ t, ty κ = some t → ad2 κ = ad κ) ∧ if oc = 0 then zW base D cA ad2 ty2 I2 L2 P2 H else zW base D cA ad2 ty I L P H) := by
  refine z_hstart (by decide +kernel) (Nat.le_of_ble_eq_true rfl) fun p e s m below meth c ls M hP hS hl hr hlocks hN htab => ?_
  have M : zM p s m c cL_reach RL 3 base D cA := M
  have hw : zH base D cA s s.heap [] ad ty I L P := ⟨hP, hS⟩
  obtain ⟨hx, hb, -⟩ := id M
  have hl : lv_has ls 3 [(0, .ref (ad 0)), (1, .int p0)] := hl
  refine lv_aload_n hx hb dL_reach_0 rfl (lv_at hl 0 rfl) ?_
  refine lv_iload_n hx hb dL_reach_1 rfl (lv_at hl 1 rfl) ?_
  refine z_xci (z_xrunV (As := [.int p0]) (rest := []) M hw ht0 zc_L_73 zn_L_73 hM hw.1 rfl rfl ⟨Nat.le_of_ble_eq_true rfl, Nat.le_of_ble_eq_true rfl⟩ ⟨Nat.le_of_ble_eq_true rfl, Nat.le_of_ble_eq_true rfl⟩ hl.1 (Nat.le_of_ble_eq_true rfl) dL_reach_2) hw.2 (fun hne ce q H locs hw0 hS hq hv hcl => ?_) (fun h0 H locs hw1 hS => ?_)
  · skip
    have hw : zH base D cA s H locs ad ty I L P := ⟨hw0, hS⟩
    rcases hoc with h | h
    · exact absurd h hne
    · skip
      refine z_catch M hN htab h (Or.inl rfl) [] ⟨0, 6, 7, 24⟩ [] rfl (fun z hz => absurd hz List.not_mem_nil) (by decide) rfl hq hv hcl ?_
      show W p l e _ s m _ below meth c H locs _ _ _ (F0 m 7 ls [.ref q])
      refine lv_astore_n (lv' := [(2, .ref q), (0, .ref (ad 0)), (1, .int p0)]) hx hb dL_reach_7 rfl hl (by decide) rfl (fun ls hl => ?_)
      refine lv_ldc2 (v := -9000000000000000) hx hb M.2.2.2.1 (M.2.2.2.2.1.use (tb 212 (by decide +kernel)) rfl) dL_reach_8 ?_
      exact z_lret hx hb hr (by rw [h]; rfl) hw.2 ⟨ad, fun _ _ _ => rfl, (by rw [if_neg hne]; exact hw.1)⟩ (Nat.le_of_ble_eq_true rfl) (Nat.le_of_ble_eq_true rfl) dL_reach_11 hlocks
  · skip
    obtain ⟨ad2, hag, hw2⟩ := hW _ hw1
    have e0 : ad 0 = ad2 0 := (hag _ _ ht0).symm
    rw [e0] at hl
    have hw : zH base D cA s H locs ad2 ty2 I2 L2 P2 := ⟨hw2, hS⟩
    refine lv_i2l hx hb dL_reach_5 rfl ?_
    exact z_lret hx hb hr (by rw [h0]; rfl) hw.2 ⟨ad2, hag, (by rw [if_pos h0]; exact hw.1)⟩ (Nat.le_of_ble_eq_true rfl) (Nat.le_of_ble_eq_true rfl) dL_reach_6 hlocks
theorem zh_reach : zCH 116 yL_reach cL_reach 3 [(0, 6, 7, 24)] 2 := ⟨tb 631 (by decide +kernel), tb 0 (by decide +kernel), ⟨tb 633 (by decide +kernel), rfl⟩, ⟨by decide +kernel, by decide +kernel⟩, by decide +kernel, tb 632 (by decide +kernel)⟩
