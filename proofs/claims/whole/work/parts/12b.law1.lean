set_option maxHeartbeats 4000000 in
set_option maxRecDepth 100000 in
theorem c_L_island (l : Launch) (base : Nat) (D : va_G) (cA : Nat → ClassId) (ad : Nat → Nat) (ty : zTyp) (I : zIt) (L : zLt) (P : zPt) (n0 : Nat) (ht0 : ty 0 = some (6, n0)) (ht160 : ty 160 = some (9, 1)) {oc : Nat} {r : Int32} {W1 : Heap → Prop} {ty2 : zTyp} {I2 : zIt} {L2 : zLt} {P2 : zPt} (p0 : Int32) (p1 : Int32) (hM : zXi l base D cA yX6_island cX6_island 3 .int 7 112 4 20 [.ref (ad 0), .int p0, .int p1] (zW base D cA ad ty I L P) oc r W1) (hoc : oc = 0 ∨ oc = 2 ∨ oc = 3) (hW : ∀ H, W1 H → ∃ ad2, (∀ κ t, ty κ = some t → ad2 κ = ad κ) ∧ zW base D cA ad2 ty2 I2 L2 P2 H) (ht2 : ty2 160 = some (9, 1)) : zMh l base D cA yL_island cL_island 5 [(0, 10, 13, 13), (0, 10, 17, 15)] 8 134 4 20 [.ref (ad 0), .int p0, .int p1, .ref (ad 160)] (zW base D cA ad ty I L P) (if oc = 2 then 1 else (if oc = 3 then 2 else 0)) (fun H => ∃ ad2, (∀ κ t, ty κ = some t → ad2 κ = ad κ) ∧ if oc = 0 then zW base D cA ad2 ty2 I2 (zu L2 160 0 r.toInt64) P2 H else zW base D cA ad2 ty I L P H) := by
  refine z_hstart (by decide +kernel) (Nat.le_of_ble_eq_true rfl) fun p e s m below meth c ls M hP hS hl hr hlocks hN htab => ?_
  have M : zM p s m c cL_island RL 5 base D cA := M
  have hw : zH base D cA s s.heap [] ad ty I L P := ⟨hP, hS⟩
  obtain ⟨hx, hb, -⟩ := id M
  have hl : lv_has ls 5 [(0, .ref (ad 0)), (1, .int p0), (2, .int p1), (3, .ref (ad 160))] := hl
  refine lv_aload_n hx hb dL_island_0 rfl (lv_at hl 3 rfl) ?_
  refine lv_iconst (v := 0) hx hb dL_island_1 (by decide) ?_
  refine lv_aload_n hx hb dL_island_2 rfl (lv_at hl 0 rfl) ?_
  refine lv_iload_n hx hb dL_island_3 rfl (lv_at hl 1 rfl) ?_
  refine lv_iload_n hx hb dL_island_4 rfl (lv_at hl 2 rfl) ?_
  refine z_xci (z_xrunV (As := [.int p0, .int p1]) (rest := [.int 0, .ref (ad 160)]) M hw ht0 zc_L_7 zn_L_7 hM hw.1 rfl rfl ⟨Nat.le_of_ble_eq_true rfl, Nat.le_of_ble_eq_true rfl⟩ ⟨Nat.le_of_ble_eq_true rfl, Nat.le_of_ble_eq_true rfl⟩ hl.1 (Nat.le_of_ble_eq_true rfl) dL_island_5) hw.2 (fun hne ce q H locs hw0 hS hq hv hcl => ?_) (fun h0 H locs hw1 hS => ?_)
  · skip
    have hw : zH base D cA s H locs ad ty I L P := ⟨hw0, hS⟩
    rcases hoc with h | h | h
    · exact absurd h hne
    · skip
      refine z_catch M hN htab h (Or.inr (Or.inl rfl)) [] ⟨0, 10, 13, 13⟩ [⟨0, 10, 17, 15⟩] rfl (fun z hz => absurd hz List.not_mem_nil) (by decide) rfl hq hv hcl ?_
      show W p l e _ s m _ below meth c H locs _ _ _ (F0 m 13 ls [.ref q])
      refine lv_astore (lv' := [(4, .ref q), (0, .ref (ad 0)), (1, .int p0), (2, .int p1), (3, .ref (ad 160))]) hx hb dL_island_13 hl (by decide) rfl (fun ls hl => ?_)
      refine lv_iconst (v := 1) hx hb dL_island_15 (by decide) ?_
      exact z_iret hx hb hr (by rw [h]; rfl) rfl hw.2 ⟨ad, fun _ _ _ => rfl, (by rw [if_neg hne]; exact hw.1)⟩ (Nat.le_of_ble_eq_true rfl) (Nat.le_of_ble_eq_true rfl) dL_island_16 hlocks
    · skip
      refine z_catch M hN htab h (Or.inr (Or.inr rfl)) [⟨0, 10, 13, 13⟩] ⟨0, 10, 17, 15⟩ [] rfl (fun z hz => by rw [List.mem_singleton.mp hz]; exact ⟨by decide, 2, (Or.inr (Or.inl rfl)), by decide, rfl⟩) (by decide) rfl hq hv hcl ?_
      show W p l e _ s m _ below meth c H locs _ _ _ (F0 m 17 ls [.ref q])
      refine lv_astore (lv' := [(4, .ref q), (0, .ref (ad 0)), (1, .int p0), (2, .int p1), (3, .ref (ad 160))]) hx hb dL_island_17 hl (by decide) rfl (fun ls hl => ?_)
      refine lv_iconst (v := 2) hx hb dL_island_19 (by decide) ?_
      exact z_iret hx hb hr (by rw [h]; rfl) rfl hw.2 ⟨ad, fun _ _ _ => rfl, (by rw [if_neg hne]; exact hw.1)⟩ (Nat.le_of_ble_eq_true rfl) (Nat.le_of_ble_eq_true rfl) dL_island_20 hlocks
  · skip
    obtain ⟨ad2, hag, hw2⟩ := hW _ hw1
    have e0 : ad 0 = ad2 0 := (hag _ _ ht0).symm
    have e160 : ad 160 = ad2 160 := (hag _ _ ht160).symm
    rw [e0, e160] at hl
    have hw : zH base D cA s H locs ad2 ty2 I2 L2 P2 := ⟨hw2, hS⟩
    refine W.eq (g2 := F0 m 8 ls [.int r, .int 0, .ref (ad2 160)]) (by rw [e160]) ?_
    refine lv_i2l hx hb dL_island_8 rfl ?_
    refine z_lNast M hw ht2 rfl ⟨by decide, by decide⟩ dL_island_9 (fun H locs hw => ?_)
    refine lv_goto (tgt := 21) hx hb dL_island_10 (by decide) ?_
    refine lv_iconst (v := 0) hx hb dL_island_21 (by decide) ?_
    exact z_iret hx hb hr (by rw [h0]; rfl) rfl hw.2 ⟨ad2, hag, (by rw [if_pos h0]; exact hw.1)⟩ (Nat.le_of_ble_eq_true rfl) (Nat.le_of_ble_eq_true rfl) dL_island_22 hlocks
theorem zh_island : zCH 77 yL_island cL_island 5 [(0, 10, 13, 13), (0, 10, 17, 15)] 4 := ⟨tb 90 (by decide +kernel), tb 0 (by decide +kernel), ⟨tb 92 (by decide +kernel), rfl⟩, ⟨by decide +kernel, by decide +kernel⟩, by decide +kernel, tb 91 (by decide +kernel)⟩
set_option maxHeartbeats 4000000 in
set_option maxRecDepth 100000 in
theorem c_L_cable (l : Launch) (base : Nat) (D : va_G) (cA : Nat → ClassId) (ad : Nat → Nat) (ty : zTyp) (I : zIt) (L : zLt) (P : zPt) (n0 : Nat) (ht0 : ty 0 = some (6, n0)) (ht160 : ty 160 = some (9, 1)) {oc : Nat} {r : Int32} {W1 : Heap → Prop} {ty2 : zTyp} {I2 : zIt} {L2 : zLt} {P2 : zPt} (p0 : Int32) (p1 : Int32) (p2 : Int32) (p3 : Int32) (p4 : Int32) (hM : zXi l base D cA yX6_cable cX6_cable 6 .int 7 112 8 48 [.ref (ad 0), .int p0, .int p1, .int p2, .int p3, .int p4] (zW base D cA ad ty I L P) oc r W1) (hoc : oc = 0 ∨ oc = 1 ∨ oc = 2 ∨ oc = 3) (hW : ∀ H, W1 H → ∃ ad2, (∀ κ t, ty κ = some t → ad2 κ = ad κ) ∧ zW base D cA ad2 ty2 I2 L2 P2 H) (ht2 : ty2 160 = some (9, 1)) : zMh l base D cA yL_cable cL_cable 8 [(0, 16, 19, 21), (0, 16, 23, 13), (0, 16, 27, 15)] 8 137 8 48 [.ref (ad 0), .int p0, .int p1, .int p2, .int p3, .int p4, .ref (ad 160)] (zW base D cA ad ty I L P) (if oc = 1 then 1 else (if oc = 2 then 2 else (if oc = 3 then 3 else 0))) (fun H => ∃ ad2, (∀ κ t, ty κ = some t → ad2 κ = ad κ) ∧ if oc = 0 then zW base D cA ad2 ty2 I2 (zu L2 160 0 r.toInt64) P2 H else zW base D cA ad2 ty I L P H) := by
  refine z_hstart (by decide +kernel) (Nat.le_of_ble_eq_true rfl) fun p e s m below meth c ls M hP hS hl hr hlocks hN htab => ?_
  have M : zM p s m c cL_cable RL 8 base D cA := M
  have hw : zH base D cA s s.heap [] ad ty I L P := ⟨hP, hS⟩
  obtain ⟨hx, hb, -⟩ := id M
  have hl : lv_has ls 8 [(0, .ref (ad 0)), (1, .int p0), (2, .int p1), (3, .int p2), (4, .int p3), (5, .int p4), (6, .ref (ad 160))] := hl
  refine lv_aload hx hb dL_cable_0 (lv_at hl 6 rfl) ?_
  refine lv_iconst (v := 0) hx hb dL_cable_2 (by decide) ?_
  refine lv_aload_n hx hb dL_cable_3 rfl (lv_at hl 0 rfl) ?_
  refine lv_iload_n hx hb dL_cable_4 rfl (lv_at hl 1 rfl) ?_
  refine lv_iload_n hx hb dL_cable_5 rfl (lv_at hl 2 rfl) ?_
  refine lv_iload_n hx hb dL_cable_6 rfl (lv_at hl 3 rfl) ?_
  refine lv_iload hx hb dL_cable_7 (lv_at hl 4 rfl) ?_
  refine lv_iload hx hb dL_cable_9 (lv_at hl 5 rfl) ?_
  refine z_xci (z_xrunV (As := [.int p0, .int p1, .int p2, .int p3, .int p4]) (rest := [.int 0, .ref (ad 160)]) M hw ht0 zc_L_17 zn_L_17 hM hw.1 rfl rfl ⟨Nat.le_of_ble_eq_true rfl, Nat.le_of_ble_eq_true rfl⟩ ⟨Nat.le_of_ble_eq_true rfl, Nat.le_of_ble_eq_true rfl⟩ hl.1 (Nat.le_of_ble_eq_true rfl) dL_cable_11) hw.2 (fun hne ce q H locs hw0 hS hq hv hcl => ?_) (fun h0 H locs hw1 hS => ?_)
  · skip
    have hw : zH base D cA s H locs ad ty I L P := ⟨hw0, hS⟩
    rcases hoc with h | h | h | h
    · exact absurd h hne
    · skip
      refine z_catch M hN htab h (Or.inl rfl) [] ⟨0, 16, 19, 21⟩ [⟨0, 16, 23, 13⟩, ⟨0, 16, 27, 15⟩] rfl (fun z hz => absurd hz List.not_mem_nil) (by decide) rfl hq hv hcl ?_
      show W p l e _ s m _ below meth c H locs _ _ _ (F0 m 19 ls [.ref q])
      refine lv_astore (lv' := [(7, .ref q), (0, .ref (ad 0)), (1, .int p0), (2, .int p1), (3, .int p2), (4, .int p3), (5, .int p4), (6, .ref (ad 160))]) hx hb dL_cable_19 hl (by decide) rfl (fun ls hl => ?_)
      refine lv_iconst (v := 1) hx hb dL_cable_21 (by decide) ?_
      exact z_iret hx hb hr (by rw [h]; rfl) rfl hw.2 ⟨ad, fun _ _ _ => rfl, (by rw [if_neg hne]; exact hw.1)⟩ (Nat.le_of_ble_eq_true rfl) (Nat.le_of_ble_eq_true rfl) dL_cable_22 hlocks
    · skip
      refine z_catch M hN htab h (Or.inr (Or.inl rfl)) [⟨0, 16, 19, 21⟩] ⟨0, 16, 23, 13⟩ [⟨0, 16, 27, 15⟩] rfl (fun z hz => by rw [List.mem_singleton.mp hz]; exact ⟨by decide, 1, (Or.inl rfl), by decide, rfl⟩) (by decide) rfl hq hv hcl ?_
      show W p l e _ s m _ below meth c H locs _ _ _ (F0 m 23 ls [.ref q])
      refine lv_astore (lv' := [(7, .ref q), (0, .ref (ad 0)), (1, .int p0), (2, .int p1), (3, .int p2), (4, .int p3), (5, .int p4), (6, .ref (ad 160))]) hx hb dL_cable_23 hl (by decide) rfl (fun ls hl => ?_)
      refine lv_iconst (v := 2) hx hb dL_cable_25 (by decide) ?_
      exact z_iret hx hb hr (by rw [h]; rfl) rfl hw.2 ⟨ad, fun _ _ _ => rfl, (by rw [if_neg hne]; exact hw.1)⟩ (Nat.le_of_ble_eq_true rfl) (Nat.le_of_ble_eq_true rfl) dL_cable_26 hlocks
    · skip
      refine z_catch M hN htab h (Or.inr (Or.inr rfl)) [⟨0, 16, 19, 21⟩, ⟨0, 16, 23, 13⟩] ⟨0, 16, 27, 15⟩ [] rfl (fun z hz => by rcases List.mem_cons.mp hz with e | hz; (rw [e]; exact ⟨by decide, 1, (Or.inl rfl), by decide, rfl⟩); (rw [List.mem_singleton.mp hz]; exact ⟨by decide, 2, (Or.inr (Or.inl rfl)), by decide, rfl⟩)) (by decide) rfl hq hv hcl ?_
      show W p l e _ s m _ below meth c H locs _ _ _ (F0 m 27 ls [.ref q])
      refine lv_astore (lv' := [(7, .ref q), (0, .ref (ad 0)), (1, .int p0), (2, .int p1), (3, .int p2), (4, .int p3), (5, .int p4), (6, .ref (ad 160))]) hx hb dL_cable_27 hl (by decide) rfl (fun ls hl => ?_)
      refine lv_iconst (v := 3) hx hb dL_cable_29 (by decide) ?_
      exact z_iret hx hb hr (by rw [h]; rfl) rfl hw.2 ⟨ad, fun _ _ _ => rfl, (by rw [if_neg hne]; exact hw.1)⟩ (Nat.le_of_ble_eq_true rfl) (Nat.le_of_ble_eq_true rfl) dL_cable_30 hlocks
  · skip
    obtain ⟨ad2, hag, hw2⟩ := hW _ hw1
    have e0 : ad 0 = ad2 0 := (hag _ _ ht0).symm
    have e160 : ad 160 = ad2 160 := (hag _ _ ht160).symm
    rw [e0, e160] at hl
    have hw : zH base D cA s H locs ad2 ty2 I2 L2 P2 := ⟨hw2, hS⟩
    refine W.eq (g2 := F0 m 14 ls [.int r, .int 0, .ref (ad2 160)]) (by rw [e160]) ?_
    refine lv_i2l hx hb dL_cable_14 rfl ?_
    refine z_lNast M hw ht2 rfl ⟨by decide, by decide⟩ dL_cable_15 (fun H locs hw => ?_)
    refine lv_goto (tgt := 31) hx hb dL_cable_16 (by decide) ?_
    refine lv_iconst (v := 0) hx hb dL_cable_31 (by decide) ?_
    exact z_iret hx hb hr (by rw [h0]; rfl) rfl hw.2 ⟨ad2, hag, (by rw [if_pos h0]; exact hw.1)⟩ (Nat.le_of_ble_eq_true rfl) (Nat.le_of_ble_eq_true rfl) dL_cable_32 hlocks
theorem zh_cable : zCH 87 yL_cable cL_cable 8 [(0, 16, 19, 21), (0, 16, 23, 13), (0, 16, 27, 15)] 7 := ⟨tb 203 (by decide +kernel), tb 0 (by decide +kernel), ⟨tb 205 (by decide +kernel), rfl⟩, ⟨by decide +kernel, by decide +kernel⟩, by decide +kernel, tb 204 (by decide +kernel)⟩
set_option maxHeartbeats 4000000 in
set_option maxRecDepth 100000 in
theorem c_L_price (l : Launch) (base : Nat) (D : va_G) (cA : Nat → ClassId) (ad : Nat → Nat) (ty : zTyp) (I : zIt) (L : zLt) (P : zPt) (n0 : Nat) (ht0 : ty 0 = some (6, n0)) (ht160 : ty 160 = some (9, 1)) {oc : Nat} {r : Int32} {W1 : Heap → Prop} {ty2 : zTyp} {I2 : zIt} {L2 : zLt} {P2 : zPt} (p0 : Int32) (p1 : Int32) (hM : zXi l base D cA yX6_price cX6_price 4 .int 7 112 2 12 [.ref (ad 0), .int p0, .int p1] (zW base D cA ad ty I L P) oc r W1) (hoc : oc = 0 ∨ oc = 1 ∨ oc = 2) (hW : ∀ H, W1 H → ∃ ad2, (∀ κ t, ty κ = some t → ad2 κ = ad κ) ∧ zW base D cA ad2 ty2 I2 L2 P2 H) (ht2 : ty2 160 = some (9, 1)) : zMh l base D cA yL_price cL_price 5 [(0, 10, 13, 21), (0, 10, 17, 13)] 8 135 2 12 [.ref (ad 0), .int p0, .int p1, .ref (ad 160)] (zW base D cA ad ty I L P) (if oc = 1 then 1 else (if oc = 2 then 2 else 0)) (fun H => ∃ ad2, (∀ κ t, ty κ = some t → ad2 κ = ad κ) ∧ if oc = 0 then zW base D cA ad2 ty2 I2 (zu L2 160 0 r.toInt64) P2 H else zW base D cA ad2 ty I L P H) := by
  refine z_hstart (by decide +kernel) (Nat.le_of_ble_eq_true rfl) fun p e s m below meth c ls M hP hS hl hr hlocks hN htab => ?_
  have M : zM p s m c cL_price RL 5 base D cA := M
  have hw : zH base D cA s s.heap [] ad ty I L P := ⟨hP, hS⟩
  obtain ⟨hx, hb, -⟩ := id M
  have hl : lv_has ls 5 [(0, .ref (ad 0)), (1, .int p0), (2, .int p1), (3, .ref (ad 160))] := hl
  refine lv_aload_n hx hb dL_price_0 rfl (lv_at hl 3 rfl) ?_
  refine lv_iconst (v := 0) hx hb dL_price_1 (by decide) ?_
  refine lv_aload_n hx hb dL_price_2 rfl (lv_at hl 0 rfl) ?_
  refine lv_iload_n hx hb dL_price_3 rfl (lv_at hl 1 rfl) ?_
  refine lv_iload_n hx hb dL_price_4 rfl (lv_at hl 2 rfl) ?_
  refine z_xci (z_xrunV (As := [.int p0, .int p1]) (rest := [.int 0, .ref (ad 160)]) M hw ht0 zc_L_23 zn_L_23 hM hw.1 rfl rfl ⟨Nat.le_of_ble_eq_true rfl, Nat.le_of_ble_eq_true rfl⟩ ⟨Nat.le_of_ble_eq_true rfl, Nat.le_of_ble_eq_true rfl⟩ hl.1 (Nat.le_of_ble_eq_true rfl) dL_price_5) hw.2 (fun hne ce q H locs hw0 hS hq hv hcl => ?_) (fun h0 H locs hw1 hS => ?_)
  · skip
    have hw : zH base D cA s H locs ad ty I L P := ⟨hw0, hS⟩
    rcases hoc with h | h | h
    · exact absurd h hne
    · skip
      refine z_catch M hN htab h (Or.inl rfl) [] ⟨0, 10, 13, 21⟩ [⟨0, 10, 17, 13⟩] rfl (fun z hz => absurd hz List.not_mem_nil) (by decide) rfl hq hv hcl ?_
      show W p l e _ s m _ below meth c H locs _ _ _ (F0 m 13 ls [.ref q])
      refine lv_astore (lv' := [(4, .ref q), (0, .ref (ad 0)), (1, .int p0), (2, .int p1), (3, .ref (ad 160))]) hx hb dL_price_13 hl (by decide) rfl (fun ls hl => ?_)
      refine lv_iconst (v := 1) hx hb dL_price_15 (by decide) ?_
      exact z_iret hx hb hr (by rw [h]; rfl) rfl hw.2 ⟨ad, fun _ _ _ => rfl, (by rw [if_neg hne]; exact hw.1)⟩ (Nat.le_of_ble_eq_true rfl) (Nat.le_of_ble_eq_true rfl) dL_price_16 hlocks
    · skip
      refine z_catch M hN htab h (Or.inr (Or.inl rfl)) [⟨0, 10, 13, 21⟩] ⟨0, 10, 17, 13⟩ [] rfl (fun z hz => by rw [List.mem_singleton.mp hz]; exact ⟨by decide, 1, (Or.inl rfl), by decide, rfl⟩) (by decide) rfl hq hv hcl ?_
      show W p l e _ s m _ below meth c H locs _ _ _ (F0 m 17 ls [.ref q])
      refine lv_astore (lv' := [(4, .ref q), (0, .ref (ad 0)), (1, .int p0), (2, .int p1), (3, .ref (ad 160))]) hx hb dL_price_17 hl (by decide) rfl (fun ls hl => ?_)
      refine lv_iconst (v := 2) hx hb dL_price_19 (by decide) ?_
      exact z_iret hx hb hr (by rw [h]; rfl) rfl hw.2 ⟨ad, fun _ _ _ => rfl, (by rw [if_neg hne]; exact hw.1)⟩ (Nat.le_of_ble_eq_true rfl) (Nat.le_of_ble_eq_true rfl) dL_price_20 hlocks
  · skip
    obtain ⟨ad2, hag, hw2⟩ := hW _ hw1
    have e0 : ad 0 = ad2 0 := (hag _ _ ht0).symm
    have e160 : ad 160 = ad2 160 := (hag _ _ ht160).symm
    rw [e0, e160] at hl
    have hw : zH base D cA s H locs ad2 ty2 I2 L2 P2 := ⟨hw2, hS⟩
    refine W.eq (g2 := F0 m 8 ls [.int r, .int 0, .ref (ad2 160)]) (by rw [e160]) ?_
    refine lv_i2l hx hb dL_price_8 rfl ?_
    refine z_lNast M hw ht2 rfl ⟨by decide, by decide⟩ dL_price_9 (fun H locs hw => ?_)
    refine lv_goto (tgt := 21) hx hb dL_price_10 (by decide) ?_
    refine lv_iconst (v := 0) hx hb dL_price_21 (by decide) ?_
    exact z_iret hx hb hr (by rw [h0]; rfl) rfl hw.2 ⟨ad2, hag, (by rw [if_pos h0]; exact hw.1)⟩ (Nat.le_of_ble_eq_true rfl) (Nat.le_of_ble_eq_true rfl) dL_price_22 hlocks
theorem zh_price : zCH 91 yL_price cL_price 5 [(0, 10, 13, 21), (0, 10, 17, 13)] 4 := ⟨tb 273 (by decide +kernel), tb 0 (by decide +kernel), ⟨tb 275 (by decide +kernel), rfl⟩, ⟨by decide +kernel, by decide +kernel⟩, by decide +kernel, tb 274 (by decide +kernel)⟩
set_option maxHeartbeats 4000000 in
set_option maxRecDepth 100000 in
theorem c_L_fault (l : Launch) (base : Nat) (D : va_G) (cA : Nat → ClassId) (ad : Nat → Nat) (ty : zTyp) (I : zIt) (L : zLt) (P : zPt) (n0 : Nat) (ht0 : ty 0 = some (6, n0)) (ht160 : ty 160 = some (9, 1)) {oc : Nat} {r : Int32} {W1 : Heap → Prop} {ty2 : zTyp} {I2 : zIt} {L2 : zLt} {P2 : zPt} (p0 : Int32) (p1 : Int32) (hM : zXi l base D cA yX6_fault cX6_fault 3 .int 8 133 3 18 [.ref (ad 0), .int p0, .int p1] (zW base D cA ad ty I L P) oc r W1) (hoc : oc = 0 ∨ oc = 1 ∨ oc = 3) (hW : ∀ H, W1 H → ∃ ad2, (∀ κ t, ty κ = some t → ad2 κ = ad κ) ∧ zW base D cA ad2 ty2 I2 L2 P2 H) (ht2 : ty2 160 = some (9, 1)) : zMh l base D cA yL_fault cL_fault 5 [(0, 10, 13, 21), (0, 10, 17, 15)] 9 155 3 18 [.ref (ad 0), .int p0, .int p1, .ref (ad 160)] (zW base D cA ad ty I L P) (if oc = 1 then 1 else (if oc = 3 then 2 else 0)) (fun H => ∃ ad2, (∀ κ t, ty κ = some t → ad2 κ = ad κ) ∧ if oc = 0 then zW base D cA ad2 ty2 I2 (zu L2 160 0 r.toInt64) P2 H else zW base D cA ad2 ty I L P H) := by
  refine z_hstart (by decide +kernel) (Nat.le_of_ble_eq_true rfl) fun p e s m below meth c ls M hP hS hl hr hlocks hN htab => ?_
  have M : zM p s m c cL_fault RL 5 base D cA := M
  have hw : zH base D cA s s.heap [] ad ty I L P := ⟨hP, hS⟩
  obtain ⟨hx, hb, -⟩ := id M
  have hl : lv_has ls 5 [(0, .ref (ad 0)), (1, .int p0), (2, .int p1), (3, .ref (ad 160))] := hl
  refine lv_aload_n hx hb dL_fault_0 rfl (lv_at hl 3 rfl) ?_
  refine lv_iconst (v := 0) hx hb dL_fault_1 (by decide) ?_
  refine lv_aload_n hx hb dL_fault_2 rfl (lv_at hl 0 rfl) ?_
  refine lv_iload_n hx hb dL_fault_3 rfl (lv_at hl 1 rfl) ?_
  refine lv_iload_n hx hb dL_fault_4 rfl (lv_at hl 2 rfl) ?_
  refine z_xci (z_xrunV (As := [.int p0, .int p1]) (rest := [.int 0, .ref (ad 160)]) M hw ht0 zc_L_26 zn_L_26 hM hw.1 rfl rfl ⟨Nat.le_of_ble_eq_true rfl, Nat.le_of_ble_eq_true rfl⟩ ⟨Nat.le_of_ble_eq_true rfl, Nat.le_of_ble_eq_true rfl⟩ hl.1 (Nat.le_of_ble_eq_true rfl) dL_fault_5) hw.2 (fun hne ce q H locs hw0 hS hq hv hcl => ?_) (fun h0 H locs hw1 hS => ?_)
  · skip
    have hw : zH base D cA s H locs ad ty I L P := ⟨hw0, hS⟩
    rcases hoc with h | h | h
    · exact absurd h hne
    · skip
      refine z_catch M hN htab h (Or.inl rfl) [] ⟨0, 10, 13, 21⟩ [⟨0, 10, 17, 15⟩] rfl (fun z hz => absurd hz List.not_mem_nil) (by decide) rfl hq hv hcl ?_
      show W p l e _ s m _ below meth c H locs _ _ _ (F0 m 13 ls [.ref q])
      refine lv_astore (lv' := [(4, .ref q), (0, .ref (ad 0)), (1, .int p0), (2, .int p1), (3, .ref (ad 160))]) hx hb dL_fault_13 hl (by decide) rfl (fun ls hl => ?_)
      refine lv_iconst (v := 1) hx hb dL_fault_15 (by decide) ?_
      exact z_iret hx hb hr (by rw [h]; rfl) rfl hw.2 ⟨ad, fun _ _ _ => rfl, (by rw [if_neg hne]; exact hw.1)⟩ (Nat.le_of_ble_eq_true rfl) (Nat.le_of_ble_eq_true rfl) dL_fault_16 hlocks
    · skip
      refine z_catch M hN htab h (Or.inr (Or.inr rfl)) [⟨0, 10, 13, 21⟩] ⟨0, 10, 17, 15⟩ [] rfl (fun z hz => by rw [List.mem_singleton.mp hz]; exact ⟨by decide, 1, (Or.inl rfl), by decide, rfl⟩) (by decide) rfl hq hv hcl ?_
      show W p l e _ s m _ below meth c H locs _ _ _ (F0 m 17 ls [.ref q])
      refine lv_astore (lv' := [(4, .ref q), (0, .ref (ad 0)), (1, .int p0), (2, .int p1), (3, .ref (ad 160))]) hx hb dL_fault_17 hl (by decide) rfl (fun ls hl => ?_)
      refine lv_iconst (v := 2) hx hb dL_fault_19 (by decide) ?_
      exact z_iret hx hb hr (by rw [h]; rfl) rfl hw.2 ⟨ad, fun _ _ _ => rfl, (by rw [if_neg hne]; exact hw.1)⟩ (Nat.le_of_ble_eq_true rfl) (Nat.le_of_ble_eq_true rfl) dL_fault_20 hlocks
  · skip
    obtain ⟨ad2, hag, hw2⟩ := hW _ hw1
    have e0 : ad 0 = ad2 0 := (hag _ _ ht0).symm
    have e160 : ad 160 = ad2 160 := (hag _ _ ht160).symm
    rw [e0, e160] at hl
    have hw : zH base D cA s H locs ad2 ty2 I2 L2 P2 := ⟨hw2, hS⟩
    refine W.eq (g2 := F0 m 8 ls [.int r, .int 0, .ref (ad2 160)]) (by rw [e160]) ?_
    refine lv_i2l hx hb dL_fault_8 rfl ?_
    refine z_lNast M hw ht2 rfl ⟨by decide, by decide⟩ dL_fault_9 (fun H locs hw => ?_)
    refine lv_goto (tgt := 21) hx hb dL_fault_10 (by decide) ?_
    refine lv_iconst (v := 0) hx hb dL_fault_21 (by decide) ?_
    exact z_iret hx hb hr (by rw [h0]; rfl) rfl hw.2 ⟨ad2, hag, (by rw [if_pos h0]; exact hw.1)⟩ (Nat.le_of_ble_eq_true rfl) (Nat.le_of_ble_eq_true rfl) dL_fault_22 hlocks
theorem zh_fault : zCH 94 yL_fault cL_fault 5 [(0, 10, 13, 21), (0, 10, 17, 15)] 4 := ⟨tb 280 (by decide +kernel), tb 0 (by decide +kernel), ⟨tb 282 (by decide +kernel), rfl⟩, ⟨by decide +kernel, by decide +kernel⟩, by decide +kernel, tb 281 (by decide +kernel)⟩
set_option maxHeartbeats 4000000 in
set_option maxRecDepth 100000 in
theorem c_L_ship (l : Launch) (base : Nat) (D : va_G) (cA : Nat → ClassId) (ad : Nat → Nat) (ty : zTyp) (I : zIt) (L : zLt) (P : zPt) (n0 : Nat) (ht0 : ty 0 = some (6, n0)) (ht160 : ty 160 = some (9, 1)) {oc : Nat} {r : Int32} {W1 : Heap → Prop} {ty2 : zTyp} {I2 : zIt} {L2 : zLt} {P2 : zPt} (p0 : Int32) (p1 : Int32) (hM : zXi l base D cA yX6_ship cX6_ship 3 .int 7 112 4 26 [.ref (ad 0), .int p0, .int p1] (zW base D cA ad ty I L P) oc r W1) (hoc : oc = 0 ∨ oc = 1 ∨ oc = 2 ∨ oc = 3) (hW : ∀ H, W1 H → ∃ ad2, (∀ κ t, ty κ = some t → ad2 κ = ad κ) ∧ zW base D cA ad2 ty2 I2 L2 P2 H) (ht2 : ty2 160 = some (9, 1)) : zMh l base D cA yL_ship cL_ship 5 [(0, 10, 13, 21), (0, 10, 17, 13), (0, 10, 21, 15)] 8 134 4 26 [.ref (ad 0), .int p0, .int p1, .ref (ad 160)] (zW base D cA ad ty I L P) (if oc = 1 then 1 else (if oc = 2 then 2 else (if oc = 3 then 3 else 0))) (fun H => ∃ ad2, (∀ κ t, ty κ = some t → ad2 κ = ad κ) ∧ if oc = 0 then zW base D cA ad2 ty2 I2 (zu L2 160 0 r.toInt64) P2 H else zW base D cA ad2 ty I L P H) := by
  refine z_hstart (by decide +kernel) (Nat.le_of_ble_eq_true rfl) fun p e s m below meth c ls M hP hS hl hr hlocks hN htab => ?_
  have M : zM p s m c cL_ship RL 5 base D cA := M
  have hw : zH base D cA s s.heap [] ad ty I L P := ⟨hP, hS⟩
  obtain ⟨hx, hb, -⟩ := id M
  have hl : lv_has ls 5 [(0, .ref (ad 0)), (1, .int p0), (2, .int p1), (3, .ref (ad 160))] := hl
  refine lv_aload_n hx hb dL_ship_0 rfl (lv_at hl 3 rfl) ?_
  refine lv_iconst (v := 0) hx hb dL_ship_1 (by decide) ?_
  refine lv_aload_n hx hb dL_ship_2 rfl (lv_at hl 0 rfl) ?_
  refine lv_iload_n hx hb dL_ship_3 rfl (lv_at hl 1 rfl) ?_
  refine lv_iload_n hx hb dL_ship_4 rfl (lv_at hl 2 rfl) ?_
  refine z_xci (z_xrunV (As := [.int p0, .int p1]) (rest := [.int 0, .ref (ad 160)]) M hw ht0 zc_L_29 zn_L_29 hM hw.1 rfl rfl ⟨Nat.le_of_ble_eq_true rfl, Nat.le_of_ble_eq_true rfl⟩ ⟨Nat.le_of_ble_eq_true rfl, Nat.le_of_ble_eq_true rfl⟩ hl.1 (Nat.le_of_ble_eq_true rfl) dL_ship_5) hw.2 (fun hne ce q H locs hw0 hS hq hv hcl => ?_) (fun h0 H locs hw1 hS => ?_)
  · skip
    have hw : zH base D cA s H locs ad ty I L P := ⟨hw0, hS⟩
    rcases hoc with h | h | h | h
    · exact absurd h hne
    · skip
      refine z_catch M hN htab h (Or.inl rfl) [] ⟨0, 10, 13, 21⟩ [⟨0, 10, 17, 13⟩, ⟨0, 10, 21, 15⟩] rfl (fun z hz => absurd hz List.not_mem_nil) (by decide) rfl hq hv hcl ?_
      show W p l e _ s m _ below meth c H locs _ _ _ (F0 m 13 ls [.ref q])
      refine lv_astore (lv' := [(4, .ref q), (0, .ref (ad 0)), (1, .int p0), (2, .int p1), (3, .ref (ad 160))]) hx hb dL_ship_13 hl (by decide) rfl (fun ls hl => ?_)
      refine lv_iconst (v := 1) hx hb dL_ship_15 (by decide) ?_
      exact z_iret hx hb hr (by rw [h]; rfl) rfl hw.2 ⟨ad, fun _ _ _ => rfl, (by rw [if_neg hne]; exact hw.1)⟩ (Nat.le_of_ble_eq_true rfl) (Nat.le_of_ble_eq_true rfl) dL_ship_16 hlocks
    · skip
      refine z_catch M hN htab h (Or.inr (Or.inl rfl)) [⟨0, 10, 13, 21⟩] ⟨0, 10, 17, 13⟩ [⟨0, 10, 21, 15⟩] rfl (fun z hz => by rw [List.mem_singleton.mp hz]; exact ⟨by decide, 1, (Or.inl rfl), by decide, rfl⟩) (by decide) rfl hq hv hcl ?_
      show W p l e _ s m _ below meth c H locs _ _ _ (F0 m 17 ls [.ref q])
      refine lv_astore (lv' := [(4, .ref q), (0, .ref (ad 0)), (1, .int p0), (2, .int p1), (3, .ref (ad 160))]) hx hb dL_ship_17 hl (by decide) rfl (fun ls hl => ?_)
      refine lv_iconst (v := 2) hx hb dL_ship_19 (by decide) ?_
      exact z_iret hx hb hr (by rw [h]; rfl) rfl hw.2 ⟨ad, fun _ _ _ => rfl, (by rw [if_neg hne]; exact hw.1)⟩ (Nat.le_of_ble_eq_true rfl) (Nat.le_of_ble_eq_true rfl) dL_ship_20 hlocks
    · skip
      refine z_catch M hN htab h (Or.inr (Or.inr rfl)) [⟨0, 10, 13, 21⟩, ⟨0, 10, 17, 13⟩] ⟨0, 10, 21, 15⟩ [] rfl (fun z hz => by rcases List.mem_cons.mp hz with e | hz; (rw [e]; exact ⟨by decide, 1, (Or.inl rfl), by decide, rfl⟩); (rw [List.mem_singleton.mp hz]; exact ⟨by decide, 2, (Or.inr (Or.inl rfl)), by decide, rfl⟩)) (by decide) rfl hq hv hcl ?_
      show W p l e _ s m _ below meth c H locs _ _ _ (F0 m 21 ls [.ref q])
      refine lv_astore (lv' := [(4, .ref q), (0, .ref (ad 0)), (1, .int p0), (2, .int p1), (3, .ref (ad 160))]) hx hb dL_ship_21 hl (by decide) rfl (fun ls hl => ?_)
      refine lv_iconst (v := 3) hx hb dL_ship_23 (by decide) ?_
      exact z_iret hx hb hr (by rw [h]; rfl) rfl hw.2 ⟨ad, fun _ _ _ => rfl, (by rw [if_neg hne]; exact hw.1)⟩ (Nat.le_of_ble_eq_true rfl) (Nat.le_of_ble_eq_true rfl) dL_ship_24 hlocks
  · skip
    obtain ⟨ad2, hag, hw2⟩ := hW _ hw1
    have e0 : ad 0 = ad2 0 := (hag _ _ ht0).symm
    have e160 : ad 160 = ad2 160 := (hag _ _ ht160).symm
    rw [e0, e160] at hl
    have hw : zH base D cA s H locs ad2 ty2 I2 L2 P2 := ⟨hw2, hS⟩
    refine W.eq (g2 := F0 m 8 ls [.int r, .int 0, .ref (ad2 160)]) (by rw [e160]) ?_
    refine lv_i2l hx hb dL_ship_8 rfl ?_
    refine z_lNast M hw ht2 rfl ⟨by decide, by decide⟩ dL_ship_9 (fun H locs hw => ?_)
    refine lv_goto (tgt := 25) hx hb dL_ship_10 (by decide) ?_
    refine lv_iconst (v := 0) hx hb dL_ship_25 (by decide) ?_
    exact z_iret hx hb hr (by rw [h0]; rfl) rfl hw.2 ⟨ad2, hag, (by rw [if_pos h0]; exact hw.1)⟩ (Nat.le_of_ble_eq_true rfl) (Nat.le_of_ble_eq_true rfl) dL_ship_26 hlocks
theorem zh_ship : zCH 97 yL_ship cL_ship 5 [(0, 10, 13, 21), (0, 10, 17, 13), (0, 10, 21, 15)] 4 := ⟨tb 303 (by decide +kernel), tb 0 (by decide +kernel), ⟨tb 305 (by decide +kernel), rfl⟩, ⟨by decide +kernel, by decide +kernel⟩, by decide +kernel, tb 304 (by decide +kernel)⟩
set_option maxHeartbeats 4000000 in
set_option maxRecDepth 100000 in
theorem c_L_send (l : Launch) (base : Nat) (D : va_G) (cA : Nat → ClassId) (ad : Nat → Nat) (ty : zTyp) (I : zIt) (L : zLt) (P : zPt) (n0 : Nat) (ht0 : ty 0 = some (6, n0)) (ht160 : ty 160 = some (9, 1)) {oc : Nat} {r : Int32} {W1 : Heap → Prop} {ty2 : zTyp} {I2 : zIt} {L2 : zLt} {P2 : zPt} (p0 : Int32) (p1 : Int32) (p2 : Int32) (hM : zXi l base D cA yX6_send cX6_send 7 .int 8 133 5 30 [.ref (ad 0), .int p0, .int p1, .int p2] (zW base D cA ad ty I L P) oc r W1) (hoc : oc = 0 ∨ oc = 1 ∨ oc = 3) (hW : ∀ H, W1 H → ∃ ad2, (∀ κ t, ty κ = some t → ad2 κ = ad κ) ∧ zW base D cA ad2 ty2 I2 L2 P2 H) (ht2 : ty2 160 = some (9, 1)) : zMh l base D cA yL_send cL_send 6 [(0, 12, 15, 21), (0, 12, 19, 15)] 9 159 5 30 [.ref (ad 0), .int p0, .int p1, .int p2, .ref (ad 160)] (zW base D cA ad ty I L P) (if oc = 1 then 1 else (if oc = 3 then 2 else 0)) (fun H => ∃ ad2, (∀ κ t, ty κ = some t → ad2 κ = ad κ) ∧ if oc = 0 then zW base D cA ad2 ty2 I2 (zu L2 160 0 r.toInt64) P2 H else zW base D cA ad2 ty I L P H) := by
  refine z_hstart (by decide +kernel) (Nat.le_of_ble_eq_true rfl) fun p e s m below meth c ls M hP hS hl hr hlocks hN htab => ?_
  have M : zM p s m c cL_send RL 6 base D cA := M
  have hw : zH base D cA s s.heap [] ad ty I L P := ⟨hP, hS⟩
  obtain ⟨hx, hb, -⟩ := id M
  have hl : lv_has ls 6 [(0, .ref (ad 0)), (1, .int p0), (2, .int p1), (3, .int p2), (4, .ref (ad 160))] := hl
  refine lv_aload hx hb dL_send_0 (lv_at hl 4 rfl) ?_
  refine lv_iconst (v := 0) hx hb dL_send_2 (by decide) ?_
  refine lv_aload_n hx hb dL_send_3 rfl (lv_at hl 0 rfl) ?_
  refine lv_iload_n hx hb dL_send_4 rfl (lv_at hl 1 rfl) ?_
  refine lv_iload_n hx hb dL_send_5 rfl (lv_at hl 2 rfl) ?_
  refine lv_iload_n hx hb dL_send_6 rfl (lv_at hl 3 rfl) ?_
  refine z_xci (z_xrunV (As := [.int p0, .int p1, .int p2]) (rest := [.int 0, .ref (ad 160)]) M hw ht0 zc_L_32 zn_L_32 hM hw.1 rfl rfl ⟨Nat.le_of_ble_eq_true rfl, Nat.le_of_ble_eq_true rfl⟩ ⟨Nat.le_of_ble_eq_true rfl, Nat.le_of_ble_eq_true rfl⟩ hl.1 (Nat.le_of_ble_eq_true rfl) dL_send_7) hw.2 (fun hne ce q H locs hw0 hS hq hv hcl => ?_) (fun h0 H locs hw1 hS => ?_)
  · skip
    have hw : zH base D cA s H locs ad ty I L P := ⟨hw0, hS⟩
    rcases hoc with h | h | h
    · exact absurd h hne
    · skip
      refine z_catch M hN htab h (Or.inl rfl) [] ⟨0, 12, 15, 21⟩ [⟨0, 12, 19, 15⟩] rfl (fun z hz => absurd hz List.not_mem_nil) (by decide) rfl hq hv hcl ?_
      show W p l e _ s m _ below meth c H locs _ _ _ (F0 m 15 ls [.ref q])
      refine lv_astore (lv' := [(5, .ref q), (0, .ref (ad 0)), (1, .int p0), (2, .int p1), (3, .int p2), (4, .ref (ad 160))]) hx hb dL_send_15 hl (by decide) rfl (fun ls hl => ?_)
      refine lv_iconst (v := 1) hx hb dL_send_17 (by decide) ?_
      exact z_iret hx hb hr (by rw [h]; rfl) rfl hw.2 ⟨ad, fun _ _ _ => rfl, (by rw [if_neg hne]; exact hw.1)⟩ (Nat.le_of_ble_eq_true rfl) (Nat.le_of_ble_eq_true rfl) dL_send_18 hlocks
    · skip
      refine z_catch M hN htab h (Or.inr (Or.inr rfl)) [⟨0, 12, 15, 21⟩] ⟨0, 12, 19, 15⟩ [] rfl (fun z hz => by rw [List.mem_singleton.mp hz]; exact ⟨by decide, 1, (Or.inl rfl), by decide, rfl⟩) (by decide) rfl hq hv hcl ?_
      show W p l e _ s m _ below meth c H locs _ _ _ (F0 m 19 ls [.ref q])
      refine lv_astore (lv' := [(5, .ref q), (0, .ref (ad 0)), (1, .int p0), (2, .int p1), (3, .int p2), (4, .ref (ad 160))]) hx hb dL_send_19 hl (by decide) rfl (fun ls hl => ?_)
      refine lv_iconst (v := 2) hx hb dL_send_21 (by decide) ?_
      exact z_iret hx hb hr (by rw [h]; rfl) rfl hw.2 ⟨ad, fun _ _ _ => rfl, (by rw [if_neg hne]; exact hw.1)⟩ (Nat.le_of_ble_eq_true rfl) (Nat.le_of_ble_eq_true rfl) dL_send_22 hlocks
  · skip
    obtain ⟨ad2, hag, hw2⟩ := hW _ hw1
    have e0 : ad 0 = ad2 0 := (hag _ _ ht0).symm
    have e160 : ad 160 = ad2 160 := (hag _ _ ht160).symm
    rw [e0, e160] at hl
    have hw : zH base D cA s H locs ad2 ty2 I2 L2 P2 := ⟨hw2, hS⟩
    refine W.eq (g2 := F0 m 10 ls [.int r, .int 0, .ref (ad2 160)]) (by rw [e160]) ?_
    refine lv_i2l hx hb dL_send_10 rfl ?_
    refine z_lNast M hw ht2 rfl ⟨by decide, by decide⟩ dL_send_11 (fun H locs hw => ?_)
    refine lv_goto (tgt := 23) hx hb dL_send_12 (by decide) ?_
    refine lv_iconst (v := 0) hx hb dL_send_23 (by decide) ?_
    exact z_iret hx hb hr (by rw [h0]; rfl) rfl hw.2 ⟨ad2, hag, (by rw [if_pos h0]; exact hw.1)⟩ (Nat.le_of_ble_eq_true rfl) (Nat.le_of_ble_eq_true rfl) dL_send_24 hlocks
theorem zh_send : zCH 100 yL_send cL_send 6 [(0, 12, 15, 21), (0, 12, 19, 15)] 5 := ⟨tb 347 (by decide +kernel), tb 0 (by decide +kernel), ⟨tb 349 (by decide +kernel), rfl⟩, ⟨by decide +kernel, by decide +kernel⟩, by decide +kernel, tb 348 (by decide +kernel)⟩
set_option maxHeartbeats 4000000 in
set_option maxRecDepth 100000 in
theorem c_L_home (l : Launch) (base : Nat) (D : va_G) (cA : Nat → ClassId) (ad : Nat → Nat) (ty : zTyp) (I : zIt) (L : zLt) (P : zPt) (n0 : Nat) (ht0 : ty 0 = some (6, n0)) (ht160 : ty 160 = some (9, 1)) {oc : Nat} {r : Int32} {W1 : Heap → Prop} {ty2 : zTyp} {I2 : zIt} {L2 : zLt} {P2 : zPt} (p0 : Int32) (p1 : Int32) (hM : zXi l base D cA yX6_home cX6_home 3 .int 7 111 3 18 [.ref (ad 0), .int p0, .int p1] (zW base D cA ad ty I L P) oc r W1) (hoc : oc = 0 ∨ oc = 1 ∨ oc = 3) (hW : ∀ H, W1 H → ∃ ad2, (∀ κ t, ty κ = some t → ad2 κ = ad κ) ∧ zW base D cA ad2 ty2 I2 L2 P2 H) (ht2 : ty2 160 = some (9, 1)) : zMh l base D cA yL_home cL_home 5 [(0, 10, 13, 21), (0, 10, 17, 15)] 8 133 3 18 [.ref (ad 0), .int p0, .int p1, .ref (ad 160)] (zW base D cA ad ty I L P) (if oc = 1 then 1 else (if oc = 3 then 2 else 0)) (fun H => ∃ ad2, (∀ κ t, ty κ = some t → ad2 κ = ad κ) ∧ if oc = 0 then zW base D cA ad2 ty2 I2 (zu L2 160 0 r.toInt64) P2 H else zW base D cA ad2 ty I L P H) := by
  refine z_hstart (by decide +kernel) (Nat.le_of_ble_eq_true rfl) fun p e s m below meth c ls M hP hS hl hr hlocks hN htab => ?_
  have M : zM p s m c cL_home RL 5 base D cA := M
  have hw : zH base D cA s s.heap [] ad ty I L P := ⟨hP, hS⟩
  obtain ⟨hx, hb, -⟩ := id M
  have hl : lv_has ls 5 [(0, .ref (ad 0)), (1, .int p0), (2, .int p1), (3, .ref (ad 160))] := hl
  refine lv_aload_n hx hb dL_home_0 rfl (lv_at hl 3 rfl) ?_
  refine lv_iconst (v := 0) hx hb dL_home_1 (by decide) ?_
  refine lv_aload_n hx hb dL_home_2 rfl (lv_at hl 0 rfl) ?_
  refine lv_iload_n hx hb dL_home_3 rfl (lv_at hl 1 rfl) ?_
  refine lv_iload_n hx hb dL_home_4 rfl (lv_at hl 2 rfl) ?_
  refine z_xci (z_xrunV (As := [.int p0, .int p1]) (rest := [.int 0, .ref (ad 160)]) M hw ht0 zc_L_36 zn_L_36 hM hw.1 rfl rfl ⟨Nat.le_of_ble_eq_true rfl, Nat.le_of_ble_eq_true rfl⟩ ⟨Nat.le_of_ble_eq_true rfl, Nat.le_of_ble_eq_true rfl⟩ hl.1 (Nat.le_of_ble_eq_true rfl) dL_home_5) hw.2 (fun hne ce q H locs hw0 hS hq hv hcl => ?_) (fun h0 H locs hw1 hS => ?_)
  · skip
    have hw : zH base D cA s H locs ad ty I L P := ⟨hw0, hS⟩
    rcases hoc with h | h | h
    · exact absurd h hne
    · skip
      refine z_catch M hN htab h (Or.inl rfl) [] ⟨0, 10, 13, 21⟩ [⟨0, 10, 17, 15⟩] rfl (fun z hz => absurd hz List.not_mem_nil) (by decide) rfl hq hv hcl ?_
      show W p l e _ s m _ below meth c H locs _ _ _ (F0 m 13 ls [.ref q])
      refine lv_astore (lv' := [(4, .ref q), (0, .ref (ad 0)), (1, .int p0), (2, .int p1), (3, .ref (ad 160))]) hx hb dL_home_13 hl (by decide) rfl (fun ls hl => ?_)
      refine lv_iconst (v := 1) hx hb dL_home_15 (by decide) ?_
      exact z_iret hx hb hr (by rw [h]; rfl) rfl hw.2 ⟨ad, fun _ _ _ => rfl, (by rw [if_neg hne]; exact hw.1)⟩ (Nat.le_of_ble_eq_true rfl) (Nat.le_of_ble_eq_true rfl) dL_home_16 hlocks
    · skip
      refine z_catch M hN htab h (Or.inr (Or.inr rfl)) [⟨0, 10, 13, 21⟩] ⟨0, 10, 17, 15⟩ [] rfl (fun z hz => by rw [List.mem_singleton.mp hz]; exact ⟨by decide, 1, (Or.inl rfl), by decide, rfl⟩) (by decide) rfl hq hv hcl ?_
      show W p l e _ s m _ below meth c H locs _ _ _ (F0 m 17 ls [.ref q])
      refine lv_astore (lv' := [(4, .ref q), (0, .ref (ad 0)), (1, .int p0), (2, .int p1), (3, .ref (ad 160))]) hx hb dL_home_17 hl (by decide) rfl (fun ls hl => ?_)
      refine lv_iconst (v := 2) hx hb dL_home_19 (by decide) ?_
      exact z_iret hx hb hr (by rw [h]; rfl) rfl hw.2 ⟨ad, fun _ _ _ => rfl, (by rw [if_neg hne]; exact hw.1)⟩ (Nat.le_of_ble_eq_true rfl) (Nat.le_of_ble_eq_true rfl) dL_home_20 hlocks
  · skip
    obtain ⟨ad2, hag, hw2⟩ := hW _ hw1
    have e0 : ad 0 = ad2 0 := (hag _ _ ht0).symm
    have e160 : ad 160 = ad2 160 := (hag _ _ ht160).symm
    rw [e0, e160] at hl
    have hw : zH base D cA s H locs ad2 ty2 I2 L2 P2 := ⟨hw2, hS⟩
    refine W.eq (g2 := F0 m 8 ls [.int r, .int 0, .ref (ad2 160)]) (by rw [e160]) ?_
    refine lv_i2l hx hb dL_home_8 rfl ?_
    refine z_lNast M hw ht2 rfl ⟨by decide, by decide⟩ dL_home_9 (fun H locs hw => ?_)
    refine lv_goto (tgt := 21) hx hb dL_home_10 (by decide) ?_
    refine lv_iconst (v := 0) hx hb dL_home_21 (by decide) ?_
    exact z_iret hx hb hr (by rw [h0]; rfl) rfl hw.2 ⟨ad2, hag, (by rw [if_pos h0]; exact hw.1)⟩ (Nat.le_of_ble_eq_true rfl) (Nat.le_of_ble_eq_true rfl) dL_home_22 hlocks
theorem zh_home : zCH 104 yL_home cL_home 5 [(0, 10, 13, 21), (0, 10, 17, 15)] 4 := ⟨tb 390 (by decide +kernel), tb 0 (by decide +kernel), ⟨tb 392 (by decide +kernel), rfl⟩, ⟨by decide +kernel, by decide +kernel⟩, by decide +kernel, tb 391 (by decide +kernel)⟩
set_option maxHeartbeats 4000000 in
set_option maxRecDepth 100000 in
theorem c_L_trader (l : Launch) (base : Nat) (D : va_G) (cA : Nat → ClassId) (ad : Nat → Nat) (ty : zTyp) (I : zIt) (L : zLt) (P : zPt) (n0 : Nat) (ht0 : ty 0 = some (6, n0)) (ht160 : ty 160 = some (9, 1)) {oc : Nat} {r : Int32} {W1 : Heap → Prop} {ty2 : zTyp} {I2 : zIt} {L2 : zLt} {P2 : zPt} (p0 : Int32) (p1 : Int32) (p2 : Int32) (p3 : Int32) (p4 : Int32) (p5 : Int32) (hM : zXi l base D cA yX6_trader cX6_trader 7 .int 7 112 13 84 [.ref (ad 0), .int p0, .int p1, .int p2, .int p3, .int p4, .int p5] (zW base D cA ad ty I L P) oc r W1) (hoc : oc = 0 ∨ oc = 1 ∨ oc = 2 ∨ oc = 3) (hW : ∀ H, W1 H → ∃ ad2, (∀ κ t, ty κ = some t → ad2 κ = ad κ) ∧ zW base D cA ad2 ty2 I2 L2 P2 H) (ht2 : ty2 160 = some (9, 1)) : zMh l base D cA yL_trader cL_trader 9 [(0, 18, 21, 21), (0, 18, 25, 13), (0, 18, 29, 15)] 8 138 13 84 [.ref (ad 0), .int p0, .int p1, .int p2, .int p3, .int p4, .int p5, .ref (ad 160)] (zW base D cA ad ty I L P) (if oc = 1 then 1 else (if oc = 2 then 2 else (if oc = 3 then 3 else 0))) (fun H => ∃ ad2, (∀ κ t, ty κ = some t → ad2 κ = ad κ) ∧ if oc = 0 then zW base D cA ad2 ty2 I2 (zu L2 160 0 r.toInt64) P2 H else zW base D cA ad2 ty I L P H) := by
  refine z_hstart (by decide +kernel) (Nat.le_of_ble_eq_true rfl) fun p e s m below meth c ls M hP hS hl hr hlocks hN htab => ?_
  have M : zM p s m c cL_trader RL 9 base D cA := M
  have hw : zH base D cA s s.heap [] ad ty I L P := ⟨hP, hS⟩
  obtain ⟨hx, hb, -⟩ := id M
  have hl : lv_has ls 9 [(0, .ref (ad 0)), (1, .int p0), (2, .int p1), (3, .int p2), (4, .int p3), (5, .int p4), (6, .int p5), (7, .ref (ad 160))] := hl
  refine lv_aload hx hb dL_trader_0 (lv_at hl 7 rfl) ?_
  refine lv_iconst (v := 0) hx hb dL_trader_2 (by decide) ?_
  refine lv_aload_n hx hb dL_trader_3 rfl (lv_at hl 0 rfl) ?_
  refine lv_iload_n hx hb dL_trader_4 rfl (lv_at hl 1 rfl) ?_
  refine lv_iload_n hx hb dL_trader_5 rfl (lv_at hl 2 rfl) ?_
  refine lv_iload_n hx hb dL_trader_6 rfl (lv_at hl 3 rfl) ?_
  refine lv_iload hx hb dL_trader_7 (lv_at hl 4 rfl) ?_
  refine lv_iload hx hb dL_trader_9 (lv_at hl 5 rfl) ?_
  refine lv_iload hx hb dL_trader_11 (lv_at hl 6 rfl) ?_
  refine z_xci (z_xrunV (As := [.int p0, .int p1, .int p2, .int p3, .int p4, .int p5]) (rest := [.int 0, .ref (ad 160)]) M hw ht0 zc_L_39 zn_L_39 hM hw.1 rfl rfl ⟨Nat.le_of_ble_eq_true rfl, Nat.le_of_ble_eq_true rfl⟩ ⟨Nat.le_of_ble_eq_true rfl, Nat.le_of_ble_eq_true rfl⟩ hl.1 (Nat.le_of_ble_eq_true rfl) dL_trader_13) hw.2 (fun hne ce q H locs hw0 hS hq hv hcl => ?_) (fun h0 H locs hw1 hS => ?_)
  · skip
    have hw : zH base D cA s H locs ad ty I L P := ⟨hw0, hS⟩
    rcases hoc with h | h | h | h
    · exact absurd h hne
    · skip
      refine z_catch M hN htab h (Or.inl rfl) [] ⟨0, 18, 21, 21⟩ [⟨0, 18, 25, 13⟩, ⟨0, 18, 29, 15⟩] rfl (fun z hz => absurd hz List.not_mem_nil) (by decide) rfl hq hv hcl ?_
      show W p l e _ s m _ below meth c H locs _ _ _ (F0 m 21 ls [.ref q])
      refine lv_astore (lv' := [(8, .ref q), (0, .ref (ad 0)), (1, .int p0), (2, .int p1), (3, .int p2), (4, .int p3), (5, .int p4), (6, .int p5), (7, .ref (ad 160))]) hx hb dL_trader_21 hl (by decide) rfl (fun ls hl => ?_)
      refine lv_iconst (v := 1) hx hb dL_trader_23 (by decide) ?_
      exact z_iret hx hb hr (by rw [h]; rfl) rfl hw.2 ⟨ad, fun _ _ _ => rfl, (by rw [if_neg hne]; exact hw.1)⟩ (Nat.le_of_ble_eq_true rfl) (Nat.le_of_ble_eq_true rfl) dL_trader_24 hlocks
    · skip
      refine z_catch M hN htab h (Or.inr (Or.inl rfl)) [⟨0, 18, 21, 21⟩] ⟨0, 18, 25, 13⟩ [⟨0, 18, 29, 15⟩] rfl (fun z hz => by rw [List.mem_singleton.mp hz]; exact ⟨by decide, 1, (Or.inl rfl), by decide, rfl⟩) (by decide) rfl hq hv hcl ?_
      show W p l e _ s m _ below meth c H locs _ _ _ (F0 m 25 ls [.ref q])
      refine lv_astore (lv' := [(8, .ref q), (0, .ref (ad 0)), (1, .int p0), (2, .int p1), (3, .int p2), (4, .int p3), (5, .int p4), (6, .int p5), (7, .ref (ad 160))]) hx hb dL_trader_25 hl (by decide) rfl (fun ls hl => ?_)
      refine lv_iconst (v := 2) hx hb dL_trader_27 (by decide) ?_
      exact z_iret hx hb hr (by rw [h]; rfl) rfl hw.2 ⟨ad, fun _ _ _ => rfl, (by rw [if_neg hne]; exact hw.1)⟩ (Nat.le_of_ble_eq_true rfl) (Nat.le_of_ble_eq_true rfl) dL_trader_28 hlocks
    · skip
      refine z_catch M hN htab h (Or.inr (Or.inr rfl)) [⟨0, 18, 21, 21⟩, ⟨0, 18, 25, 13⟩] ⟨0, 18, 29, 15⟩ [] rfl (fun z hz => by rcases List.mem_cons.mp hz with e | hz; (rw [e]; exact ⟨by decide, 1, (Or.inl rfl), by decide, rfl⟩); (rw [List.mem_singleton.mp hz]; exact ⟨by decide, 2, (Or.inr (Or.inl rfl)), by decide, rfl⟩)) (by decide) rfl hq hv hcl ?_
      show W p l e _ s m _ below meth c H locs _ _ _ (F0 m 29 ls [.ref q])
      refine lv_astore (lv' := [(8, .ref q), (0, .ref (ad 0)), (1, .int p0), (2, .int p1), (3, .int p2), (4, .int p3), (5, .int p4), (6, .int p5), (7, .ref (ad 160))]) hx hb dL_trader_29 hl (by decide) rfl (fun ls hl => ?_)
      refine lv_iconst (v := 3) hx hb dL_trader_31 (by decide) ?_
      exact z_iret hx hb hr (by rw [h]; rfl) rfl hw.2 ⟨ad, fun _ _ _ => rfl, (by rw [if_neg hne]; exact hw.1)⟩ (Nat.le_of_ble_eq_true rfl) (Nat.le_of_ble_eq_true rfl) dL_trader_32 hlocks
  · skip
    obtain ⟨ad2, hag, hw2⟩ := hW _ hw1
    have e0 : ad 0 = ad2 0 := (hag _ _ ht0).symm
    have e160 : ad 160 = ad2 160 := (hag _ _ ht160).symm
    rw [e0, e160] at hl
    have hw : zH base D cA s H locs ad2 ty2 I2 L2 P2 := ⟨hw2, hS⟩
    refine W.eq (g2 := F0 m 16 ls [.int r, .int 0, .ref (ad2 160)]) (by rw [e160]) ?_
    refine lv_i2l hx hb dL_trader_16 rfl ?_
    refine z_lNast M hw ht2 rfl ⟨by decide, by decide⟩ dL_trader_17 (fun H locs hw => ?_)
    refine lv_goto (tgt := 33) hx hb dL_trader_18 (by decide) ?_
    refine lv_iconst (v := 0) hx hb dL_trader_33 (by decide) ?_
    exact z_iret hx hb hr (by rw [h0]; rfl) rfl hw.2 ⟨ad2, hag, (by rw [if_pos h0]; exact hw.1)⟩ (Nat.le_of_ble_eq_true rfl) (Nat.le_of_ble_eq_true rfl) dL_trader_34 hlocks
theorem zh_trader : zCH 107 yL_trader cL_trader 9 [(0, 18, 21, 21), (0, 18, 25, 13), (0, 18, 29, 15)] 8 := ⟨tb 397 (by decide +kernel), tb 0 (by decide +kernel), ⟨tb 399 (by decide +kernel), rfl⟩, ⟨by decide +kernel, by decide +kernel⟩, by decide +kernel, tb 398 (by decide +kernel)⟩
set_option maxHeartbeats 4000000 in
set_option maxRecDepth 100000 in
theorem c_L_pass (l : Launch) (base : Nat) (D : va_G) (cA : Nat → ClassId) (ad : Nat → Nat) (ty : zTyp) (I : zIt) (L : zLt) (P : zPt) (n0 : Nat) (ht0 : ty 0 = some (6, n0)) (ht160 : ty 160 = some (9, 1)) {oc : Nat} {r : Int32} {W1 : Heap → Prop} {ty2 : zTyp} {I2 : zIt} {L2 : zLt} {P2 : zPt} (p0 : Int32) (hM : zXi l base D cA yX6_pass cX6_pass 3 .int 7 138 1 6 [.ref (ad 0), .int p0] (zW base D cA ad ty I L P) oc r W1) (hoc : oc = 0 ∨ oc = 2) (hW : ∀ H, W1 H → ∃ ad2, (∀ κ t, ty κ = some t → ad2 κ = ad κ) ∧ zW base D cA ad2 ty2 I2 L2 P2 H) (ht2 : ty2 160 = some (9, 1)) : zMh l base D cA yL_pass cL_pass 4 [(0, 9, 12, 13)] 8 160 1 6 [.ref (ad 0), .int p0, .ref (ad 160)] (zW base D cA ad ty I L P) (if oc = 2 then 1 else 0) (fun H => ∃ ad2, (∀ κ t, ty κ = some t → ad2 κ = ad κ) ∧ if oc = 0 then zW base D cA ad2 ty2 I2 (zu L2 160 0 r.toInt64) P2 H else zW base D cA ad2 ty I L P H) := by
  refine z_hstart (by decide +kernel) (Nat.le_of_ble_eq_true rfl) fun p e s m below meth c ls M hP hS hl hr hlocks hN htab => ?_
  have M : zM p s m c cL_pass RL 4 base D cA := M
  have hw : zH base D cA s s.heap [] ad ty I L P := ⟨hP, hS⟩
  obtain ⟨hx, hb, -⟩ := id M
  have hl : lv_has ls 4 [(0, .ref (ad 0)), (1, .int p0), (2, .ref (ad 160))] := hl
  refine lv_aload_n hx hb dL_pass_0 rfl (lv_at hl 2 rfl) ?_
  refine lv_iconst (v := 0) hx hb dL_pass_1 (by decide) ?_
  refine lv_aload_n hx hb dL_pass_2 rfl (lv_at hl 0 rfl) ?_
  refine lv_iload_n hx hb dL_pass_3 rfl (lv_at hl 1 rfl) ?_
  refine z_xci (z_xrunV (As := [.int p0]) (rest := [.int 0, .ref (ad 160)]) M hw ht0 zc_L_43 zn_L_43 hM hw.1 rfl rfl ⟨Nat.le_of_ble_eq_true rfl, Nat.le_of_ble_eq_true rfl⟩ ⟨Nat.le_of_ble_eq_true rfl, Nat.le_of_ble_eq_true rfl⟩ hl.1 (Nat.le_of_ble_eq_true rfl) dL_pass_4) hw.2 (fun hne ce q H locs hw0 hS hq hv hcl => ?_) (fun h0 H locs hw1 hS => ?_)
  · skip
    have hw : zH base D cA s H locs ad ty I L P := ⟨hw0, hS⟩
    rcases hoc with h | h
    · exact absurd h hne
    · skip
      refine z_catch M hN htab h (Or.inr (Or.inl rfl)) [] ⟨0, 9, 12, 13⟩ [] rfl (fun z hz => absurd hz List.not_mem_nil) (by decide) rfl hq hv hcl ?_
      show W p l e _ s m _ below meth c H locs _ _ _ (F0 m 12 ls [.ref q])
      refine lv_astore_n (lv' := [(3, .ref q), (0, .ref (ad 0)), (1, .int p0), (2, .ref (ad 160))]) hx hb dL_pass_12 rfl hl (by decide) rfl (fun ls hl => ?_)
      refine lv_iconst (v := 1) hx hb dL_pass_13 (by decide) ?_
      exact z_iret hx hb hr (by rw [h]; rfl) rfl hw.2 ⟨ad, fun _ _ _ => rfl, (by rw [if_neg hne]; exact hw.1)⟩ (Nat.le_of_ble_eq_true rfl) (Nat.le_of_ble_eq_true rfl) dL_pass_14 hlocks
  · skip
    obtain ⟨ad2, hag, hw2⟩ := hW _ hw1
    have e0 : ad 0 = ad2 0 := (hag _ _ ht0).symm
    have e160 : ad 160 = ad2 160 := (hag _ _ ht160).symm
    rw [e0, e160] at hl
    have hw : zH base D cA s H locs ad2 ty2 I2 L2 P2 := ⟨hw2, hS⟩
    refine W.eq (g2 := F0 m 7 ls [.int r, .int 0, .ref (ad2 160)]) (by rw [e160]) ?_
    refine lv_i2l hx hb dL_pass_7 rfl ?_
    refine z_lNast M hw ht2 rfl ⟨by decide, by decide⟩ dL_pass_8 (fun H locs hw => ?_)
    refine lv_goto (tgt := 15) hx hb dL_pass_9 (by decide) ?_
    refine lv_iconst (v := 0) hx hb dL_pass_15 (by decide) ?_
    exact z_iret hx hb hr (by rw [h0]; rfl) rfl hw.2 ⟨ad2, hag, (by rw [if_pos h0]; exact hw.1)⟩ (Nat.le_of_ble_eq_true rfl) (Nat.le_of_ble_eq_true rfl) dL_pass_16 hlocks
theorem zh_pass : zCH 111 yL_pass cL_pass 4 [(0, 9, 12, 13)] 3 := ⟨tb 476 (by decide +kernel), tb 0 (by decide +kernel), ⟨tb 478 (by decide +kernel), rfl⟩, ⟨by decide +kernel, by decide +kernel⟩, by decide +kernel, tb 477 (by decide +kernel)⟩
set_option maxHeartbeats 4000000 in
set_option maxRecDepth 100000 in
theorem c_L_works (l : Launch) (base : Nat) (D : va_G) (cA : Nat → ClassId) (ad : Nat → Nat) (ty : zTyp) (I : zIt) (L : zLt) (P : zPt) (n0 : Nat) (ht0 : ty 0 = some (6, n0)) (ht160 : ty 160 = some (9, 1)) {oc : Nat} {r : Int32} {W1 : Heap → Prop} {ty2 : zTyp} {I2 : zIt} {L2 : zLt} {P2 : zPt} (p0 : Int32) (hM : zXi l base D cA yX6_works cX6_works 2 .boolean 7 111 1 6 [.ref (ad 0), .int p0] (zW base D cA ad ty I L P) oc r W1) (hoc : oc = 0 ∨ oc = 1) (hW : ∀ H, W1 H → ∃ ad2, (∀ κ t, ty κ = some t → ad2 κ = ad κ) ∧ zW base D cA ad2 ty2 I2 L2 P2 H) (ht2 : ty2 160 = some (9, 1)) : zMh l base D cA yL_works cL_works 4 [(0, 16, 19, 21)] 8 132 1 6 [.ref (ad 0), .int p0, .ref (ad 160)] (zW base D cA ad ty I L P) (if oc = 1 then 1 else 0) (fun H => ∃ ad2, (∀ κ t, ty κ = some t → ad2 κ = ad κ) ∧ if oc = 0 then zW base D cA ad2 ty2 I2 (zu L2 160 0 (if r = 0 then 0 else 1)) P2 H else zW base D cA ad2 ty I L P H) := by
  refine z_hstart (by decide +kernel) (Nat.le_of_ble_eq_true rfl) fun p e s m below meth c ls M hP hS hl hr hlocks hN htab => ?_
  have M : zM p s m c cL_works RL 4 base D cA := M
  have hw : zH base D cA s s.heap [] ad ty I L P := ⟨hP, hS⟩
  obtain ⟨hx, hb, -⟩ := id M
  have hl : lv_has ls 4 [(0, .ref (ad 0)), (1, .int p0), (2, .ref (ad 160))] := hl
  refine lv_aload_n hx hb dL_works_0 rfl (lv_at hl 2 rfl) ?_
  refine lv_iconst (v := 0) hx hb dL_works_1 (by decide) ?_
  refine lv_aload_n hx hb dL_works_2 rfl (lv_at hl 0 rfl) ?_
  refine lv_iload_n hx hb dL_works_3 rfl (lv_at hl 1 rfl) ?_
  refine z_xci (z_xrunV (As := [.int p0]) (rest := [.int 0, .ref (ad 160)]) M hw ht0 zc_L_47 zn_L_47 hM hw.1 rfl rfl ⟨Nat.le_of_ble_eq_true rfl, Nat.le_of_ble_eq_true rfl⟩ ⟨Nat.le_of_ble_eq_true rfl, Nat.le_of_ble_eq_true rfl⟩ hl.1 (Nat.le_of_ble_eq_true rfl) dL_works_4) hw.2 (fun hne ce q H locs hw0 hS hq hv hcl => ?_) (fun h0 H locs hw1 hS => ?_)
  · skip
    have hw : zH base D cA s H locs ad ty I L P := ⟨hw0, hS⟩
    rcases hoc with h | h
    · exact absurd h hne
    · skip
      refine z_catch M hN htab h (Or.inl rfl) [] ⟨0, 16, 19, 21⟩ [] rfl (fun z hz => absurd hz List.not_mem_nil) (by decide) rfl hq hv hcl ?_
      show W p l e _ s m _ below meth c H locs _ _ _ (F0 m 19 ls [.ref q])
      refine lv_astore_n (lv' := [(3, .ref q), (0, .ref (ad 0)), (1, .int p0), (2, .ref (ad 160))]) hx hb dL_works_19 rfl hl (by decide) rfl (fun ls hl => ?_)
      refine lv_iconst (v := 1) hx hb dL_works_20 (by decide) ?_
      exact z_iret hx hb hr (by rw [h]; rfl) rfl hw.2 ⟨ad, fun _ _ _ => rfl, (by rw [if_neg hne]; exact hw.1)⟩ (Nat.le_of_ble_eq_true rfl) (Nat.le_of_ble_eq_true rfl) dL_works_21 hlocks
  · skip
    obtain ⟨ad2, hag, hw2⟩ := hW _ hw1
    have e0 : ad 0 = ad2 0 := (hag _ _ ht0).symm
    have e160 : ad 160 = ad2 160 := (hag _ _ ht160).symm
    rw [e0, e160] at hl
    have hw : zH base D cA s H locs ad2 ty2 I2 L2 P2 := ⟨hw2, hS⟩
    refine W.eq (g2 := F0 m 7 ls [.int r, .int 0, .ref (ad2 160)]) (by rw [e160]) ?_
    refine lv_if_eq (tgt := 14) hx hb dL_works_7 (by decide) (fun c1 => ?_) (fun c1 => ?_)
    · skip
      refine lv_lconst (v := 0) hx hb dL_works_14 (by decide) ?_
      refine z_lNast M hw ht2 rfl ⟨by decide, by decide⟩ dL_works_15 (fun H locs hw => ?_)
      refine lv_goto (tgt := 22) hx hb dL_works_16 (by decide) ?_
      refine lv_iconst (v := 0) hx hb dL_works_22 (by decide) ?_
      exact z_iret hx hb hr (by rw [h0]; rfl) rfl hw.2 ⟨ad2, hag, (by rw [if_pos h0]; rw [if_pos c1]; exact hw.1)⟩ (Nat.le_of_ble_eq_true rfl) (Nat.le_of_ble_eq_true rfl) dL_works_23 hlocks
    · skip
      refine lv_lconst (v := 1) hx hb dL_works_10 (by decide) ?_
      refine lv_goto (tgt := 15) hx hb dL_works_11 (by decide) ?_
      refine z_lNast M hw ht2 rfl ⟨by decide, by decide⟩ dL_works_15 (fun H locs hw => ?_)
      refine lv_goto (tgt := 22) hx hb dL_works_16 (by decide) ?_
      refine lv_iconst (v := 0) hx hb dL_works_22 (by decide) ?_
      exact z_iret hx hb hr (by rw [h0]; rfl) rfl hw.2 ⟨ad2, hag, (by rw [if_pos h0]; rw [if_neg c1]; exact hw.1)⟩ (Nat.le_of_ble_eq_true rfl) (Nat.le_of_ble_eq_true rfl) dL_works_23 hlocks
theorem zh_works : zCH 115 yL_works cL_works 4 [(0, 16, 19, 21)] 3 := ⟨tb 565 (by decide +kernel), tb 0 (by decide +kernel), ⟨tb 567 (by decide +kernel), rfl⟩, ⟨by decide +kernel, by decide +kernel⟩, by decide +kernel, tb 566 (by decide +kernel)⟩
set_option maxHeartbeats 4000000 in
set_option maxRecDepth 100000 in
theorem c_L_faultAt (l : Launch) (base : Nat) (D : va_G) (cA : Nat → ClassId) (ad : Nat → Nat) (ty : zTyp) (I : zIt) (L : zLt) (P : zPt) (n0 : Nat) (ht0 : ty 0 = some (6, n0)) (ht160 : ty 160 = some (9, 1)) {oc : Nat} {r : Int32} {W1 : Heap → Prop} {ty2 : zTyp} {I2 : zIt} {L2 : zLt} {P2 : zPt} (p0 : Int32) (hM : zXi l base D cA yX6_faultAt cX6_faultAt 2 .int 6 90 1 6 [.ref (ad 0), .int p0] (zW base D cA ad ty I L P) oc r W1) (hoc : oc = 0 ∨ oc = 1) (hW : ∀ H, W1 H → ∃ ad2, (∀ κ t, ty κ = some t → ad2 κ = ad κ) ∧ zW base D cA ad2 ty2 I2 L2 P2 H) (ht2 : ty2 160 = some (9, 1)) : zMh l base D cA yL_faultAt cL_faultAt 4 [(0, 9, 12, 21)] 7 111 1 6 [.ref (ad 0), .int p0, .ref (ad 160)] (zW base D cA ad ty I L P) (if oc = 1 then 1 else 0) (fun H => ∃ ad2, (∀ κ t, ty κ = some t → ad2 κ = ad κ) ∧ if oc = 0 then zW base D cA ad2 ty2 I2 (zu L2 160 0 r.toInt64) P2 H else zW base D cA ad2 ty I L P H) := by
  refine z_hstart (by decide +kernel) (Nat.le_of_ble_eq_true rfl) fun p e s m below meth c ls M hP hS hl hr hlocks hN htab => ?_
  have M : zM p s m c cL_faultAt RL 4 base D cA := M
  have hw : zH base D cA s s.heap [] ad ty I L P := ⟨hP, hS⟩
  obtain ⟨hx, hb, -⟩ := id M
  have hl : lv_has ls 4 [(0, .ref (ad 0)), (1, .int p0), (2, .ref (ad 160))] := hl
  refine lv_aload_n hx hb dL_faultAt_0 rfl (lv_at hl 2 rfl) ?_
  refine lv_iconst (v := 0) hx hb dL_faultAt_1 (by decide) ?_
  refine lv_aload_n hx hb dL_faultAt_2 rfl (lv_at hl 0 rfl) ?_
  refine lv_iload_n hx hb dL_faultAt_3 rfl (lv_at hl 1 rfl) ?_
  refine z_xci (z_xrunV (As := [.int p0]) (rest := [.int 0, .ref (ad 160)]) M hw ht0 zc_L_51 zn_L_51 hM hw.1 rfl rfl ⟨Nat.le_of_ble_eq_true rfl, Nat.le_of_ble_eq_true rfl⟩ ⟨Nat.le_of_ble_eq_true rfl, Nat.le_of_ble_eq_true rfl⟩ hl.1 (Nat.le_of_ble_eq_true rfl) dL_faultAt_4) hw.2 (fun hne ce q H locs hw0 hS hq hv hcl => ?_) (fun h0 H locs hw1 hS => ?_)
  · skip
    have hw : zH base D cA s H locs ad ty I L P := ⟨hw0, hS⟩
    rcases hoc with h | h
    · exact absurd h hne
    · skip
      refine z_catch M hN htab h (Or.inl rfl) [] ⟨0, 9, 12, 21⟩ [] rfl (fun z hz => absurd hz List.not_mem_nil) (by decide) rfl hq hv hcl ?_
      show W p l e _ s m _ below meth c H locs _ _ _ (F0 m 12 ls [.ref q])
      refine lv_astore_n (lv' := [(3, .ref q), (0, .ref (ad 0)), (1, .int p0), (2, .ref (ad 160))]) hx hb dL_faultAt_12 rfl hl (by decide) rfl (fun ls hl => ?_)
      refine lv_iconst (v := 1) hx hb dL_faultAt_13 (by decide) ?_
      exact z_iret hx hb hr (by rw [h]; rfl) rfl hw.2 ⟨ad, fun _ _ _ => rfl, (by rw [if_neg hne]; exact hw.1)⟩ (Nat.le_of_ble_eq_true rfl) (Nat.le_of_ble_eq_true rfl) dL_faultAt_14 hlocks
  · skip
    obtain ⟨ad2, hag, hw2⟩ := hW _ hw1
    have e0 : ad 0 = ad2 0 := (hag _ _ ht0).symm
    have e160 : ad 160 = ad2 160 := (hag _ _ ht160).symm
    rw [e0, e160] at hl
    have hw : zH base D cA s H locs ad2 ty2 I2 L2 P2 := ⟨hw2, hS⟩
    refine W.eq (g2 := F0 m 7 ls [.int r, .int 0, .ref (ad2 160)]) (by rw [e160]) ?_
    refine lv_i2l hx hb dL_faultAt_7 rfl ?_
    refine z_lNast M hw ht2 rfl ⟨by decide, by decide⟩ dL_faultAt_8 (fun H locs hw => ?_)
    refine lv_goto (tgt := 15) hx hb dL_faultAt_9 (by decide) ?_
    refine lv_iconst (v := 0) hx hb dL_faultAt_15 (by decide) ?_
    exact z_iret hx hb hr (by rw [h0]; rfl) rfl hw.2 ⟨ad2, hag, (by rw [if_pos h0]; exact hw.1)⟩ (Nat.le_of_ble_eq_true rfl) (Nat.le_of_ble_eq_true rfl) dL_faultAt_16 hlocks
theorem zh_faultAt : zCH 118 yL_faultAt cL_faultAt 4 [(0, 9, 12, 21)] 3 := ⟨tb 576 (by decide +kernel), tb 0 (by decide +kernel), ⟨tb 578 (by decide +kernel), rfl⟩, ⟨by decide +kernel, by decide +kernel⟩, by decide +kernel, tb 577 (by decide +kernel)⟩
set_option maxHeartbeats 4000000 in
set_option maxRecDepth 100000 in
theorem c_L_shipOf (l : Launch) (base : Nat) (D : va_G) (cA : Nat → ClassId) (ad : Nat → Nat) (ty : zTyp) (I : zIt) (L : zLt) (P : zPt) (n0 : Nat) (ht0 : ty 0 = some (6, n0)) (ht160 : ty 160 = some (9, 1)) {oc : Nat} {r : Int32} {W1 : Heap → Prop} {ty2 : zTyp} {I2 : zIt} {L2 : zLt} {P2 : zPt} (p0 : Int32) (p1 : Int32) (hM : zXi l base D cA yX6_shipOf cX6_shipOf 4 .int 7 112 2 12 [.ref (ad 0), .int p0, .int p1] (zW base D cA ad ty I L P) oc r W1) (hoc : oc = 0 ∨ oc = 1 ∨ oc = 2) (hW : ∀ H, W1 H → ∃ ad2, (∀ κ t, ty κ = some t → ad2 κ = ad κ) ∧ zW base D cA ad2 ty2 I2 L2 P2 H) (ht2 : ty2 160 = some (9, 1)) : zMh l base D cA yL_shipOf cL_shipOf 5 [(0, 10, 13, 21), (0, 10, 17, 13)] 8 135 2 12 [.ref (ad 0), .int p0, .int p1, .ref (ad 160)] (zW base D cA ad ty I L P) (if oc = 1 then 1 else (if oc = 2 then 2 else 0)) (fun H => ∃ ad2, (∀ κ t, ty κ = some t → ad2 κ = ad κ) ∧ if oc = 0 then zW base D cA ad2 ty2 I2 (zu L2 160 0 r.toInt64) P2 H else zW base D cA ad2 ty I L P H) := by
  refine z_hstart (by decide +kernel) (Nat.le_of_ble_eq_true rfl) fun p e s m below meth c ls M hP hS hl hr hlocks hN htab => ?_
  have M : zM p s m c cL_shipOf RL 5 base D cA := M
  have hw : zH base D cA s s.heap [] ad ty I L P := ⟨hP, hS⟩
  obtain ⟨hx, hb, -⟩ := id M
  have hl : lv_has ls 5 [(0, .ref (ad 0)), (1, .int p0), (2, .int p1), (3, .ref (ad 160))] := hl
  refine lv_aload_n hx hb dL_shipOf_0 rfl (lv_at hl 3 rfl) ?_
  refine lv_iconst (v := 0) hx hb dL_shipOf_1 (by decide) ?_
  refine lv_aload_n hx hb dL_shipOf_2 rfl (lv_at hl 0 rfl) ?_
  refine lv_iload_n hx hb dL_shipOf_3 rfl (lv_at hl 1 rfl) ?_
  refine lv_iload_n hx hb dL_shipOf_4 rfl (lv_at hl 2 rfl) ?_
  refine z_xci (z_xrunV (As := [.int p0, .int p1]) (rest := [.int 0, .ref (ad 160)]) M hw ht0 zc_L_54 zn_L_54 hM hw.1 rfl rfl ⟨Nat.le_of_ble_eq_true rfl, Nat.le_of_ble_eq_true rfl⟩ ⟨Nat.le_of_ble_eq_true rfl, Nat.le_of_ble_eq_true rfl⟩ hl.1 (Nat.le_of_ble_eq_true rfl) dL_shipOf_5) hw.2 (fun hne ce q H locs hw0 hS hq hv hcl => ?_) (fun h0 H locs hw1 hS => ?_)
  · skip
    have hw : zH base D cA s H locs ad ty I L P := ⟨hw0, hS⟩
    rcases hoc with h | h | h
    · exact absurd h hne
    · skip
      refine z_catch M hN htab h (Or.inl rfl) [] ⟨0, 10, 13, 21⟩ [⟨0, 10, 17, 13⟩] rfl (fun z hz => absurd hz List.not_mem_nil) (by decide) rfl hq hv hcl ?_
      show W p l e _ s m _ below meth c H locs _ _ _ (F0 m 13 ls [.ref q])
      refine lv_astore (lv' := [(4, .ref q), (0, .ref (ad 0)), (1, .int p0), (2, .int p1), (3, .ref (ad 160))]) hx hb dL_shipOf_13 hl (by decide) rfl (fun ls hl => ?_)
      refine lv_iconst (v := 1) hx hb dL_shipOf_15 (by decide) ?_
      exact z_iret hx hb hr (by rw [h]; rfl) rfl hw.2 ⟨ad, fun _ _ _ => rfl, (by rw [if_neg hne]; exact hw.1)⟩ (Nat.le_of_ble_eq_true rfl) (Nat.le_of_ble_eq_true rfl) dL_shipOf_16 hlocks
    · skip
      refine z_catch M hN htab h (Or.inr (Or.inl rfl)) [⟨0, 10, 13, 21⟩] ⟨0, 10, 17, 13⟩ [] rfl (fun z hz => by rw [List.mem_singleton.mp hz]; exact ⟨by decide, 1, (Or.inl rfl), by decide, rfl⟩) (by decide) rfl hq hv hcl ?_
      show W p l e _ s m _ below meth c H locs _ _ _ (F0 m 17 ls [.ref q])
      refine lv_astore (lv' := [(4, .ref q), (0, .ref (ad 0)), (1, .int p0), (2, .int p1), (3, .ref (ad 160))]) hx hb dL_shipOf_17 hl (by decide) rfl (fun ls hl => ?_)
      refine lv_iconst (v := 2) hx hb dL_shipOf_19 (by decide) ?_
      exact z_iret hx hb hr (by rw [h]; rfl) rfl hw.2 ⟨ad, fun _ _ _ => rfl, (by rw [if_neg hne]; exact hw.1)⟩ (Nat.le_of_ble_eq_true rfl) (Nat.le_of_ble_eq_true rfl) dL_shipOf_20 hlocks
  · skip
    obtain ⟨ad2, hag, hw2⟩ := hW _ hw1
    have e0 : ad 0 = ad2 0 := (hag _ _ ht0).symm
    have e160 : ad 160 = ad2 160 := (hag _ _ ht160).symm
    rw [e0, e160] at hl
    have hw : zH base D cA s H locs ad2 ty2 I2 L2 P2 := ⟨hw2, hS⟩
    refine W.eq (g2 := F0 m 8 ls [.int r, .int 0, .ref (ad2 160)]) (by rw [e160]) ?_
    refine lv_i2l hx hb dL_shipOf_8 rfl ?_
    refine z_lNast M hw ht2 rfl ⟨by decide, by decide⟩ dL_shipOf_9 (fun H locs hw => ?_)
    refine lv_goto (tgt := 21) hx hb dL_shipOf_10 (by decide) ?_
    refine lv_iconst (v := 0) hx hb dL_shipOf_21 (by decide) ?_
    exact z_iret hx hb hr (by rw [h0]; rfl) rfl hw.2 ⟨ad2, hag, (by rw [if_pos h0]; exact hw.1)⟩ (Nat.le_of_ble_eq_true rfl) (Nat.le_of_ble_eq_true rfl) dL_shipOf_22 hlocks
theorem zh_shipOf : zCH 121 yL_shipOf cL_shipOf 5 [(0, 10, 13, 21), (0, 10, 17, 13)] 4 := ⟨tb 588 (by decide +kernel), tb 0 (by decide +kernel), ⟨tb 590 (by decide +kernel), rfl⟩, ⟨by decide +kernel, by decide +kernel⟩, by decide +kernel, tb 589 (by decide +kernel)⟩
set_option maxHeartbeats 4000000 in
set_option maxRecDepth 100000 in
theorem c_L_way (l : Launch) (base : Nat) (D : va_G) (cA : Nat → ClassId) (ad : Nat → Nat) (ty : zTyp) (I : zIt) (L : zLt) (P : zPt) (n0 : Nat) (ht0 : ty 0 = some (6, n0)) (ht160 : ty 160 = some (9, 1)) {oc : Nat} {r : Int32} {W1 : Heap → Prop} {ty2 : zTyp} {I2 : zIt} {L2 : zLt} {P2 : zPt} (p0 : Int32) (p1 : Int32) (hM : zXi l base D cA yX6_way cX6_way 3 .int 7 117 2 12 [.ref (ad 0), .int p0, .int p1] (zW base D cA ad ty I L P) oc r W1) (hoc : oc = 0 ∨ oc = 1) (hW : ∀ H, W1 H → ∃ ad2, (∀ κ t, ty κ = some t → ad2 κ = ad κ) ∧ zW base D cA ad2 ty2 I2 L2 P2 H) (ht2 : ty2 160 = some (9, 1)) : zMh l base D cA yL_way cL_way 5 [(0, 10, 13, 21)] 8 139 2 12 [.ref (ad 0), .int p0, .int p1, .ref (ad 160)] (zW base D cA ad ty I L P) (if oc = 1 then 1 else 0) (fun H => ∃ ad2, (∀ κ t, ty κ = some t → ad2 κ = ad κ) ∧ if oc = 0 then zW base D cA ad2 ty2 I2 (zu L2 160 0 r.toInt64) P2 H else zW base D cA ad2 ty I L P H) := by
  refine z_hstart (by decide +kernel) (Nat.le_of_ble_eq_true rfl) fun p e s m below meth c ls M hP hS hl hr hlocks hN htab => ?_
  have M : zM p s m c cL_way RL 5 base D cA := M
  have hw : zH base D cA s s.heap [] ad ty I L P := ⟨hP, hS⟩
  obtain ⟨hx, hb, -⟩ := id M
  have hl : lv_has ls 5 [(0, .ref (ad 0)), (1, .int p0), (2, .int p1), (3, .ref (ad 160))] := hl
  refine lv_aload_n hx hb dL_way_0 rfl (lv_at hl 3 rfl) ?_
  refine lv_iconst (v := 0) hx hb dL_way_1 (by decide) ?_
  refine lv_aload_n hx hb dL_way_2 rfl (lv_at hl 0 rfl) ?_
  refine lv_iload_n hx hb dL_way_3 rfl (lv_at hl 1 rfl) ?_
  refine lv_iload_n hx hb dL_way_4 rfl (lv_at hl 2 rfl) ?_
  refine z_xci (z_xrunV (As := [.int p0, .int p1]) (rest := [.int 0, .ref (ad 160)]) M hw ht0 zc_L_57 zn_L_57 hM hw.1 rfl rfl ⟨Nat.le_of_ble_eq_true rfl, Nat.le_of_ble_eq_true rfl⟩ ⟨Nat.le_of_ble_eq_true rfl, Nat.le_of_ble_eq_true rfl⟩ hl.1 (Nat.le_of_ble_eq_true rfl) dL_way_5) hw.2 (fun hne ce q H locs hw0 hS hq hv hcl => ?_) (fun h0 H locs hw1 hS => ?_)
  · skip
    have hw : zH base D cA s H locs ad ty I L P := ⟨hw0, hS⟩
    rcases hoc with h | h
    · exact absurd h hne
    · skip
      refine z_catch M hN htab h (Or.inl rfl) [] ⟨0, 10, 13, 21⟩ [] rfl (fun z hz => absurd hz List.not_mem_nil) (by decide) rfl hq hv hcl ?_
      show W p l e _ s m _ below meth c H locs _ _ _ (F0 m 13 ls [.ref q])
      refine lv_astore (lv' := [(4, .ref q), (0, .ref (ad 0)), (1, .int p0), (2, .int p1), (3, .ref (ad 160))]) hx hb dL_way_13 hl (by decide) rfl (fun ls hl => ?_)
      refine lv_iconst (v := 1) hx hb dL_way_15 (by decide) ?_
      exact z_iret hx hb hr (by rw [h]; rfl) rfl hw.2 ⟨ad, fun _ _ _ => rfl, (by rw [if_neg hne]; exact hw.1)⟩ (Nat.le_of_ble_eq_true rfl) (Nat.le_of_ble_eq_true rfl) dL_way_16 hlocks
  · skip
    obtain ⟨ad2, hag, hw2⟩ := hW _ hw1
    have e0 : ad 0 = ad2 0 := (hag _ _ ht0).symm
    have e160 : ad 160 = ad2 160 := (hag _ _ ht160).symm
    rw [e0, e160] at hl
    have hw : zH base D cA s H locs ad2 ty2 I2 L2 P2 := ⟨hw2, hS⟩
    refine W.eq (g2 := F0 m 8 ls [.int r, .int 0, .ref (ad2 160)]) (by rw [e160]) ?_
    refine lv_i2l hx hb dL_way_8 rfl ?_
    refine z_lNast M hw ht2 rfl ⟨by decide, by decide⟩ dL_way_9 (fun H locs hw => ?_)
    refine lv_goto (tgt := 17) hx hb dL_way_10 (by decide) ?_
    refine lv_iconst (v := 0) hx hb dL_way_17 (by decide) ?_
    exact z_iret hx hb hr (by rw [h0]; rfl) rfl hw.2 ⟨ad2, hag, (by rw [if_pos h0]; exact hw.1)⟩ (Nat.le_of_ble_eq_true rfl) (Nat.le_of_ble_eq_true rfl) dL_way_18 hlocks
theorem zh_way : zCH 124 yL_way cL_way 5 [(0, 10, 13, 21)] 4 := ⟨tb 595 (by decide +kernel), tb 0 (by decide +kernel), ⟨tb 597 (by decide +kernel), rfl⟩, ⟨by decide +kernel, by decide +kernel⟩, by decide +kernel, tb 596 (by decide +kernel)⟩
set_option maxHeartbeats 4000000 in
set_option maxRecDepth 100000 in
theorem c_L_sum (l : Launch) (base : Nat) (D : va_G) (cA : Nat → ClassId) (ad : Nat → Nat) (ty : zTyp) (I : zIt) (L : zLt) (P : zPt) (n0 : Nat) (ht0 : ty 0 = some (6, n0)) (ht160 : ty 160 = some (9, 1)) {oc : Nat} {r : Int32} {W1 : Heap → Prop} {ty2 : zTyp} {I2 : zIt} {L2 : zLt} {P2 : zPt} (p0 : Int32) (p1 : Int32) (hM : zXi l base D cA yX6_sum cX6_sum 4 .int 7 117 2 12 [.ref (ad 0), .int p0, .int p1] (zW base D cA ad ty I L P) oc r W1) (hoc : oc = 0 ∨ oc = 1 ∨ oc = 2) (hW : ∀ H, W1 H → ∃ ad2, (∀ κ t, ty κ = some t → ad2 κ = ad κ) ∧ zW base D cA ad2 ty2 I2 L2 P2 H) (ht2 : ty2 160 = some (9, 1)) : zMh l base D cA yL_sum cL_sum 5 [(0, 10, 13, 21), (0, 10, 17, 13)] 8 140 2 12 [.ref (ad 0), .int p0, .int p1, .ref (ad 160)] (zW base D cA ad ty I L P) (if oc = 1 then 1 else (if oc = 2 then 2 else 0)) (fun H => ∃ ad2, (∀ κ t, ty κ = some t → ad2 κ = ad κ) ∧ if oc = 0 then zW base D cA ad2 ty2 I2 (zu L2 160 0 r.toInt64) P2 H else zW base D cA ad2 ty I L P H) := by
  refine z_hstart (by decide +kernel) (Nat.le_of_ble_eq_true rfl) fun p e s m below meth c ls M hP hS hl hr hlocks hN htab => ?_
  have M : zM p s m c cL_sum RL 5 base D cA := M
  have hw : zH base D cA s s.heap [] ad ty I L P := ⟨hP, hS⟩
  obtain ⟨hx, hb, -⟩ := id M
  have hl : lv_has ls 5 [(0, .ref (ad 0)), (1, .int p0), (2, .int p1), (3, .ref (ad 160))] := hl
  refine lv_aload_n hx hb dL_sum_0 rfl (lv_at hl 3 rfl) ?_
  refine lv_iconst (v := 0) hx hb dL_sum_1 (by decide) ?_
  refine lv_aload_n hx hb dL_sum_2 rfl (lv_at hl 0 rfl) ?_
  refine lv_iload_n hx hb dL_sum_3 rfl (lv_at hl 1 rfl) ?_
  refine lv_iload_n hx hb dL_sum_4 rfl (lv_at hl 2 rfl) ?_
  refine z_xci (z_xrunV (As := [.int p0, .int p1]) (rest := [.int 0, .ref (ad 160)]) M hw ht0 zc_L_60 zn_L_60 hM hw.1 rfl rfl ⟨Nat.le_of_ble_eq_true rfl, Nat.le_of_ble_eq_true rfl⟩ ⟨Nat.le_of_ble_eq_true rfl, Nat.le_of_ble_eq_true rfl⟩ hl.1 (Nat.le_of_ble_eq_true rfl) dL_sum_5) hw.2 (fun hne ce q H locs hw0 hS hq hv hcl => ?_) (fun h0 H locs hw1 hS => ?_)
  · skip
    have hw : zH base D cA s H locs ad ty I L P := ⟨hw0, hS⟩
    rcases hoc with h | h | h
    · exact absurd h hne
    · skip
      refine z_catch M hN htab h (Or.inl rfl) [] ⟨0, 10, 13, 21⟩ [⟨0, 10, 17, 13⟩] rfl (fun z hz => absurd hz List.not_mem_nil) (by decide) rfl hq hv hcl ?_
      show W p l e _ s m _ below meth c H locs _ _ _ (F0 m 13 ls [.ref q])
      refine lv_astore (lv' := [(4, .ref q), (0, .ref (ad 0)), (1, .int p0), (2, .int p1), (3, .ref (ad 160))]) hx hb dL_sum_13 hl (by decide) rfl (fun ls hl => ?_)
      refine lv_iconst (v := 1) hx hb dL_sum_15 (by decide) ?_
      exact z_iret hx hb hr (by rw [h]; rfl) rfl hw.2 ⟨ad, fun _ _ _ => rfl, (by rw [if_neg hne]; exact hw.1)⟩ (Nat.le_of_ble_eq_true rfl) (Nat.le_of_ble_eq_true rfl) dL_sum_16 hlocks
    · skip
      refine z_catch M hN htab h (Or.inr (Or.inl rfl)) [⟨0, 10, 13, 21⟩] ⟨0, 10, 17, 13⟩ [] rfl (fun z hz => by rw [List.mem_singleton.mp hz]; exact ⟨by decide, 1, (Or.inl rfl), by decide, rfl⟩) (by decide) rfl hq hv hcl ?_
      show W p l e _ s m _ below meth c H locs _ _ _ (F0 m 17 ls [.ref q])
      refine lv_astore (lv' := [(4, .ref q), (0, .ref (ad 0)), (1, .int p0), (2, .int p1), (3, .ref (ad 160))]) hx hb dL_sum_17 hl (by decide) rfl (fun ls hl => ?_)
      refine lv_iconst (v := 2) hx hb dL_sum_19 (by decide) ?_
      exact z_iret hx hb hr (by rw [h]; rfl) rfl hw.2 ⟨ad, fun _ _ _ => rfl, (by rw [if_neg hne]; exact hw.1)⟩ (Nat.le_of_ble_eq_true rfl) (Nat.le_of_ble_eq_true rfl) dL_sum_20 hlocks
  · skip
    obtain ⟨ad2, hag, hw2⟩ := hW _ hw1
    have e0 : ad 0 = ad2 0 := (hag _ _ ht0).symm
    have e160 : ad 160 = ad2 160 := (hag _ _ ht160).symm
    rw [e0, e160] at hl
    have hw : zH base D cA s H locs ad2 ty2 I2 L2 P2 := ⟨hw2, hS⟩
    refine W.eq (g2 := F0 m 8 ls [.int r, .int 0, .ref (ad2 160)]) (by rw [e160]) ?_
    refine lv_i2l hx hb dL_sum_8 rfl ?_
    refine z_lNast M hw ht2 rfl ⟨by decide, by decide⟩ dL_sum_9 (fun H locs hw => ?_)
    refine lv_goto (tgt := 21) hx hb dL_sum_10 (by decide) ?_
    refine lv_iconst (v := 0) hx hb dL_sum_21 (by decide) ?_
    exact z_iret hx hb hr (by rw [h0]; rfl) rfl hw.2 ⟨ad2, hag, (by rw [if_pos h0]; exact hw.1)⟩ (Nat.le_of_ble_eq_true rfl) (Nat.le_of_ble_eq_true rfl) dL_sum_22 hlocks
theorem zh_sum : zCH 127 yL_sum cL_sum 5 [(0, 10, 13, 21), (0, 10, 17, 13)] 4 := ⟨tb 607 (by decide +kernel), tb 0 (by decide +kernel), ⟨tb 609 (by decide +kernel), rfl⟩, ⟨by decide +kernel, by decide +kernel⟩, by decide +kernel, tb 608 (by decide +kernel)⟩
set_option maxHeartbeats 4000000 in
set_option maxRecDepth 100000 in
theorem c_L_sumAnew (l : Launch) (base : Nat) (D : va_G) (cA : Nat → ClassId) (ad : Nat → Nat) (ty : zTyp) (I : zIt) (L : zLt) (P : zPt) (n0 : Nat) (ht0 : ty 0 = some (6, n0)) (ht160 : ty 160 = some (9, 1)) {oc : Nat} {r : Int32} {W1 : Heap → Prop} {ty2 : zTyp} {I2 : zIt} {L2 : zLt} {P2 : zPt} (p0 : Int32) (hM : zXi l base D cA yX6_sumAnew cX6_sumAnew 2 .int 7 111 1 6 [.ref (ad 0), .int p0] (zW base D cA ad ty I L P) oc r W1) (hoc : oc = 0 ∨ oc = 1) (hW : ∀ H, W1 H → ∃ ad2, (∀ κ t, ty κ = some t → ad2 κ = ad κ) ∧ zW base D cA ad2 ty2 I2 L2 P2 H) (ht2 : ty2 160 = some (9, 1)) : zMh l base D cA yL_sumAnew cL_sumAnew 4 [(0, 9, 12, 21)] 8 132 1 6 [.ref (ad 0), .int p0, .ref (ad 160)] (zW base D cA ad ty I L P) (if oc = 1 then 1 else 0) (fun H => ∃ ad2, (∀ κ t, ty κ = some t → ad2 κ = ad κ) ∧ if oc = 0 then zW base D cA ad2 ty2 I2 (zu L2 160 0 r.toInt64) P2 H else zW base D cA ad2 ty I L P H) := by
  refine z_hstart (by decide +kernel) (Nat.le_of_ble_eq_true rfl) fun p e s m below meth c ls M hP hS hl hr hlocks hN htab => ?_
  have M : zM p s m c cL_sumAnew RL 4 base D cA := M
  have hw : zH base D cA s s.heap [] ad ty I L P := ⟨hP, hS⟩
  obtain ⟨hx, hb, -⟩ := id M
  have hl : lv_has ls 4 [(0, .ref (ad 0)), (1, .int p0), (2, .ref (ad 160))] := hl
  refine lv_aload_n hx hb dL_sumAnew_0 rfl (lv_at hl 2 rfl) ?_
  refine lv_iconst (v := 0) hx hb dL_sumAnew_1 (by decide) ?_
  refine lv_aload_n hx hb dL_sumAnew_2 rfl (lv_at hl 0 rfl) ?_
  refine lv_iload_n hx hb dL_sumAnew_3 rfl (lv_at hl 1 rfl) ?_
  refine z_xci (z_xrunV (As := [.int p0]) (rest := [.int 0, .ref (ad 160)]) M hw ht0 zc_L_63 zn_L_63 hM hw.1 rfl rfl ⟨Nat.le_of_ble_eq_true rfl, Nat.le_of_ble_eq_true rfl⟩ ⟨Nat.le_of_ble_eq_true rfl, Nat.le_of_ble_eq_true rfl⟩ hl.1 (Nat.le_of_ble_eq_true rfl) dL_sumAnew_4) hw.2 (fun hne ce q H locs hw0 hS hq hv hcl => ?_) (fun h0 H locs hw1 hS => ?_)
  · skip
    have hw : zH base D cA s H locs ad ty I L P := ⟨hw0, hS⟩
    rcases hoc with h | h
    · exact absurd h hne
    · skip
      refine z_catch M hN htab h (Or.inl rfl) [] ⟨0, 9, 12, 21⟩ [] rfl (fun z hz => absurd hz List.not_mem_nil) (by decide) rfl hq hv hcl ?_
      show W p l e _ s m _ below meth c H locs _ _ _ (F0 m 12 ls [.ref q])
      refine lv_astore_n (lv' := [(3, .ref q), (0, .ref (ad 0)), (1, .int p0), (2, .ref (ad 160))]) hx hb dL_sumAnew_12 rfl hl (by decide) rfl (fun ls hl => ?_)
      refine lv_iconst (v := 1) hx hb dL_sumAnew_13 (by decide) ?_
      exact z_iret hx hb hr (by rw [h]; rfl) rfl hw.2 ⟨ad, fun _ _ _ => rfl, (by rw [if_neg hne]; exact hw.1)⟩ (Nat.le_of_ble_eq_true rfl) (Nat.le_of_ble_eq_true rfl) dL_sumAnew_14 hlocks
  · skip
    obtain ⟨ad2, hag, hw2⟩ := hW _ hw1
    have e0 : ad 0 = ad2 0 := (hag _ _ ht0).symm
    have e160 : ad 160 = ad2 160 := (hag _ _ ht160).symm
    rw [e0, e160] at hl
    have hw : zH base D cA s H locs ad2 ty2 I2 L2 P2 := ⟨hw2, hS⟩
    refine W.eq (g2 := F0 m 7 ls [.int r, .int 0, .ref (ad2 160)]) (by rw [e160]) ?_
    refine lv_i2l hx hb dL_sumAnew_7 rfl ?_
    refine z_lNast M hw ht2 rfl ⟨by decide, by decide⟩ dL_sumAnew_8 (fun H locs hw => ?_)
    refine lv_goto (tgt := 15) hx hb dL_sumAnew_9 (by decide) ?_
    refine lv_iconst (v := 0) hx hb dL_sumAnew_15 (by decide) ?_
    exact z_iret hx hb hr (by rw [h0]; rfl) rfl hw.2 ⟨ad2, hag, (by rw [if_pos h0]; exact hw.1)⟩ (Nat.le_of_ble_eq_true rfl) (Nat.le_of_ble_eq_true rfl) dL_sumAnew_16 hlocks
theorem zh_sumAnew : zCH 130 yL_sumAnew cL_sumAnew 4 [(0, 9, 12, 21)] 3 := ⟨tb 614 (by decide +kernel), tb 0 (by decide +kernel), ⟨tb 616 (by decide +kernel), rfl⟩, ⟨by decide +kernel, by decide +kernel⟩, by decide +kernel, tb 615 (by decide +kernel)⟩
set_option maxHeartbeats 4000000 in
set_option maxRecDepth 100000 in
theorem c_L_account (l : Launch) (base : Nat) (D : va_G) (cA : Nat → ClassId) (ad : Nat → Nat) (ty : zTyp) (I : zIt) (L : zLt) (P : zPt) (n0 : Nat) (ht0 : ty 0 = some (6, n0)) (ht160 : ty 160 = some (9, 1)) {oc : Nat} {r : Int64} {W1 : Heap → Prop} {ty2 : zTyp} {I2 : zIt} {L2 : zLt} {P2 : zPt} (p0 : Int32) (p1 : Int32) (hM : zXl l base D cA yX6_account cX6_account 4 7 112 2 12 [.ref (ad 0), .int p0, .int p1] (zW base D cA ad ty I L P) oc r W1) (hoc : oc = 0 ∨ oc = 1 ∨ oc = 2) (hW : ∀ H, W1 H → ∃ ad2, (∀ κ t, ty κ = some t → ad2 κ = ad κ) ∧ zW base D cA ad2 ty2 I2 L2 P2 H) (ht2 : ty2 160 = some (9, 1)) : zMh l base D cA yL_account cL_account 5 [(0, 9, 12, 21), (0, 9, 16, 13)] 8 135 2 12 [.ref (ad 0), .int p0, .int p1, .ref (ad 160)] (zW base D cA ad ty I L P) (if oc = 1 then 1 else (if oc = 2 then 2 else 0)) (fun H => ∃ ad2, (∀ κ t, ty κ = some t → ad2 κ = ad κ) ∧ if oc = 0 then zW base D cA ad2 ty2 I2 (zu L2 160 0 r) P2 H else zW base D cA ad2 ty I L P H) := by
  refine z_hstart (by decide +kernel) (Nat.le_of_ble_eq_true rfl) fun p e s m below meth c ls M hP hS hl hr hlocks hN htab => ?_
  have M : zM p s m c cL_account RL 5 base D cA := M
  have hw : zH base D cA s s.heap [] ad ty I L P := ⟨hP, hS⟩
  obtain ⟨hx, hb, -⟩ := id M
  have hl : lv_has ls 5 [(0, .ref (ad 0)), (1, .int p0), (2, .int p1), (3, .ref (ad 160))] := hl
  refine lv_aload_n hx hb dL_account_0 rfl (lv_at hl 3 rfl) ?_
  refine lv_iconst (v := 0) hx hb dL_account_1 (by decide) ?_
  refine lv_aload_n hx hb dL_account_2 rfl (lv_at hl 0 rfl) ?_
  refine lv_iload_n hx hb dL_account_3 rfl (lv_at hl 1 rfl) ?_
  refine lv_iload_n hx hb dL_account_4 rfl (lv_at hl 2 rfl) ?_
  refine z_xcl (z_xrunV (As := [.int p0, .int p1]) (rest := [.int 0, .ref (ad 160)]) M hw ht0 zc_L_66 zn_L_66 hM hw.1 rfl rfl ⟨Nat.le_of_ble_eq_true rfl, Nat.le_of_ble_eq_true rfl⟩ ⟨Nat.le_of_ble_eq_true rfl, Nat.le_of_ble_eq_true rfl⟩ hl.1 (Nat.le_of_ble_eq_true rfl) dL_account_5) hw.2 (fun hne ce q H locs hw0 hS hq hv hcl => ?_) (fun h0 H locs hw1 hS => ?_)
  · skip
    have hw : zH base D cA s H locs ad ty I L P := ⟨hw0, hS⟩
    rcases hoc with h | h | h
    · exact absurd h hne
    · skip
      refine z_catch M hN htab h (Or.inl rfl) [] ⟨0, 9, 12, 21⟩ [⟨0, 9, 16, 13⟩] rfl (fun z hz => absurd hz List.not_mem_nil) (by decide) rfl hq hv hcl ?_
      show W p l e _ s m _ below meth c H locs _ _ _ (F0 m 12 ls [.ref q])
      refine lv_astore (lv' := [(4, .ref q), (0, .ref (ad 0)), (1, .int p0), (2, .int p1), (3, .ref (ad 160))]) hx hb dL_account_12 hl (by decide) rfl (fun ls hl => ?_)
      refine lv_iconst (v := 1) hx hb dL_account_14 (by decide) ?_
      exact z_iret hx hb hr (by rw [h]; rfl) rfl hw.2 ⟨ad, fun _ _ _ => rfl, (by rw [if_neg hne]; exact hw.1)⟩ (Nat.le_of_ble_eq_true rfl) (Nat.le_of_ble_eq_true rfl) dL_account_15 hlocks
    · skip
      refine z_catch M hN htab h (Or.inr (Or.inl rfl)) [⟨0, 9, 12, 21⟩] ⟨0, 9, 16, 13⟩ [] rfl (fun z hz => by rw [List.mem_singleton.mp hz]; exact ⟨by decide, 1, (Or.inl rfl), by decide, rfl⟩) (by decide) rfl hq hv hcl ?_
      show W p l e _ s m _ below meth c H locs _ _ _ (F0 m 16 ls [.ref q])
      refine lv_astore (lv' := [(4, .ref q), (0, .ref (ad 0)), (1, .int p0), (2, .int p1), (3, .ref (ad 160))]) hx hb dL_account_16 hl (by decide) rfl (fun ls hl => ?_)
      refine lv_iconst (v := 2) hx hb dL_account_18 (by decide) ?_
      exact z_iret hx hb hr (by rw [h]; rfl) rfl hw.2 ⟨ad, fun _ _ _ => rfl, (by rw [if_neg hne]; exact hw.1)⟩ (Nat.le_of_ble_eq_true rfl) (Nat.le_of_ble_eq_true rfl) dL_account_19 hlocks
  · skip
    obtain ⟨ad2, hag, hw2⟩ := hW _ hw1
    have e0 : ad 0 = ad2 0 := (hag _ _ ht0).symm
    have e160 : ad 160 = ad2 160 := (hag _ _ ht160).symm
    rw [e0, e160] at hl
    have hw : zH base D cA s H locs ad2 ty2 I2 L2 P2 := ⟨hw2, hS⟩
    refine W.eq (g2 := F0 m 8 ls [.long r, .int 0, .ref (ad2 160)]) (by rw [e160]) ?_
    refine z_lNast M hw ht2 rfl ⟨by decide, by decide⟩ dL_account_8 (fun H locs hw => ?_)
    refine lv_goto (tgt := 20) hx hb dL_account_9 (by decide) ?_
    refine lv_iconst (v := 0) hx hb dL_account_20 (by decide) ?_
    exact z_iret hx hb hr (by rw [h0]; rfl) rfl hw.2 ⟨ad2, hag, (by rw [if_pos h0]; exact hw.1)⟩ (Nat.le_of_ble_eq_true rfl) (Nat.le_of_ble_eq_true rfl) dL_account_21 hlocks
theorem zh_account : zCH 133 yL_account cL_account 5 [(0, 9, 12, 21), (0, 9, 16, 13)] 4 := ⟨tb 633 (by decide +kernel), tb 0 (by decide +kernel), ⟨tb 635 (by decide +kernel), rfl⟩, ⟨by decide +kernel, by decide +kernel⟩, by decide +kernel, tb 634 (by decide +kernel)⟩
set_option maxHeartbeats 4000000 in
set_option maxRecDepth 100000 in
theorem c_L_reach (l : Launch) (base : Nat) (D : va_G) (cA : Nat → ClassId) (ad : Nat → Nat) (ty : zTyp) (I : zIt) (L : zLt) (P : zPt) (n0 : Nat) (ht0 : ty 0 = some (6, n0)) (ht160 : ty 160 = some (9, 1)) {oc : Nat} {r : Int32} {W1 : Heap → Prop} {ty2 : zTyp} {I2 : zIt} {L2 : zLt} {P2 : zPt} (p0 : Int32) (hM : zXi l base D cA yX6_reach cX6_reach 2 .int 7 111 1 6 [.ref (ad 0), .int p0] (zW base D cA ad ty I L P) oc r W1) (hoc : oc = 0 ∨ oc = 1) (hW : ∀ H, W1 H → ∃ ad2, (∀ κ t, ty κ = some t → ad2 κ = ad κ) ∧ zW base D cA ad2 ty2 I2 L2 P2 H) (ht2 : ty2 160 = some (9, 1)) : zMh l base D cA yL_reach cL_reach 4 [(0, 9, 12, 21)] 8 132 1 6 [.ref (ad 0), .int p0, .ref (ad 160)] (zW base D cA ad ty I L P) (if oc = 1 then 1 else 0) (fun H => ∃ ad2, (∀ κ t, ty κ = some t → ad2 κ = ad κ) ∧ if oc = 0 then zW base D cA ad2 ty2 I2 (zu L2 160 0 r.toInt64) P2 H else zW base D cA ad2 ty I L P H) := by
  refine z_hstart (by decide +kernel) (Nat.le_of_ble_eq_true rfl) fun p e s m below meth c ls M hP hS hl hr hlocks hN htab => ?_
  have M : zM p s m c cL_reach RL 4 base D cA := M
  have hw : zH base D cA s s.heap [] ad ty I L P := ⟨hP, hS⟩
  obtain ⟨hx, hb, -⟩ := id M
  have hl : lv_has ls 4 [(0, .ref (ad 0)), (1, .int p0), (2, .ref (ad 160))] := hl
  refine lv_aload_n hx hb dL_reach_0 rfl (lv_at hl 2 rfl) ?_
  refine lv_iconst (v := 0) hx hb dL_reach_1 (by decide) ?_
  refine lv_aload_n hx hb dL_reach_2 rfl (lv_at hl 0 rfl) ?_
  refine lv_iload_n hx hb dL_reach_3 rfl (lv_at hl 1 rfl) ?_
  refine z_xci (z_xrunV (As := [.int p0]) (rest := [.int 0, .ref (ad 160)]) M hw ht0 zc_L_70 zn_L_70 hM hw.1 rfl rfl ⟨Nat.le_of_ble_eq_true rfl, Nat.le_of_ble_eq_true rfl⟩ ⟨Nat.le_of_ble_eq_true rfl, Nat.le_of_ble_eq_true rfl⟩ hl.1 (Nat.le_of_ble_eq_true rfl) dL_reach_4) hw.2 (fun hne ce q H locs hw0 hS hq hv hcl => ?_) (fun h0 H locs hw1 hS => ?_)
  · skip
    have hw : zH base D cA s H locs ad ty I L P := ⟨hw0, hS⟩
    rcases hoc with h | h
    · exact absurd h hne
    · skip
      refine z_catch M hN htab h (Or.inl rfl) [] ⟨0, 9, 12, 21⟩ [] rfl (fun z hz => absurd hz List.not_mem_nil) (by decide) rfl hq hv hcl ?_
      show W p l e _ s m _ below meth c H locs _ _ _ (F0 m 12 ls [.ref q])
      refine lv_astore_n (lv' := [(3, .ref q), (0, .ref (ad 0)), (1, .int p0), (2, .ref (ad 160))]) hx hb dL_reach_12 rfl hl (by decide) rfl (fun ls hl => ?_)
      refine lv_iconst (v := 1) hx hb dL_reach_13 (by decide) ?_
      exact z_iret hx hb hr (by rw [h]; rfl) rfl hw.2 ⟨ad, fun _ _ _ => rfl, (by rw [if_neg hne]; exact hw.1)⟩ (Nat.le_of_ble_eq_true rfl) (Nat.le_of_ble_eq_true rfl) dL_reach_14 hlocks
  · skip
    obtain ⟨ad2, hag, hw2⟩ := hW _ hw1
    have e0 : ad 0 = ad2 0 := (hag _ _ ht0).symm
    have e160 : ad 160 = ad2 160 := (hag _ _ ht160).symm
    rw [e0, e160] at hl
    have hw : zH base D cA s H locs ad2 ty2 I2 L2 P2 := ⟨hw2, hS⟩
    refine W.eq (g2 := F0 m 7 ls [.int r, .int 0, .ref (ad2 160)]) (by rw [e160]) ?_
    refine lv_i2l hx hb dL_reach_7 rfl ?_
    refine z_lNast M hw ht2 rfl ⟨by decide, by decide⟩ dL_reach_8 (fun H locs hw => ?_)
    refine lv_goto (tgt := 15) hx hb dL_reach_9 (by decide) ?_
    refine lv_iconst (v := 0) hx hb dL_reach_15 (by decide) ?_
    exact z_iret hx hb hr (by rw [h0]; rfl) rfl hw.2 ⟨ad2, hag, (by rw [if_pos h0]; exact hw.1)⟩ (Nat.le_of_ble_eq_true rfl) (Nat.le_of_ble_eq_true rfl) dL_reach_16 hlocks
theorem zh_reach : zCH 136 yL_reach cL_reach 4 [(0, 9, 12, 21)] 3 := ⟨tb 640 (by decide +kernel), tb 0 (by decide +kernel), ⟨tb 642 (by decide +kernel), rfl⟩, ⟨by decide +kernel, by decide +kernel⟩, by decide +kernel, tb 641 (by decide +kernel)⟩
