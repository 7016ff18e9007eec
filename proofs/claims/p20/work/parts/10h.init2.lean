set_option maxHeartbeats 4000000 in
set_option maxRecDepth 100000 in
theorem c_X2_init (l : Launch) (base : Nat) (D : zDD) (cA : Nat → ClassId) (ad : Nat → Nat) (ty : zTyp) (I : zIt) (L : zLt) (P : zPt) (n0 : Nat) (ht : ty 1 = some (2, n0)) (hf3 : ty 3 = none) (hf6 : ty 6 = none) (hf7 : ty 7 = none) (hf8 : ty 8 = none) : zMv l base D cA yX2_init cX2_init 1 1 12 4 164 [.ref (ad 1)] (zW base D cA ad ty I L P) (fun H => ∃ ad2, (∀ κ t, ty κ = some t → ad2 κ = ad κ) ∧ zW base D cA ad2 (zs (zs (zs (zs ty 3 (some (11, 16))) 6 (some (8, 128))) 7 (some (9, 10))) 8 (some (8, 10))) (zs (zs (zu (zs (zu (zs I 3 (fun _ => 0)) 1 1 0) 6 (fun _ => 0)) 1 3 0) 7 (fun _ => 0)) 8 (fun _ => 0)) (zs (zs (zs (zs L 3 (fun _ => 0)) 6 (fun _ => 0)) 7 (fun _ => 0)) 8 (fun _ => 0)) (zu (zs (zu (zs (zu (zs (zu (zs P 3 (fun _ => none)) 1 0 (some 3)) 6 (fun _ => none)) 1 2 (some 6)) 7 (fun _ => none)) 1 4 (some 7)) 8 (fun _ => none)) 1 5 (some 8)) H) := by
  refine z_start (by decide +kernel) (Nat.le_of_ble_eq_true rfl) fun p e s m below meth c ls M hP hS hl hr hlocks hnm => ?_
  have M : zM p s m c cX2_init RX2 1 base D cA := M
  have hw : zH base D cA s s.heap [] ad ty I L P := ⟨hP, hS⟩
  obtain ⟨hx, hb, -⟩ := id M
  have hl : lv_has ls 1 [(0, .ref (ad 1))] := hl
  refine lv_aload_n hx hb dX2_init_0 rfl (lv_at hl 0 rfl) ?_
  refine W.objInit hx hb M.2.2.2.1 (M.2.2.2.2.1.use (tb 31 (by decide +kernel)) rfl) (M.2.2.2.2.1.use (tb 22 (by decide +kernel)) rfl) (M.2.2.2.2.1.use (tb 23 (by decide +kernel)) rfl) rfl (by rw [M.2.2.1]; exact hl.1) rfl dX2_init_1 (Nat.le_of_ble_eq_true rfl) (Nat.le_of_ble_eq_true rfl) ?_
  refine W.eq (g2 := F0 m 4 ls []) rfl ?_
  refine lv_aload_n hx hb dX2_init_4 rfl (lv_at hl 0 rfl) ?_
  refine lv_bipush (v := 16) hx hb dX2_init_5 (by decide) ?_
  refine z_anew (e9 := 3) (N := 16) (C := RX0) M hw 3 hf3 ⟨by decide, rfl⟩ (tb 32 (by decide +kernel)) ⟨tb 33 (by decide +kernel), rfl⟩ (by decide) (by decide) (by decide) (Nat.le_of_ble_eq_true rfl) (Nat.le_of_ble_eq_true rfl) dX2_init_7 (fun a1 H hw => ?_)
  obtain ⟨ad1, had1⟩ : ∃ z, z = zs ad 3 a1 := ⟨_, rfl⟩
  rw [← had1] at hw ⊢
  have ea2 : ad 1 = ad1 1 := by rw [had1, zs_ne _ _ (by omega)]
  rw [ea2] at hl
  refine W.eq (g2 := F0 m 10 ls [.ref (ad1 3), .ref (ad1 1)]) (by rw [ea2]) ?_
  have hag1 : ∀ κ t, ty κ = some t → ad1 κ = ad κ := fun κ t h => (show ad1 κ = ad κ by rw [had1]; exact zs_ne _ _ (fun e => by rw [e] at h; exact absurd (h.symm.trans hf3) (by simp)))
  refine z_putr M hw ((zs_ne _ _ (by omega)).trans ht) zf_X2_11 (Or.inr ⟨rfl, rfl, hnm⟩) (zs_self _ _ _) (fun _ => rfl) (fun _ => rfl) dX2_init_10 (fun H locs hw => ?_)
  refine lv_aload_n hx hb dX2_init_13 rfl (lv_at hl 0 rfl) ?_
  refine lv_iconst (v := 0) hx hb dX2_init_14 (by decide) ?_
  refine z_puti M hw ((zs_ne _ _ (by omega)).trans ht) zf_X2_17 (Or.inl rfl) rfl rfl dX2_init_15 (fun H locs hw => ?_)
  refine lv_aload_n hx hb dX2_init_18 rfl (lv_at hl 0 rfl) ?_
  refine lv_sipush (v := 128) hx hb dX2_init_19 (by decide) ?_
  refine z_newarr (e9 := 0) (N := 128) M hw 6 ((zs_ne _ _ (by omega)).trans hf6) ⟨by decide, rfl⟩ (tb 55 (by decide +kernel)) (by decide) (by decide) (by decide) (Nat.le_of_ble_eq_true rfl) (Nat.le_of_ble_eq_true rfl) dX2_init_22 (fun a3 H hw => ?_)
  obtain ⟨ad3, had3⟩ : ∃ z, z = zs ad1 6 a3 := ⟨_, rfl⟩
  rw [← had3] at hw ⊢
  have ea4 : ad1 1 = ad3 1 := by rw [had3, zs_ne _ _ (by omega)]
  rw [ea4] at hl
  refine W.eq (g2 := F0 m 24 ls [.ref (ad3 6), .ref (ad3 1)]) (by rw [ea4]) ?_
  have hag3 : ∀ κ t, ty κ = some t → ad3 κ = ad κ := fun κ t h => (show ad3 κ = ad1 κ by rw [had3]; exact zs_ne _ _ (fun e => by rw [e] at h; exact absurd (h.symm.trans hf6) (by simp))).trans (hag1 κ t h)
  refine z_putr M hw ((zs_ne _ _ (by omega)).trans ((zs_ne _ _ (by omega)).trans ht)) zf_X2_21 (Or.inr ⟨rfl, rfl, hnm⟩) (zs_self _ _ _) (fun _ => rfl) (fun _ => rfl) dX2_init_24 (fun H locs hw => ?_)
  refine lv_aload_n hx hb dX2_init_27 rfl (lv_at hl 0 rfl) ?_
  refine lv_iconst (v := 0) hx hb dX2_init_28 (by decide) ?_
  refine z_puti M hw ((zs_ne _ _ (by omega)).trans ((zs_ne _ _ (by omega)).trans ht)) zf_X2_25 (Or.inl rfl) rfl rfl dX2_init_29 (fun H locs hw => ?_)
  refine lv_aload_n hx hb dX2_init_32 rfl (lv_at hl 0 rfl) ?_
  refine lv_bipush (v := 10) hx hb dX2_init_33 (by decide) ?_
  refine z_newarr (e9 := 1) (N := 10) M hw 7 ((zs_ne _ _ (by omega)).trans ((zs_ne _ _ (by omega)).trans hf7)) ⟨by decide, rfl⟩ (tb 56 (by decide +kernel)) (by decide) (by decide) (by decide) (Nat.le_of_ble_eq_true rfl) (Nat.le_of_ble_eq_true rfl) dX2_init_35 (fun a5 H hw => ?_)
  obtain ⟨ad5, had5⟩ : ∃ z, z = zs ad3 7 a5 := ⟨_, rfl⟩
  rw [← had5] at hw ⊢
  have ea6 : ad3 1 = ad5 1 := by rw [had5, zs_ne _ _ (by omega)]
  rw [ea6] at hl
  refine W.eq (g2 := F0 m 37 ls [.ref (ad5 7), .ref (ad5 1)]) (by rw [ea6]) ?_
  have hag5 : ∀ κ t, ty κ = some t → ad5 κ = ad κ := fun κ t h => (show ad5 κ = ad3 κ by rw [had5]; exact zs_ne _ _ (fun e => by rw [e] at h; exact absurd (h.symm.trans hf7) (by simp))).trans (hag3 κ t h)
  refine z_putr M hw ((zs_ne _ _ (by omega)).trans ((zs_ne _ _ (by omega)).trans ((zs_ne _ _ (by omega)).trans ht))) zf_X2_28 (Or.inr ⟨rfl, rfl, hnm⟩) (zs_self _ _ _) (fun _ => rfl) (fun _ => rfl) dX2_init_37 (fun H locs hw => ?_)
  refine lv_aload_n hx hb dX2_init_40 rfl (lv_at hl 0 rfl) ?_
  refine lv_bipush (v := 10) hx hb dX2_init_41 (by decide) ?_
  refine z_newarr (e9 := 0) (N := 10) M hw 8 ((zs_ne _ _ (by omega)).trans ((zs_ne _ _ (by omega)).trans ((zs_ne _ _ (by omega)).trans hf8))) ⟨by decide, rfl⟩ (tb 55 (by decide +kernel)) (by decide) (by decide) (by decide) (Nat.le_of_ble_eq_true rfl) (Nat.le_of_ble_eq_true rfl) dX2_init_43 (fun a7 H hw => ?_)
  obtain ⟨ad7, had7⟩ : ∃ z, z = zs ad5 8 a7 := ⟨_, rfl⟩
  rw [← had7] at hw ⊢
  have ea8 : ad5 1 = ad7 1 := by rw [had7, zs_ne _ _ (by omega)]
  rw [ea8] at hl
  refine W.eq (g2 := F0 m 45 ls [.ref (ad7 8), .ref (ad7 1)]) (by rw [ea8]) ?_
  have hag7 : ∀ κ t, ty κ = some t → ad7 κ = ad κ := fun κ t h => (show ad7 κ = ad5 κ by rw [had7]; exact zs_ne _ _ (fun e => by rw [e] at h; exact absurd (h.symm.trans hf8) (by simp))).trans (hag5 κ t h)
  refine z_putr M hw ((zs_ne _ _ (by omega)).trans ((zs_ne _ _ (by omega)).trans ((zs_ne _ _ (by omega)).trans ((zs_ne _ _ (by omega)).trans ht)))) zf_X2_32 (Or.inr ⟨rfl, rfl, hnm⟩) (zs_self _ _ _) (fun _ => rfl) (fun _ => rfl) dX2_init_45 (fun H locs hw => ?_)
  exact z_vret hx hb hr hw.2 ⟨_, hag7, hw.1⟩ (Nat.le_of_ble_eq_true rfl) (Nat.le_of_ble_eq_true rfl) dX2_init_48 hlocks
set_option maxHeartbeats 4000000 in
set_option maxRecDepth 100000 in
theorem c_X6_init (l : Launch) (base : Nat) (D : zDD) (cA : Nat → ClassId) (ad : Nat → Nat) (ty : zTyp) (I : zIt) (L : zLt) (P : zPt) (n0 : Nat) (ht : ty 0 = some (6, n0)) (hf1 : ty 1 = none) (hf2 : ty 2 = none) (hf3 : ty 3 = none) (hf4 : ty 4 = none) (hf5 : ty 5 = none) (hf6 : ty 6 = none) (hf7 : ty 7 = none) (hf8 : ty 8 = none) : zMv l base D cA yX6_init cX6_init 1 2 32 8 196 [.ref (ad 0)] (zW base D cA ad ty I L P) (fun H => ∃ ad2, (∀ κ t, ty κ = some t → ad2 κ = ad κ) ∧ zW base D cA ad2 (zs (zs (zs (zs (zs (zs (zs (zs ty 2 (some (12, 10))) 1 (some (2, 0))) 3 (some (11, 16))) 6 (some (8, 128))) 7 (some (9, 10))) 8 (some (8, 10))) 4 (some (13, 4))) 5 (some (14, 12))) (zu (zu (zu (zs (zu (zs (zs (zs (zu (zs (zu (zs (zs (zu (zs I 2 (fun _ => 0)) 0 1 0) 1 (fun _ => 0)) 3 (fun _ => 0)) 1 1 0) 6 (fun _ => 0)) 1 3 0) 7 (fun _ => 0)) 8 (fun _ => 0)) 4 (fun _ => 0)) 0 4 0) 5 (fun _ => 0)) 0 6 0) 0 7 0) 0 8 0) (zs (zs (zs (zs (zs (zs (zs (zs L 2 (fun _ => 0)) 1 (fun _ => 0)) 3 (fun _ => 0)) 6 (fun _ => 0)) 7 (fun _ => 0)) 8 (fun _ => 0)) 4 (fun _ => 0)) 5 (fun _ => 0)) (zu (zs (zu (zs (zu (zu (zs (zu (zs (zu (zs (zu (zs (zs (zu (zs P 2 (fun _ => none)) 0 0 (some 2)) 1 (fun _ => none)) 3 (fun _ => none)) 1 0 (some 3)) 6 (fun _ => none)) 1 2 (some 6)) 7 (fun _ => none)) 1 4 (some 7)) 8 (fun _ => none)) 1 5 (some 8)) 0 2 (some 1)) 4 (fun _ => none)) 0 3 (some 4)) 5 (fun _ => none)) 0 5 (some 5)) H) := by
  refine z_start (by decide +kernel) (Nat.le_of_ble_eq_true rfl) fun p e s m below meth c ls M hP hS hl hr hlocks hnm => ?_
  have M : zM p s m c cX6_init RX6 1 base D cA := M
  have hw : zH base D cA s s.heap [] ad ty I L P := ⟨hP, hS⟩
  obtain ⟨hx, hb, -⟩ := id M
  have hl : lv_has ls 1 [(0, .ref (ad 0))] := hl
  refine lv_aload_n hx hb dX6_init_0 rfl (lv_at hl 0 rfl) ?_
  refine W.objInit hx hb M.2.2.2.1 (M.2.2.2.2.1.use (tb 21 (by decide +kernel)) rfl) (M.2.2.2.2.1.use (tb 22 (by decide +kernel)) rfl) (M.2.2.2.2.1.use (tb 23 (by decide +kernel)) rfl) rfl (by rw [M.2.2.1]; exact hl.1) rfl dX6_init_1 (Nat.le_of_ble_eq_true rfl) (Nat.le_of_ble_eq_true rfl) ?_
  refine W.eq (g2 := F0 m 4 ls []) rfl ?_
  refine lv_aload_n hx hb dX6_init_4 rfl (lv_at hl 0 rfl) ?_
  refine lv_bipush (v := 10) hx hb dX6_init_5 (by decide) ?_
  refine z_anew (e9 := 4) (N := 10) (C := RX1) M hw 2 hf2 ⟨by decide, rfl⟩ (tb 24 (by decide +kernel)) ⟨tb 25 (by decide +kernel), rfl⟩ (by decide) (by decide) (by decide) (Nat.le_of_ble_eq_true rfl) (Nat.le_of_ble_eq_true rfl) dX6_init_7 (fun a1 H hw => ?_)
  obtain ⟨ad1, had1⟩ : ∃ z, z = zs ad 2 a1 := ⟨_, rfl⟩
  rw [← had1] at hw ⊢
  have ea2 : ad 0 = ad1 0 := by rw [had1, zs_ne _ _ (by omega)]
  rw [ea2] at hl
  refine W.eq (g2 := F0 m 10 ls [.ref (ad1 2), .ref (ad1 0)]) (by rw [ea2]) ?_
  have hag1 : ∀ κ t, ty κ = some t → ad1 κ = ad κ := fun κ t h => (show ad1 κ = ad κ by rw [had1]; exact zs_ne _ _ (fun e => by rw [e] at h; exact absurd (h.symm.trans hf2) (by simp)))
  refine z_putr M hw ((zs_ne _ _ (by omega)).trans ht) zf_X6_11 (Or.inr ⟨rfl, rfl, hnm⟩) (zs_self _ _ _) (fun _ => rfl) (fun _ => rfl) dX6_init_10 (fun H locs hw => ?_)
  refine lv_aload_n hx hb dX6_init_13 rfl (lv_at hl 0 rfl) ?_
  refine lv_iconst (v := 0) hx hb dX6_init_14 (by decide) ?_
  refine z_puti M hw ((zs_ne _ _ (by omega)).trans ht) zf_X6_15 (Or.inl rfl) rfl rfl dX6_init_15 (fun H locs hw => ?_)
  refine lv_aload_n hx hb dX6_init_18 rfl (lv_at hl 0 rfl) ?_
  refine z_new (ci := 2) M hw 1 ((zs_ne _ _ (by omega)).trans hf1) (by decide) (tb 26 (by decide +kernel)) (tb 27 (by decide +kernel)) (tb 2 (by decide +kernel)) (Nat.le_of_ble_eq_true rfl) (Nat.le_of_ble_eq_true rfl) dX6_init_19 (fun a3 H hw => ?_)
  obtain ⟨ad3, had3⟩ : ∃ z, z = zs ad1 1 a3 := ⟨_, rfl⟩
  rw [← had3] at hw ⊢
  have ea4 : ad1 0 = ad3 0 := by rw [had3, zs_ne _ _ (by omega)]
  rw [ea4] at hl
  refine W.eq (g2 := F0 m 22 ls [.ref (ad3 1), .ref (ad3 0)]) (by rw [ea4]) ?_
  have hag3 : ∀ κ t, ty κ = some t → ad3 κ = ad κ := fun κ t h => (show ad3 κ = ad1 κ by rw [had3]; exact zs_ne _ _ (fun e => by rw [e] at h; exact absurd (h.symm.trans hf1) (by simp))).trans (hag1 κ t h)
  refine lv_dup hx hb dX6_init_22 rfl ?_
  refine z_cv (z_runI (As := []) (rest := [.ref (ad3 1), .ref (ad3 0)]) M hw.2 zc_X6_21 (c_X2_init l base D cA ad3 (zs (zs ty 2 (some (12, 10))) 1 (some (2, 0))) (zs (zu (zs I 2 (fun _ => 0)) 0 1 0) 1 (fun _ => 0)) (zs (zs L 2 (fun _ => 0)) 1 (fun _ => 0)) (zs (zu (zs P 2 (fun _ => none)) 0 0 (some 2)) 1 (fun _ => none)) 0 (zs_self _ _ _) ((zs_ne _ _ (by omega)).trans ((zs_ne _ _ (by omega)).trans hf3)) ((zs_ne _ _ (by omega)).trans ((zs_ne _ _ (by omega)).trans hf6)) ((zs_ne _ _ (by omega)).trans ((zs_ne _ _ (by omega)).trans hf7)) ((zs_ne _ _ (by omega)).trans ((zs_ne _ _ (by omega)).trans hf8))) hw.1 rfl rfl ⟨Nat.le_of_ble_eq_true rfl, Nat.le_of_ble_eq_true rfl⟩ ⟨Nat.le_of_ble_eq_true rfl, Nat.le_of_ble_eq_true rfl⟩ hl.1 (Nat.le_of_ble_eq_true rfl) dX6_init_23) hw.2 (fun H locs hw1 hS => ?_)
  obtain ⟨ad5, hagc5, hw2⟩ := hw1
  have ea6 : ad3 0 = ad5 0 := (hagc5 _ _ ((zs_ne _ _ (by omega)).trans ((zs_ne _ _ (by omega)).trans ht))).symm
  have ea7 : ad3 1 = ad5 1 := (hagc5 _ _ (zs_self _ _ _)).symm
  rw [ea6] at hl
  have hw : zH base D cA s H locs ad5 (zs (zs (zs (zs (zs (zs ty 2 (some (12, 10))) 1 (some (2, 0))) 3 (some (11, 16))) 6 (some (8, 128))) 7 (some (9, 10))) 8 (some (8, 10))) (zs (zs (zu (zs (zu (zs (zs (zu (zs I 2 (fun _ => 0)) 0 1 0) 1 (fun _ => 0)) 3 (fun _ => 0)) 1 1 0) 6 (fun _ => 0)) 1 3 0) 7 (fun _ => 0)) 8 (fun _ => 0)) (zs (zs (zs (zs (zs (zs L 2 (fun _ => 0)) 1 (fun _ => 0)) 3 (fun _ => 0)) 6 (fun _ => 0)) 7 (fun _ => 0)) 8 (fun _ => 0)) (zu (zs (zu (zs (zu (zs (zu (zs (zs (zu (zs P 2 (fun _ => none)) 0 0 (some 2)) 1 (fun _ => none)) 3 (fun _ => none)) 1 0 (some 3)) 6 (fun _ => none)) 1 2 (some 6)) 7 (fun _ => none)) 1 4 (some 7)) 8 (fun _ => none)) 1 5 (some 8)) := ⟨hw2, hS⟩
  refine W.eq (g2 := F0 m _ ls [.ref (ad5 1), .ref (ad5 0)]) (by rw [ea7, ea6]) ?_
  have hag5 : ∀ κ t, ty κ = some t → ad5 κ = ad κ := fun κ t h => (hagc5 κ t ((zs_ne _ _ (fun e => by rw [e] at h; exact absurd (h.symm.trans hf1) (by simp))).trans ((zs_ne _ _ (fun e => by rw [e] at h; exact absurd (h.symm.trans hf2) (by simp))).trans h))).trans (hag3 κ t h)
  refine z_putr M hw ((zs_ne _ _ (by omega)).trans ((zs_ne _ _ (by omega)).trans ((zs_ne _ _ (by omega)).trans ((zs_ne _ _ (by omega)).trans ((zs_ne _ _ (by omega)).trans ((zs_ne _ _ (by omega)).trans ht)))))) zf_X6_22 (Or.inr ⟨rfl, rfl, hnm⟩) ((zs_ne _ _ (by omega)).trans ((zs_ne _ _ (by omega)).trans ((zs_ne _ _ (by omega)).trans ((zs_ne _ _ (by omega)).trans (zs_self _ _ _))))) (fun _ => rfl) (fun _ => rfl) dX6_init_26 (fun H locs hw => ?_)
  refine lv_aload_n hx hb dX6_init_29 rfl (lv_at hl 0 rfl) ?_
  refine lv_iconst (v := 4) hx hb dX6_init_30 (by decide) ?_
  refine z_anew (e9 := 5) (N := 4) (C := RX3) M hw 4 ((zs_ne _ _ (by omega)).trans ((zs_ne _ _ (by omega)).trans ((zs_ne _ _ (by omega)).trans ((zs_ne _ _ (by omega)).trans ((zs_ne _ _ (by omega)).trans ((zs_ne _ _ (by omega)).trans hf4)))))) ⟨by decide, rfl⟩ (tb 57 (by decide +kernel)) ⟨tb 58 (by decide +kernel), rfl⟩ (by decide) (by decide) (by decide) (Nat.le_of_ble_eq_true rfl) (Nat.le_of_ble_eq_true rfl) dX6_init_31 (fun a8 H hw => ?_)
  obtain ⟨ad8, had8⟩ : ∃ z, z = zs ad5 4 a8 := ⟨_, rfl⟩
  rw [← had8] at hw ⊢
  have ea9 : ad5 0 = ad8 0 := by rw [had8, zs_ne _ _ (by omega)]
  rw [ea9] at hl
  refine W.eq (g2 := F0 m 34 ls [.ref (ad8 4), .ref (ad8 0)]) (by rw [ea9]) ?_
  have hag8 : ∀ κ t, ty κ = some t → ad8 κ = ad κ := fun κ t h => (show ad8 κ = ad5 κ by rw [had8]; exact zs_ne _ _ (fun e => by rw [e] at h; exact absurd (h.symm.trans hf4) (by simp))).trans (hag5 κ t h)
  refine z_putr M hw ((zs_ne _ _ (by omega)).trans ((zs_ne _ _ (by omega)).trans ((zs_ne _ _ (by omega)).trans ((zs_ne _ _ (by omega)).trans ((zs_ne _ _ (by omega)).trans ((zs_ne _ _ (by omega)).trans ((zs_ne _ _ (by omega)).trans ht))))))) zf_X6_28 (Or.inr ⟨rfl, rfl, hnm⟩) (zs_self _ _ _) (fun _ => rfl) (fun _ => rfl) dX6_init_34 (fun H locs hw => ?_)
  refine lv_aload_n hx hb dX6_init_37 rfl (lv_at hl 0 rfl) ?_
  refine lv_iconst (v := 0) hx hb dX6_init_38 (by decide) ?_
  refine z_puti M hw ((zs_ne _ _ (by omega)).trans ((zs_ne _ _ (by omega)).trans ((zs_ne _ _ (by omega)).trans ((zs_ne _ _ (by omega)).trans ((zs_ne _ _ (by omega)).trans ((zs_ne _ _ (by omega)).trans ((zs_ne _ _ (by omega)).trans ht))))))) zf_X6_32 (Or.inl rfl) rfl rfl dX6_init_39 (fun H locs hw => ?_)
  refine lv_aload_n hx hb dX6_init_42 rfl (lv_at hl 0 rfl) ?_
  refine lv_bipush (v := 12) hx hb dX6_init_43 (by decide) ?_
  refine z_anew (e9 := 6) (N := 12) (C := RX4) M hw 5 ((zs_ne _ _ (by omega)).trans ((zs_ne _ _ (by omega)).trans ((zs_ne _ _ (by omega)).trans ((zs_ne _ _ (by omega)).trans ((zs_ne _ _ (by omega)).trans ((zs_ne _ _ (by omega)).trans ((zs_ne _ _ (by omega)).trans hf5))))))) ⟨by decide, rfl⟩ (tb 59 (by decide +kernel)) ⟨tb 60 (by decide +kernel), rfl⟩ (by decide) (by decide) (by decide) (Nat.le_of_ble_eq_true rfl) (Nat.le_of_ble_eq_true rfl) dX6_init_45 (fun a10 H hw => ?_)
  obtain ⟨ad10, had10⟩ : ∃ z, z = zs ad8 5 a10 := ⟨_, rfl⟩
  rw [← had10] at hw ⊢
  have ea11 : ad8 0 = ad10 0 := by rw [had10, zs_ne _ _ (by omega)]
  rw [ea11] at hl
  refine W.eq (g2 := F0 m 48 ls [.ref (ad10 5), .ref (ad10 0)]) (by rw [ea11]) ?_
  have hag10 : ∀ κ t, ty κ = some t → ad10 κ = ad κ := fun κ t h => (show ad10 κ = ad8 κ by rw [had10]; exact zs_ne _ _ (fun e => by rw [e] at h; exact absurd (h.symm.trans hf5) (by simp))).trans (hag8 κ t h)
  refine z_putr M hw ((zs_ne _ _ (by omega)).trans ((zs_ne _ _ (by omega)).trans ((zs_ne _ _ (by omega)).trans ((zs_ne _ _ (by omega)).trans ((zs_ne _ _ (by omega)).trans ((zs_ne _ _ (by omega)).trans ((zs_ne _ _ (by omega)).trans ((zs_ne _ _ (by omega)).trans ht)))))))) zf_X6_37 (Or.inr ⟨rfl, rfl, hnm⟩) (zs_self _ _ _) (fun _ => rfl) (fun _ => rfl) dX6_init_48 (fun H locs hw => ?_)
  refine lv_aload_n hx hb dX6_init_51 rfl (lv_at hl 0 rfl) ?_
  refine lv_iconst (v := 0) hx hb dX6_init_52 (by decide) ?_
  refine z_puti M hw ((zs_ne _ _ (by omega)).trans ((zs_ne _ _ (by omega)).trans ((zs_ne _ _ (by omega)).trans ((zs_ne _ _ (by omega)).trans ((zs_ne _ _ (by omega)).trans ((zs_ne _ _ (by omega)).trans ((zs_ne _ _ (by omega)).trans ((zs_ne _ _ (by omega)).trans ht)))))))) zf_X6_41 (Or.inl rfl) rfl rfl dX6_init_53 (fun H locs hw => ?_)
  refine lv_aload_n hx hb dX6_init_56 rfl (lv_at hl 0 rfl) ?_
  refine lv_iconst (v := 0) hx hb dX6_init_57 (by decide) ?_
  refine z_puti M hw ((zs_ne _ _ (by omega)).trans ((zs_ne _ _ (by omega)).trans ((zs_ne _ _ (by omega)).trans ((zs_ne _ _ (by omega)).trans ((zs_ne _ _ (by omega)).trans ((zs_ne _ _ (by omega)).trans ((zs_ne _ _ (by omega)).trans ((zs_ne _ _ (by omega)).trans ht)))))))) zf_X6_44 (Or.inl rfl) rfl rfl dX6_init_58 (fun H locs hw => ?_)
  refine lv_aload_n hx hb dX6_init_61 rfl (lv_at hl 0 rfl) ?_
  refine lv_iconst (v := 0) hx hb dX6_init_62 (by decide) ?_
  refine z_puti M hw ((zs_ne _ _ (by omega)).trans ((zs_ne _ _ (by omega)).trans ((zs_ne _ _ (by omega)).trans ((zs_ne _ _ (by omega)).trans ((zs_ne _ _ (by omega)).trans ((zs_ne _ _ (by omega)).trans ((zs_ne _ _ (by omega)).trans ((zs_ne _ _ (by omega)).trans ht)))))))) zf_X6_48 (Or.inl rfl) rfl rfl dX6_init_63 (fun H locs hw => ?_)
  exact z_vret hx hb hr hw.2 ⟨_, hag10, hw.1⟩ (Nat.le_of_ble_eq_true rfl) (Nat.le_of_ble_eq_true rfl) dX6_init_66 hlocks
