set_option maxHeartbeats 4000000 in
set_option maxRecDepth 100000 in
theorem c_X7_init (l : Launch) (base : Nat) (D : va_G) (cA : Nat → ClassId) (ad : Nat → Nat) (ty : zTyp) (I : zIt) (L : zLt) (P : zPt) (n0 : Nat) (ht : ty 128 = some (7, n0)) (hf131 : ty 131 = none) (hf132 : ty 132 = none) (hf134 : ty 134 = none) (hf135 : ty 135 = none) (hf136 : ty 136 = none) (hf137 : ty 137 = none) (hf138 : ty 138 = none) (hf140 : ty 140 = none) (hf142 : ty 142 = none) (hf143 : ty 143 = none) (hf144 : ty 144 = none) (hf145 : ty 145 = none) (hf146 : ty 146 = none) (hf147 : ty 147 = none) (hf148 : ty 148 = none) (hf150 : ty 150 = none) (hf151 : ty 151 = none) (hf152 : ty 152 = none) (hf153 : ty 153 = none) (hf154 : ty 154 = none) (hf155 : ty 155 = none) (hf156 : ty 156 = none) (hf157 : ty 157 = none) (hf158 : ty 158 = none) : zMv l base D cA yX7_init cX7_init 1 1 12 24 402 [.ref (ad 128)] (zW base D cA ad ty I L P) (fun H => ∃ ad2, (∀ κ t, ty κ = some t → ad2 κ = ad κ) ∧ zW base D cA ad2 (zs (zs (zs (zs (zs (zs (zs (zs (zs (zs (zs (zs (zs (zs (zs (zs (zs (zs (zs (zs (zs (zs (zs (zs ty 131 (some (8, 10))) 132 (some (8, 10))) 134 (some (8, 16))) 135 (some (8, 16))) 136 (some (8, 16))) 137 (some (8, 16))) 138 (some (8, 16))) 140 (some (8, 128))) 142 (some (8, 4))) 143 (some (8, 4))) 144 (some (8, 4))) 145 (some (8, 4))) 146 (some (8, 4))) 147 (some (8, 4))) 148 (some (8, 4))) 150 (some (8, 12))) 151 (some (8, 12))) 152 (some (8, 12))) 153 (some (8, 12))) 154 (some (8, 12))) 155 (some (8, 12))) 156 (some (9, 48))) 157 (some (9, 10))) 158 (some (10, 16))) (zs (zs (zs (zs (zs (zs (zs (zs (zs (zs (zs (zs (zs (zs (zs (zs (zs (zs (zs (zs (zs (zs (zs (zs I 131 (fun _ => 0)) 132 (fun _ => 0)) 134 (fun _ => 0)) 135 (fun _ => 0)) 136 (fun _ => 0)) 137 (fun _ => 0)) 138 (fun _ => 0)) 140 (fun _ => 0)) 142 (fun _ => 0)) 143 (fun _ => 0)) 144 (fun _ => 0)) 145 (fun _ => 0)) 146 (fun _ => 0)) 147 (fun _ => 0)) 148 (fun _ => 0)) 150 (fun _ => 0)) 151 (fun _ => 0)) 152 (fun _ => 0)) 153 (fun _ => 0)) 154 (fun _ => 0)) 155 (fun _ => 0)) 156 (fun _ => 0)) 157 (fun _ => 0)) 158 (fun _ => 0)) (zs (zs (zs (zs (zs (zs (zs (zs (zs (zs (zs (zs (zs (zs (zs (zs (zs (zs (zs (zs (zs (zs (zs (zs L 131 (fun _ => 0)) 132 (fun _ => 0)) 134 (fun _ => 0)) 135 (fun _ => 0)) 136 (fun _ => 0)) 137 (fun _ => 0)) 138 (fun _ => 0)) 140 (fun _ => 0)) 142 (fun _ => 0)) 143 (fun _ => 0)) 144 (fun _ => 0)) 145 (fun _ => 0)) 146 (fun _ => 0)) 147 (fun _ => 0)) 148 (fun _ => 0)) 150 (fun _ => 0)) 151 (fun _ => 0)) 152 (fun _ => 0)) 153 (fun _ => 0)) 154 (fun _ => 0)) 155 (fun _ => 0)) 156 (fun _ => 0)) 157 (fun _ => 0)) 158 (fun _ => 0)) (zu (zs (zu (zs (zu (zs (zu (zs (zu (zs (zu (zs (zu (zs (zu (zs (zu (zs (zu (zs (zu (zs (zu (zs (zu (zs (zu (zs (zu (zs (zu (zs (zu (zs (zu (zs (zu (zs (zu (zs (zu (zs (zu (zs (zu (zs (zu (zs P 131 (fun _ => none)) 128 3 (some 131)) 132 (fun _ => none)) 128 4 (some 132)) 134 (fun _ => none)) 128 6 (some 134)) 135 (fun _ => none)) 128 7 (some 135)) 136 (fun _ => none)) 128 8 (some 136)) 137 (fun _ => none)) 128 9 (some 137)) 138 (fun _ => none)) 128 10 (some 138)) 140 (fun _ => none)) 128 12 (some 140)) 142 (fun _ => none)) 128 14 (some 142)) 143 (fun _ => none)) 128 15 (some 143)) 144 (fun _ => none)) 128 16 (some 144)) 145 (fun _ => none)) 128 17 (some 145)) 146 (fun _ => none)) 128 18 (some 146)) 147 (fun _ => none)) 128 19 (some 147)) 148 (fun _ => none)) 128 20 (some 148)) 150 (fun _ => none)) 128 22 (some 150)) 151 (fun _ => none)) 128 23 (some 151)) 152 (fun _ => none)) 128 24 (some 152)) 153 (fun _ => none)) 128 25 (some 153)) 154 (fun _ => none)) 128 26 (some 154)) 155 (fun _ => none)) 128 27 (some 155)) 156 (fun _ => none)) 128 28 (some 156)) 157 (fun _ => none)) 128 29 (some 157)) 158 (fun _ => none)) 128 30 (some 158)) H) := by
  refine z_start (by decide +kernel) (Nat.le_of_ble_eq_true rfl) fun p e s m below meth c ls M hP hS hl hr hlocks hnm => ?_
  have M : zM p s m c cX7_init RX7 1 base D cA := M
  have hw : zH base D cA s s.heap [] ad ty I L P := ⟨hP, hS⟩
  obtain ⟨hx, hb, -⟩ := id M
  have hl : lv_has ls 1 [(0, .ref (ad 128))] := hl
  refine lv_aload_n hx hb dX7_init_0 rfl (lv_at hl 0 rfl) ?_
  refine W.objInit hx hb M.2.2.2.1 (M.2.2.2.2.1.use (tb 656 (by decide +kernel)) rfl) (M.2.2.2.2.1.use (tb 23 (by decide +kernel)) rfl) (M.2.2.2.2.1.use (tb 24 (by decide +kernel)) rfl) rfl (by rw [M.2.2.1]; exact hl.1) rfl dX7_init_1 (Nat.le_of_ble_eq_true rfl) (Nat.le_of_ble_eq_true rfl) ?_
  refine W.eq (g2 := F0 m 4 ls []) rfl ?_
  refine lv_aload_n hx hb dX7_init_4 rfl (lv_at hl 0 rfl) ?_
  refine lv_bipush (v := 10) hx hb dX7_init_5 (by decide) ?_
  refine z_newarr (e9 := 0) (N := 10) M hw 131 hf131 ⟨by decide, rfl⟩ (tb 56 (by decide +kernel)) (by decide) (by decide) (by decide) (Nat.le_of_ble_eq_true rfl) (Nat.le_of_ble_eq_true rfl) dX7_init_7 (fun a1 H hw => ?_)
  obtain ⟨ad1, had1⟩ : ∃ z, z = zs ad 131 a1 := ⟨_, rfl⟩
  rw [← had1] at hw ⊢
  have ea2 : ad 128 = ad1 128 := by rw [had1, zs_ne _ _ (by omega)]
  rw [ea2] at hl
  refine W.eq (g2 := F0 m 9 ls [.ref (ad1 131), .ref (ad1 128)]) (by rw [ea2]) ?_
  have hag1 : ∀ κ t, ty κ = some t → ad1 κ = ad κ := fun κ t h => (show ad1 κ = ad κ by rw [had1]; exact zs_ne _ _ (fun e => by rw [e] at h; exact absurd (h.symm.trans hf131) (by simp)))
  refine z_putr M hw ((zs_ne _ _ (by omega)).trans ht) zf_X7_7 (Or.inr ⟨rfl, rfl, hnm⟩) (zs_self _ _ _) (fun _ => rfl) (fun _ => rfl) dX7_init_9 (fun H locs hw => ?_)
  refine lv_aload_n hx hb dX7_init_12 rfl (lv_at hl 0 rfl) ?_
  refine lv_bipush (v := 10) hx hb dX7_init_13 (by decide) ?_
  refine z_newarr (e9 := 0) (N := 10) M hw 132 ((zs_ne _ _ (by omega)).trans hf132) ⟨by decide, rfl⟩ (tb 56 (by decide +kernel)) (by decide) (by decide) (by decide) (Nat.le_of_ble_eq_true rfl) (Nat.le_of_ble_eq_true rfl) dX7_init_15 (fun a3 H hw => ?_)
  obtain ⟨ad3, had3⟩ : ∃ z, z = zs ad1 132 a3 := ⟨_, rfl⟩
  rw [← had3] at hw ⊢
  have ea4 : ad1 128 = ad3 128 := by rw [had3, zs_ne _ _ (by omega)]
  rw [ea4] at hl
  refine W.eq (g2 := F0 m 17 ls [.ref (ad3 132), .ref (ad3 128)]) (by rw [ea4]) ?_
  have hag3 : ∀ κ t, ty κ = some t → ad3 κ = ad κ := fun κ t h => (show ad3 κ = ad1 κ by rw [had3]; exact zs_ne _ _ (fun e => by rw [e] at h; exact absurd (h.symm.trans hf132) (by simp))).trans (hag1 κ t h)
  refine z_putr M hw ((zs_ne _ _ (by omega)).trans ((zs_ne _ _ (by omega)).trans ht)) zf_X7_13 (Or.inr ⟨rfl, rfl, hnm⟩) (zs_self _ _ _) (fun _ => rfl) (fun _ => rfl) dX7_init_17 (fun H locs hw => ?_)
  refine lv_aload_n hx hb dX7_init_20 rfl (lv_at hl 0 rfl) ?_
  refine lv_bipush (v := 16) hx hb dX7_init_21 (by decide) ?_
  refine z_newarr (e9 := 0) (N := 16) M hw 134 ((zs_ne _ _ (by omega)).trans ((zs_ne _ _ (by omega)).trans hf134)) ⟨by decide, rfl⟩ (tb 56 (by decide +kernel)) (by decide) (by decide) (by decide) (Nat.le_of_ble_eq_true rfl) (Nat.le_of_ble_eq_true rfl) dX7_init_23 (fun a5 H hw => ?_)
  obtain ⟨ad5, had5⟩ : ∃ z, z = zs ad3 134 a5 := ⟨_, rfl⟩
  rw [← had5] at hw ⊢
  have ea6 : ad3 128 = ad5 128 := by rw [had5, zs_ne _ _ (by omega)]
  rw [ea6] at hl
  refine W.eq (g2 := F0 m 25 ls [.ref (ad5 134), .ref (ad5 128)]) (by rw [ea6]) ?_
  have hag5 : ∀ κ t, ty κ = some t → ad5 κ = ad κ := fun κ t h => (show ad5 κ = ad3 κ by rw [had5]; exact zs_ne _ _ (fun e => by rw [e] at h; exact absurd (h.symm.trans hf134) (by simp))).trans (hag3 κ t h)
  refine z_putr M hw ((zs_ne _ _ (by omega)).trans ((zs_ne _ _ (by omega)).trans ((zs_ne _ _ (by omega)).trans ht))) zf_X7_16 (Or.inr ⟨rfl, rfl, hnm⟩) (zs_self _ _ _) (fun _ => rfl) (fun _ => rfl) dX7_init_25 (fun H locs hw => ?_)
  refine lv_aload_n hx hb dX7_init_28 rfl (lv_at hl 0 rfl) ?_
  refine lv_bipush (v := 16) hx hb dX7_init_29 (by decide) ?_
  refine z_newarr (e9 := 0) (N := 16) M hw 135 ((zs_ne _ _ (by omega)).trans ((zs_ne _ _ (by omega)).trans ((zs_ne _ _ (by omega)).trans hf135))) ⟨by decide, rfl⟩ (tb 56 (by decide +kernel)) (by decide) (by decide) (by decide) (Nat.le_of_ble_eq_true rfl) (Nat.le_of_ble_eq_true rfl) dX7_init_31 (fun a7 H hw => ?_)
  obtain ⟨ad7, had7⟩ : ∃ z, z = zs ad5 135 a7 := ⟨_, rfl⟩
  rw [← had7] at hw ⊢
  have ea8 : ad5 128 = ad7 128 := by rw [had7, zs_ne _ _ (by omega)]
  rw [ea8] at hl
  refine W.eq (g2 := F0 m 33 ls [.ref (ad7 135), .ref (ad7 128)]) (by rw [ea8]) ?_
  have hag7 : ∀ κ t, ty κ = some t → ad7 κ = ad κ := fun κ t h => (show ad7 κ = ad5 κ by rw [had7]; exact zs_ne _ _ (fun e => by rw [e] at h; exact absurd (h.symm.trans hf135) (by simp))).trans (hag5 κ t h)
  refine z_putr M hw ((zs_ne _ _ (by omega)).trans ((zs_ne _ _ (by omega)).trans ((zs_ne _ _ (by omega)).trans ((zs_ne _ _ (by omega)).trans ht)))) zf_X7_19 (Or.inr ⟨rfl, rfl, hnm⟩) (zs_self _ _ _) (fun _ => rfl) (fun _ => rfl) dX7_init_33 (fun H locs hw => ?_)
  refine lv_aload_n hx hb dX7_init_36 rfl (lv_at hl 0 rfl) ?_
  refine lv_bipush (v := 16) hx hb dX7_init_37 (by decide) ?_
  refine z_newarr (e9 := 0) (N := 16) M hw 136 ((zs_ne _ _ (by omega)).trans ((zs_ne _ _ (by omega)).trans ((zs_ne _ _ (by omega)).trans ((zs_ne _ _ (by omega)).trans hf136)))) ⟨by decide, rfl⟩ (tb 56 (by decide +kernel)) (by decide) (by decide) (by decide) (Nat.le_of_ble_eq_true rfl) (Nat.le_of_ble_eq_true rfl) dX7_init_39 (fun a9 H hw => ?_)
  obtain ⟨ad9, had9⟩ : ∃ z, z = zs ad7 136 a9 := ⟨_, rfl⟩
  rw [← had9] at hw ⊢
  have ea10 : ad7 128 = ad9 128 := by rw [had9, zs_ne _ _ (by omega)]
  rw [ea10] at hl
  refine W.eq (g2 := F0 m 41 ls [.ref (ad9 136), .ref (ad9 128)]) (by rw [ea10]) ?_
  have hag9 : ∀ κ t, ty κ = some t → ad9 κ = ad κ := fun κ t h => (show ad9 κ = ad7 κ by rw [had9]; exact zs_ne _ _ (fun e => by rw [e] at h; exact absurd (h.symm.trans hf136) (by simp))).trans (hag7 κ t h)
  refine z_putr M hw ((zs_ne _ _ (by omega)).trans ((zs_ne _ _ (by omega)).trans ((zs_ne _ _ (by omega)).trans ((zs_ne _ _ (by omega)).trans ((zs_ne _ _ (by omega)).trans ht))))) zf_X7_22 (Or.inr ⟨rfl, rfl, hnm⟩) (zs_self _ _ _) (fun _ => rfl) (fun _ => rfl) dX7_init_41 (fun H locs hw => ?_)
  refine lv_aload_n hx hb dX7_init_44 rfl (lv_at hl 0 rfl) ?_
  refine lv_bipush (v := 16) hx hb dX7_init_45 (by decide) ?_
  refine z_newarr (e9 := 0) (N := 16) M hw 137 ((zs_ne _ _ (by omega)).trans ((zs_ne _ _ (by omega)).trans ((zs_ne _ _ (by omega)).trans ((zs_ne _ _ (by omega)).trans ((zs_ne _ _ (by omega)).trans hf137))))) ⟨by decide, rfl⟩ (tb 56 (by decide +kernel)) (by decide) (by decide) (by decide) (Nat.le_of_ble_eq_true rfl) (Nat.le_of_ble_eq_true rfl) dX7_init_47 (fun a11 H hw => ?_)
  obtain ⟨ad11, had11⟩ : ∃ z, z = zs ad9 137 a11 := ⟨_, rfl⟩
  rw [← had11] at hw ⊢
  have ea12 : ad9 128 = ad11 128 := by rw [had11, zs_ne _ _ (by omega)]
  rw [ea12] at hl
  refine W.eq (g2 := F0 m 49 ls [.ref (ad11 137), .ref (ad11 128)]) (by rw [ea12]) ?_
  have hag11 : ∀ κ t, ty κ = some t → ad11 κ = ad κ := fun κ t h => (show ad11 κ = ad9 κ by rw [had11]; exact zs_ne _ _ (fun e => by rw [e] at h; exact absurd (h.symm.trans hf137) (by simp))).trans (hag9 κ t h)
  refine z_putr M hw ((zs_ne _ _ (by omega)).trans ((zs_ne _ _ (by omega)).trans ((zs_ne _ _ (by omega)).trans ((zs_ne _ _ (by omega)).trans ((zs_ne _ _ (by omega)).trans ((zs_ne _ _ (by omega)).trans ht)))))) zf_X7_25 (Or.inr ⟨rfl, rfl, hnm⟩) (zs_self _ _ _) (fun _ => rfl) (fun _ => rfl) dX7_init_49 (fun H locs hw => ?_)
  refine lv_aload_n hx hb dX7_init_52 rfl (lv_at hl 0 rfl) ?_
  refine lv_bipush (v := 16) hx hb dX7_init_53 (by decide) ?_
  refine z_newarr (e9 := 0) (N := 16) M hw 138 ((zs_ne _ _ (by omega)).trans ((zs_ne _ _ (by omega)).trans ((zs_ne _ _ (by omega)).trans ((zs_ne _ _ (by omega)).trans ((zs_ne _ _ (by omega)).trans ((zs_ne _ _ (by omega)).trans hf138)))))) ⟨by decide, rfl⟩ (tb 56 (by decide +kernel)) (by decide) (by decide) (by decide) (Nat.le_of_ble_eq_true rfl) (Nat.le_of_ble_eq_true rfl) dX7_init_55 (fun a13 H hw => ?_)
  obtain ⟨ad13, had13⟩ : ∃ z, z = zs ad11 138 a13 := ⟨_, rfl⟩
  rw [← had13] at hw ⊢
  have ea14 : ad11 128 = ad13 128 := by rw [had13, zs_ne _ _ (by omega)]
  rw [ea14] at hl
  refine W.eq (g2 := F0 m 57 ls [.ref (ad13 138), .ref (ad13 128)]) (by rw [ea14]) ?_
  have hag13 : ∀ κ t, ty κ = some t → ad13 κ = ad κ := fun κ t h => (show ad13 κ = ad11 κ by rw [had13]; exact zs_ne _ _ (fun e => by rw [e] at h; exact absurd (h.symm.trans hf138) (by simp))).trans (hag11 κ t h)
  refine z_putr M hw ((zs_ne _ _ (by omega)).trans ((zs_ne _ _ (by omega)).trans ((zs_ne _ _ (by omega)).trans ((zs_ne _ _ (by omega)).trans ((zs_ne _ _ (by omega)).trans ((zs_ne _ _ (by omega)).trans ((zs_ne _ _ (by omega)).trans ht))))))) zf_X7_28 (Or.inr ⟨rfl, rfl, hnm⟩) (zs_self _ _ _) (fun _ => rfl) (fun _ => rfl) dX7_init_57 (fun H locs hw => ?_)
  refine lv_aload_n hx hb dX7_init_60 rfl (lv_at hl 0 rfl) ?_
  refine lv_sipush (v := 128) hx hb dX7_init_61 (by decide) ?_
  refine z_newarr (e9 := 0) (N := 128) M hw 140 ((zs_ne _ _ (by omega)).trans ((zs_ne _ _ (by omega)).trans ((zs_ne _ _ (by omega)).trans ((zs_ne _ _ (by omega)).trans ((zs_ne _ _ (by omega)).trans ((zs_ne _ _ (by omega)).trans ((zs_ne _ _ (by omega)).trans hf140))))))) ⟨by decide, rfl⟩ (tb 56 (by decide +kernel)) (by decide) (by decide) (by decide) (Nat.le_of_ble_eq_true rfl) (Nat.le_of_ble_eq_true rfl) dX7_init_64 (fun a15 H hw => ?_)
  obtain ⟨ad15, had15⟩ : ∃ z, z = zs ad13 140 a15 := ⟨_, rfl⟩
  rw [← had15] at hw ⊢
  have ea16 : ad13 128 = ad15 128 := by rw [had15, zs_ne _ _ (by omega)]
  rw [ea16] at hl
  refine W.eq (g2 := F0 m 66 ls [.ref (ad15 140), .ref (ad15 128)]) (by rw [ea16]) ?_
  have hag15 : ∀ κ t, ty κ = some t → ad15 κ = ad κ := fun κ t h => (show ad15 κ = ad13 κ by rw [had15]; exact zs_ne _ _ (fun e => by rw [e] at h; exact absurd (h.symm.trans hf140) (by simp))).trans (hag13 κ t h)
  refine z_putr M hw ((zs_ne _ _ (by omega)).trans ((zs_ne _ _ (by omega)).trans ((zs_ne _ _ (by omega)).trans ((zs_ne _ _ (by omega)).trans ((zs_ne _ _ (by omega)).trans ((zs_ne _ _ (by omega)).trans ((zs_ne _ _ (by omega)).trans ((zs_ne _ _ (by omega)).trans ht)))))))) zf_X7_31 (Or.inr ⟨rfl, rfl, hnm⟩) (zs_self _ _ _) (fun _ => rfl) (fun _ => rfl) dX7_init_66 (fun H locs hw => ?_)
  refine lv_aload_n hx hb dX7_init_69 rfl (lv_at hl 0 rfl) ?_
  refine lv_iconst (v := 4) hx hb dX7_init_70 (by decide) ?_
  refine z_newarr (e9 := 0) (N := 4) M hw 142 ((zs_ne _ _ (by omega)).trans ((zs_ne _ _ (by omega)).trans ((zs_ne _ _ (by omega)).trans ((zs_ne _ _ (by omega)).trans ((zs_ne _ _ (by omega)).trans ((zs_ne _ _ (by omega)).trans ((zs_ne _ _ (by omega)).trans ((zs_ne _ _ (by omega)).trans hf142)))))))) ⟨by decide, rfl⟩ (tb 56 (by decide +kernel)) (by decide) (by decide) (by decide) (Nat.le_of_ble_eq_true rfl) (Nat.le_of_ble_eq_true rfl) dX7_init_71 (fun a17 H hw => ?_)
  obtain ⟨ad17, had17⟩ : ∃ z, z = zs ad15 142 a17 := ⟨_, rfl⟩
  rw [← had17] at hw ⊢
  have ea18 : ad15 128 = ad17 128 := by rw [had17, zs_ne _ _ (by omega)]
  rw [ea18] at hl
  refine W.eq (g2 := F0 m 73 ls [.ref (ad17 142), .ref (ad17 128)]) (by rw [ea18]) ?_
  have hag17 : ∀ κ t, ty κ = some t → ad17 κ = ad κ := fun κ t h => (show ad17 κ = ad15 κ by rw [had17]; exact zs_ne _ _ (fun e => by rw [e] at h; exact absurd (h.symm.trans hf142) (by simp))).trans (hag15 κ t h)
  refine z_putr M hw ((zs_ne _ _ (by omega)).trans ((zs_ne _ _ (by omega)).trans ((zs_ne _ _ (by omega)).trans ((zs_ne _ _ (by omega)).trans ((zs_ne _ _ (by omega)).trans ((zs_ne _ _ (by omega)).trans ((zs_ne _ _ (by omega)).trans ((zs_ne _ _ (by omega)).trans ((zs_ne _ _ (by omega)).trans ht))))))))) zf_X7_34 (Or.inr ⟨rfl, rfl, hnm⟩) (zs_self _ _ _) (fun _ => rfl) (fun _ => rfl) dX7_init_73 (fun H locs hw => ?_)
  refine lv_aload_n hx hb dX7_init_76 rfl (lv_at hl 0 rfl) ?_
  refine lv_iconst (v := 4) hx hb dX7_init_77 (by decide) ?_
  refine z_newarr (e9 := 0) (N := 4) M hw 143 ((zs_ne _ _ (by omega)).trans ((zs_ne _ _ (by omega)).trans ((zs_ne _ _ (by omega)).trans ((zs_ne _ _ (by omega)).trans ((zs_ne _ _ (by omega)).trans ((zs_ne _ _ (by omega)).trans ((zs_ne _ _ (by omega)).trans ((zs_ne _ _ (by omega)).trans ((zs_ne _ _ (by omega)).trans hf143))))))))) ⟨by decide, rfl⟩ (tb 56 (by decide +kernel)) (by decide) (by decide) (by decide) (Nat.le_of_ble_eq_true rfl) (Nat.le_of_ble_eq_true rfl) dX7_init_78 (fun a19 H hw => ?_)
  obtain ⟨ad19, had19⟩ : ∃ z, z = zs ad17 143 a19 := ⟨_, rfl⟩
  rw [← had19] at hw ⊢
  have ea20 : ad17 128 = ad19 128 := by rw [had19, zs_ne _ _ (by omega)]
  rw [ea20] at hl
  refine W.eq (g2 := F0 m 80 ls [.ref (ad19 143), .ref (ad19 128)]) (by rw [ea20]) ?_
  have hag19 : ∀ κ t, ty κ = some t → ad19 κ = ad κ := fun κ t h => (show ad19 κ = ad17 κ by rw [had19]; exact zs_ne _ _ (fun e => by rw [e] at h; exact absurd (h.symm.trans hf143) (by simp))).trans (hag17 κ t h)
  refine z_putr M hw ((zs_ne _ _ (by omega)).trans ((zs_ne _ _ (by omega)).trans ((zs_ne _ _ (by omega)).trans ((zs_ne _ _ (by omega)).trans ((zs_ne _ _ (by omega)).trans ((zs_ne _ _ (by omega)).trans ((zs_ne _ _ (by omega)).trans ((zs_ne _ _ (by omega)).trans ((zs_ne _ _ (by omega)).trans ((zs_ne _ _ (by omega)).trans ht)))))))))) zf_X7_37 (Or.inr ⟨rfl, rfl, hnm⟩) (zs_self _ _ _) (fun _ => rfl) (fun _ => rfl) dX7_init_80 (fun H locs hw => ?_)
  refine lv_aload_n hx hb dX7_init_83 rfl (lv_at hl 0 rfl) ?_
  refine lv_iconst (v := 4) hx hb dX7_init_84 (by decide) ?_
  refine z_newarr (e9 := 0) (N := 4) M hw 144 ((zs_ne _ _ (by omega)).trans ((zs_ne _ _ (by omega)).trans ((zs_ne _ _ (by omega)).trans ((zs_ne _ _ (by omega)).trans ((zs_ne _ _ (by omega)).trans ((zs_ne _ _ (by omega)).trans ((zs_ne _ _ (by omega)).trans ((zs_ne _ _ (by omega)).trans ((zs_ne _ _ (by omega)).trans ((zs_ne _ _ (by omega)).trans hf144)))))))))) ⟨by decide, rfl⟩ (tb 56 (by decide +kernel)) (by decide) (by decide) (by decide) (Nat.le_of_ble_eq_true rfl) (Nat.le_of_ble_eq_true rfl) dX7_init_85 (fun a21 H hw => ?_)
  obtain ⟨ad21, had21⟩ : ∃ z, z = zs ad19 144 a21 := ⟨_, rfl⟩
  rw [← had21] at hw ⊢
  have ea22 : ad19 128 = ad21 128 := by rw [had21, zs_ne _ _ (by omega)]
  rw [ea22] at hl
  refine W.eq (g2 := F0 m 87 ls [.ref (ad21 144), .ref (ad21 128)]) (by rw [ea22]) ?_
  have hag21 : ∀ κ t, ty κ = some t → ad21 κ = ad κ := fun κ t h => (show ad21 κ = ad19 κ by rw [had21]; exact zs_ne _ _ (fun e => by rw [e] at h; exact absurd (h.symm.trans hf144) (by simp))).trans (hag19 κ t h)
  refine z_putr M hw ((zs_ne _ _ (by omega)).trans ((zs_ne _ _ (by omega)).trans ((zs_ne _ _ (by omega)).trans ((zs_ne _ _ (by omega)).trans ((zs_ne _ _ (by omega)).trans ((zs_ne _ _ (by omega)).trans ((zs_ne _ _ (by omega)).trans ((zs_ne _ _ (by omega)).trans ((zs_ne _ _ (by omega)).trans ((zs_ne _ _ (by omega)).trans ((zs_ne _ _ (by omega)).trans ht))))))))))) zf_X7_40 (Or.inr ⟨rfl, rfl, hnm⟩) (zs_self _ _ _) (fun _ => rfl) (fun _ => rfl) dX7_init_87 (fun H locs hw => ?_)
  refine lv_aload_n hx hb dX7_init_90 rfl (lv_at hl 0 rfl) ?_
  refine lv_iconst (v := 4) hx hb dX7_init_91 (by decide) ?_
  refine z_newarr (e9 := 0) (N := 4) M hw 145 ((zs_ne _ _ (by omega)).trans ((zs_ne _ _ (by omega)).trans ((zs_ne _ _ (by omega)).trans ((zs_ne _ _ (by omega)).trans ((zs_ne _ _ (by omega)).trans ((zs_ne _ _ (by omega)).trans ((zs_ne _ _ (by omega)).trans ((zs_ne _ _ (by omega)).trans ((zs_ne _ _ (by omega)).trans ((zs_ne _ _ (by omega)).trans ((zs_ne _ _ (by omega)).trans hf145))))))))))) ⟨by decide, rfl⟩ (tb 56 (by decide +kernel)) (by decide) (by decide) (by decide) (Nat.le_of_ble_eq_true rfl) (Nat.le_of_ble_eq_true rfl) dX7_init_92 (fun a23 H hw => ?_)
  obtain ⟨ad23, had23⟩ : ∃ z, z = zs ad21 145 a23 := ⟨_, rfl⟩
  rw [← had23] at hw ⊢
  have ea24 : ad21 128 = ad23 128 := by rw [had23, zs_ne _ _ (by omega)]
  rw [ea24] at hl
  refine W.eq (g2 := F0 m 94 ls [.ref (ad23 145), .ref (ad23 128)]) (by rw [ea24]) ?_
  have hag23 : ∀ κ t, ty κ = some t → ad23 κ = ad κ := fun κ t h => (show ad23 κ = ad21 κ by rw [had23]; exact zs_ne _ _ (fun e => by rw [e] at h; exact absurd (h.symm.trans hf145) (by simp))).trans (hag21 κ t h)
  refine z_putr M hw ((zs_ne _ _ (by omega)).trans ((zs_ne _ _ (by omega)).trans ((zs_ne _ _ (by omega)).trans ((zs_ne _ _ (by omega)).trans ((zs_ne _ _ (by omega)).trans ((zs_ne _ _ (by omega)).trans ((zs_ne _ _ (by omega)).trans ((zs_ne _ _ (by omega)).trans ((zs_ne _ _ (by omega)).trans ((zs_ne _ _ (by omega)).trans ((zs_ne _ _ (by omega)).trans ((zs_ne _ _ (by omega)).trans ht)))))))))))) zf_X7_43 (Or.inr ⟨rfl, rfl, hnm⟩) (zs_self _ _ _) (fun _ => rfl) (fun _ => rfl) dX7_init_94 (fun H locs hw => ?_)
  refine lv_aload_n hx hb dX7_init_97 rfl (lv_at hl 0 rfl) ?_
  refine lv_iconst (v := 4) hx hb dX7_init_98 (by decide) ?_
  refine z_newarr (e9 := 0) (N := 4) M hw 146 ((zs_ne _ _ (by omega)).trans ((zs_ne _ _ (by omega)).trans ((zs_ne _ _ (by omega)).trans ((zs_ne _ _ (by omega)).trans ((zs_ne _ _ (by omega)).trans ((zs_ne _ _ (by omega)).trans ((zs_ne _ _ (by omega)).trans ((zs_ne _ _ (by omega)).trans ((zs_ne _ _ (by omega)).trans ((zs_ne _ _ (by omega)).trans ((zs_ne _ _ (by omega)).trans ((zs_ne _ _ (by omega)).trans hf146)))))))))))) ⟨by decide, rfl⟩ (tb 56 (by decide +kernel)) (by decide) (by decide) (by decide) (Nat.le_of_ble_eq_true rfl) (Nat.le_of_ble_eq_true rfl) dX7_init_99 (fun a25 H hw => ?_)
  obtain ⟨ad25, had25⟩ : ∃ z, z = zs ad23 146 a25 := ⟨_, rfl⟩
  rw [← had25] at hw ⊢
  have ea26 : ad23 128 = ad25 128 := by rw [had25, zs_ne _ _ (by omega)]
  rw [ea26] at hl
  refine W.eq (g2 := F0 m 101 ls [.ref (ad25 146), .ref (ad25 128)]) (by rw [ea26]) ?_
  have hag25 : ∀ κ t, ty κ = some t → ad25 κ = ad κ := fun κ t h => (show ad25 κ = ad23 κ by rw [had25]; exact zs_ne _ _ (fun e => by rw [e] at h; exact absurd (h.symm.trans hf146) (by simp))).trans (hag23 κ t h)
  refine z_putr M hw ((zs_ne _ _ (by omega)).trans ((zs_ne _ _ (by omega)).trans ((zs_ne _ _ (by omega)).trans ((zs_ne _ _ (by omega)).trans ((zs_ne _ _ (by omega)).trans ((zs_ne _ _ (by omega)).trans ((zs_ne _ _ (by omega)).trans ((zs_ne _ _ (by omega)).trans ((zs_ne _ _ (by omega)).trans ((zs_ne _ _ (by omega)).trans ((zs_ne _ _ (by omega)).trans ((zs_ne _ _ (by omega)).trans ((zs_ne _ _ (by omega)).trans ht))))))))))))) zf_X7_46 (Or.inr ⟨rfl, rfl, hnm⟩) (zs_self _ _ _) (fun _ => rfl) (fun _ => rfl) dX7_init_101 (fun H locs hw => ?_)
  refine lv_aload_n hx hb dX7_init_104 rfl (lv_at hl 0 rfl) ?_
  refine lv_iconst (v := 4) hx hb dX7_init_105 (by decide) ?_
  refine z_newarr (e9 := 0) (N := 4) M hw 147 ((zs_ne _ _ (by omega)).trans ((zs_ne _ _ (by omega)).trans ((zs_ne _ _ (by omega)).trans ((zs_ne _ _ (by omega)).trans ((zs_ne _ _ (by omega)).trans ((zs_ne _ _ (by omega)).trans ((zs_ne _ _ (by omega)).trans ((zs_ne _ _ (by omega)).trans ((zs_ne _ _ (by omega)).trans ((zs_ne _ _ (by omega)).trans ((zs_ne _ _ (by omega)).trans ((zs_ne _ _ (by omega)).trans ((zs_ne _ _ (by omega)).trans hf147))))))))))))) ⟨by decide, rfl⟩ (tb 56 (by decide +kernel)) (by decide) (by decide) (by decide) (Nat.le_of_ble_eq_true rfl) (Nat.le_of_ble_eq_true rfl) dX7_init_106 (fun a27 H hw => ?_)
  obtain ⟨ad27, had27⟩ : ∃ z, z = zs ad25 147 a27 := ⟨_, rfl⟩
  rw [← had27] at hw ⊢
  have ea28 : ad25 128 = ad27 128 := by rw [had27, zs_ne _ _ (by omega)]
  rw [ea28] at hl
  refine W.eq (g2 := F0 m 108 ls [.ref (ad27 147), .ref (ad27 128)]) (by rw [ea28]) ?_
  have hag27 : ∀ κ t, ty κ = some t → ad27 κ = ad κ := fun κ t h => (show ad27 κ = ad25 κ by rw [had27]; exact zs_ne _ _ (fun e => by rw [e] at h; exact absurd (h.symm.trans hf147) (by simp))).trans (hag25 κ t h)
  refine z_putr M hw ((zs_ne _ _ (by omega)).trans ((zs_ne _ _ (by omega)).trans ((zs_ne _ _ (by omega)).trans ((zs_ne _ _ (by omega)).trans ((zs_ne _ _ (by omega)).trans ((zs_ne _ _ (by omega)).trans ((zs_ne _ _ (by omega)).trans ((zs_ne _ _ (by omega)).trans ((zs_ne _ _ (by omega)).trans ((zs_ne _ _ (by omega)).trans ((zs_ne _ _ (by omega)).trans ((zs_ne _ _ (by omega)).trans ((zs_ne _ _ (by omega)).trans ((zs_ne _ _ (by omega)).trans ht)))))))))))))) zf_X7_49 (Or.inr ⟨rfl, rfl, hnm⟩) (zs_self _ _ _) (fun _ => rfl) (fun _ => rfl) dX7_init_108 (fun H locs hw => ?_)
  refine lv_aload_n hx hb dX7_init_111 rfl (lv_at hl 0 rfl) ?_
  refine lv_iconst (v := 4) hx hb dX7_init_112 (by decide) ?_
  refine z_newarr (e9 := 0) (N := 4) M hw 148 ((zs_ne _ _ (by omega)).trans ((zs_ne _ _ (by omega)).trans ((zs_ne _ _ (by omega)).trans ((zs_ne _ _ (by omega)).trans ((zs_ne _ _ (by omega)).trans ((zs_ne _ _ (by omega)).trans ((zs_ne _ _ (by omega)).trans ((zs_ne _ _ (by omega)).trans ((zs_ne _ _ (by omega)).trans ((zs_ne _ _ (by omega)).trans ((zs_ne _ _ (by omega)).trans ((zs_ne _ _ (by omega)).trans ((zs_ne _ _ (by omega)).trans ((zs_ne _ _ (by omega)).trans hf148)))))))))))))) ⟨by decide, rfl⟩ (tb 56 (by decide +kernel)) (by decide) (by decide) (by decide) (Nat.le_of_ble_eq_true rfl) (Nat.le_of_ble_eq_true rfl) dX7_init_113 (fun a29 H hw => ?_)
  obtain ⟨ad29, had29⟩ : ∃ z, z = zs ad27 148 a29 := ⟨_, rfl⟩
  rw [← had29] at hw ⊢
  have ea30 : ad27 128 = ad29 128 := by rw [had29, zs_ne _ _ (by omega)]
  rw [ea30] at hl
  refine W.eq (g2 := F0 m 115 ls [.ref (ad29 148), .ref (ad29 128)]) (by rw [ea30]) ?_
  have hag29 : ∀ κ t, ty κ = some t → ad29 κ = ad κ := fun κ t h => (show ad29 κ = ad27 κ by rw [had29]; exact zs_ne _ _ (fun e => by rw [e] at h; exact absurd (h.symm.trans hf148) (by simp))).trans (hag27 κ t h)
  refine z_putr M hw ((zs_ne _ _ (by omega)).trans ((zs_ne _ _ (by omega)).trans ((zs_ne _ _ (by omega)).trans ((zs_ne _ _ (by omega)).trans ((zs_ne _ _ (by omega)).trans ((zs_ne _ _ (by omega)).trans ((zs_ne _ _ (by omega)).trans ((zs_ne _ _ (by omega)).trans ((zs_ne _ _ (by omega)).trans ((zs_ne _ _ (by omega)).trans ((zs_ne _ _ (by omega)).trans ((zs_ne _ _ (by omega)).trans ((zs_ne _ _ (by omega)).trans ((zs_ne _ _ (by omega)).trans ((zs_ne _ _ (by omega)).trans ht))))))))))))))) zf_X7_52 (Or.inr ⟨rfl, rfl, hnm⟩) (zs_self _ _ _) (fun _ => rfl) (fun _ => rfl) dX7_init_115 (fun H locs hw => ?_)
  refine lv_aload_n hx hb dX7_init_118 rfl (lv_at hl 0 rfl) ?_
  refine lv_bipush (v := 12) hx hb dX7_init_119 (by decide) ?_
  refine z_newarr (e9 := 0) (N := 12) M hw 150 ((zs_ne _ _ (by omega)).trans ((zs_ne _ _ (by omega)).trans ((zs_ne _ _ (by omega)).trans ((zs_ne _ _ (by omega)).trans ((zs_ne _ _ (by omega)).trans ((zs_ne _ _ (by omega)).trans ((zs_ne _ _ (by omega)).trans ((zs_ne _ _ (by omega)).trans ((zs_ne _ _ (by omega)).trans ((zs_ne _ _ (by omega)).trans ((zs_ne _ _ (by omega)).trans ((zs_ne _ _ (by omega)).trans ((zs_ne _ _ (by omega)).trans ((zs_ne _ _ (by omega)).trans ((zs_ne _ _ (by omega)).trans hf150))))))))))))))) ⟨by decide, rfl⟩ (tb 56 (by decide +kernel)) (by decide) (by decide) (by decide) (Nat.le_of_ble_eq_true rfl) (Nat.le_of_ble_eq_true rfl) dX7_init_121 (fun a31 H hw => ?_)
  obtain ⟨ad31, had31⟩ : ∃ z, z = zs ad29 150 a31 := ⟨_, rfl⟩
  rw [← had31] at hw ⊢
  have ea32 : ad29 128 = ad31 128 := by rw [had31, zs_ne _ _ (by omega)]
  rw [ea32] at hl
  refine W.eq (g2 := F0 m 123 ls [.ref (ad31 150), .ref (ad31 128)]) (by rw [ea32]) ?_
  have hag31 : ∀ κ t, ty κ = some t → ad31 κ = ad κ := fun κ t h => (show ad31 κ = ad29 κ by rw [had31]; exact zs_ne _ _ (fun e => by rw [e] at h; exact absurd (h.symm.trans hf150) (by simp))).trans (hag29 κ t h)
  refine z_putr M hw ((zs_ne _ _ (by omega)).trans ((zs_ne _ _ (by omega)).trans ((zs_ne _ _ (by omega)).trans ((zs_ne _ _ (by omega)).trans ((zs_ne _ _ (by omega)).trans ((zs_ne _ _ (by omega)).trans ((zs_ne _ _ (by omega)).trans ((zs_ne _ _ (by omega)).trans ((zs_ne _ _ (by omega)).trans ((zs_ne _ _ (by omega)).trans ((zs_ne _ _ (by omega)).trans ((zs_ne _ _ (by omega)).trans ((zs_ne _ _ (by omega)).trans ((zs_ne _ _ (by omega)).trans ((zs_ne _ _ (by omega)).trans ((zs_ne _ _ (by omega)).trans ht)))))))))))))))) zf_X7_55 (Or.inr ⟨rfl, rfl, hnm⟩) (zs_self _ _ _) (fun _ => rfl) (fun _ => rfl) dX7_init_123 (fun H locs hw => ?_)
  refine lv_aload_n hx hb dX7_init_126 rfl (lv_at hl 0 rfl) ?_
  refine lv_bipush (v := 12) hx hb dX7_init_127 (by decide) ?_
  refine z_newarr (e9 := 0) (N := 12) M hw 151 ((zs_ne _ _ (by omega)).trans ((zs_ne _ _ (by omega)).trans ((zs_ne _ _ (by omega)).trans ((zs_ne _ _ (by omega)).trans ((zs_ne _ _ (by omega)).trans ((zs_ne _ _ (by omega)).trans ((zs_ne _ _ (by omega)).trans ((zs_ne _ _ (by omega)).trans ((zs_ne _ _ (by omega)).trans ((zs_ne _ _ (by omega)).trans ((zs_ne _ _ (by omega)).trans ((zs_ne _ _ (by omega)).trans ((zs_ne _ _ (by omega)).trans ((zs_ne _ _ (by omega)).trans ((zs_ne _ _ (by omega)).trans ((zs_ne _ _ (by omega)).trans hf151)))))))))))))))) ⟨by decide, rfl⟩ (tb 56 (by decide +kernel)) (by decide) (by decide) (by decide) (Nat.le_of_ble_eq_true rfl) (Nat.le_of_ble_eq_true rfl) dX7_init_129 (fun a33 H hw => ?_)
  obtain ⟨ad33, had33⟩ : ∃ z, z = zs ad31 151 a33 := ⟨_, rfl⟩
  rw [← had33] at hw ⊢
  have ea34 : ad31 128 = ad33 128 := by rw [had33, zs_ne _ _ (by omega)]
  rw [ea34] at hl
  refine W.eq (g2 := F0 m 131 ls [.ref (ad33 151), .ref (ad33 128)]) (by rw [ea34]) ?_
  have hag33 : ∀ κ t, ty κ = some t → ad33 κ = ad κ := fun κ t h => (show ad33 κ = ad31 κ by rw [had33]; exact zs_ne _ _ (fun e => by rw [e] at h; exact absurd (h.symm.trans hf151) (by simp))).trans (hag31 κ t h)
  refine z_putr M hw ((zs_ne _ _ (by omega)).trans ((zs_ne _ _ (by omega)).trans ((zs_ne _ _ (by omega)).trans ((zs_ne _ _ (by omega)).trans ((zs_ne _ _ (by omega)).trans ((zs_ne _ _ (by omega)).trans ((zs_ne _ _ (by omega)).trans ((zs_ne _ _ (by omega)).trans ((zs_ne _ _ (by omega)).trans ((zs_ne _ _ (by omega)).trans ((zs_ne _ _ (by omega)).trans ((zs_ne _ _ (by omega)).trans ((zs_ne _ _ (by omega)).trans ((zs_ne _ _ (by omega)).trans ((zs_ne _ _ (by omega)).trans ((zs_ne _ _ (by omega)).trans ((zs_ne _ _ (by omega)).trans ht))))))))))))))))) zf_X7_58 (Or.inr ⟨rfl, rfl, hnm⟩) (zs_self _ _ _) (fun _ => rfl) (fun _ => rfl) dX7_init_131 (fun H locs hw => ?_)
  refine lv_aload_n hx hb dX7_init_134 rfl (lv_at hl 0 rfl) ?_
  refine lv_bipush (v := 12) hx hb dX7_init_135 (by decide) ?_
  refine z_newarr (e9 := 0) (N := 12) M hw 152 ((zs_ne _ _ (by omega)).trans ((zs_ne _ _ (by omega)).trans ((zs_ne _ _ (by omega)).trans ((zs_ne _ _ (by omega)).trans ((zs_ne _ _ (by omega)).trans ((zs_ne _ _ (by omega)).trans ((zs_ne _ _ (by omega)).trans ((zs_ne _ _ (by omega)).trans ((zs_ne _ _ (by omega)).trans ((zs_ne _ _ (by omega)).trans ((zs_ne _ _ (by omega)).trans ((zs_ne _ _ (by omega)).trans ((zs_ne _ _ (by omega)).trans ((zs_ne _ _ (by omega)).trans ((zs_ne _ _ (by omega)).trans ((zs_ne _ _ (by omega)).trans ((zs_ne _ _ (by omega)).trans hf152))))))))))))))))) ⟨by decide, rfl⟩ (tb 56 (by decide +kernel)) (by decide) (by decide) (by decide) (Nat.le_of_ble_eq_true rfl) (Nat.le_of_ble_eq_true rfl) dX7_init_137 (fun a35 H hw => ?_)
  obtain ⟨ad35, had35⟩ : ∃ z, z = zs ad33 152 a35 := ⟨_, rfl⟩
  rw [← had35] at hw ⊢
  have ea36 : ad33 128 = ad35 128 := by rw [had35, zs_ne _ _ (by omega)]
  rw [ea36] at hl
  refine W.eq (g2 := F0 m 139 ls [.ref (ad35 152), .ref (ad35 128)]) (by rw [ea36]) ?_
  have hag35 : ∀ κ t, ty κ = some t → ad35 κ = ad κ := fun κ t h => (show ad35 κ = ad33 κ by rw [had35]; exact zs_ne _ _ (fun e => by rw [e] at h; exact absurd (h.symm.trans hf152) (by simp))).trans (hag33 κ t h)
  refine z_putr M hw ((zs_ne _ _ (by omega)).trans ((zs_ne _ _ (by omega)).trans ((zs_ne _ _ (by omega)).trans ((zs_ne _ _ (by omega)).trans ((zs_ne _ _ (by omega)).trans ((zs_ne _ _ (by omega)).trans ((zs_ne _ _ (by omega)).trans ((zs_ne _ _ (by omega)).trans ((zs_ne _ _ (by omega)).trans ((zs_ne _ _ (by omega)).trans ((zs_ne _ _ (by omega)).trans ((zs_ne _ _ (by omega)).trans ((zs_ne _ _ (by omega)).trans ((zs_ne _ _ (by omega)).trans ((zs_ne _ _ (by omega)).trans ((zs_ne _ _ (by omega)).trans ((zs_ne _ _ (by omega)).trans ((zs_ne _ _ (by omega)).trans ht)))))))))))))))))) zf_X7_61 (Or.inr ⟨rfl, rfl, hnm⟩) (zs_self _ _ _) (fun _ => rfl) (fun _ => rfl) dX7_init_139 (fun H locs hw => ?_)
  refine lv_aload_n hx hb dX7_init_142 rfl (lv_at hl 0 rfl) ?_
  refine lv_bipush (v := 12) hx hb dX7_init_143 (by decide) ?_
  refine z_newarr (e9 := 0) (N := 12) M hw 153 ((zs_ne _ _ (by omega)).trans ((zs_ne _ _ (by omega)).trans ((zs_ne _ _ (by omega)).trans ((zs_ne _ _ (by omega)).trans ((zs_ne _ _ (by omega)).trans ((zs_ne _ _ (by omega)).trans ((zs_ne _ _ (by omega)).trans ((zs_ne _ _ (by omega)).trans ((zs_ne _ _ (by omega)).trans ((zs_ne _ _ (by omega)).trans ((zs_ne _ _ (by omega)).trans ((zs_ne _ _ (by omega)).trans ((zs_ne _ _ (by omega)).trans ((zs_ne _ _ (by omega)).trans ((zs_ne _ _ (by omega)).trans ((zs_ne _ _ (by omega)).trans ((zs_ne _ _ (by omega)).trans ((zs_ne _ _ (by omega)).trans hf153)))))))))))))))))) ⟨by decide, rfl⟩ (tb 56 (by decide +kernel)) (by decide) (by decide) (by decide) (Nat.le_of_ble_eq_true rfl) (Nat.le_of_ble_eq_true rfl) dX7_init_145 (fun a37 H hw => ?_)
  obtain ⟨ad37, had37⟩ : ∃ z, z = zs ad35 153 a37 := ⟨_, rfl⟩
  rw [← had37] at hw ⊢
  have ea38 : ad35 128 = ad37 128 := by rw [had37, zs_ne _ _ (by omega)]
  rw [ea38] at hl
  refine W.eq (g2 := F0 m 147 ls [.ref (ad37 153), .ref (ad37 128)]) (by rw [ea38]) ?_
  have hag37 : ∀ κ t, ty κ = some t → ad37 κ = ad κ := fun κ t h => (show ad37 κ = ad35 κ by rw [had37]; exact zs_ne _ _ (fun e => by rw [e] at h; exact absurd (h.symm.trans hf153) (by simp))).trans (hag35 κ t h)
  refine z_putr M hw ((zs_ne _ _ (by omega)).trans ((zs_ne _ _ (by omega)).trans ((zs_ne _ _ (by omega)).trans ((zs_ne _ _ (by omega)).trans ((zs_ne _ _ (by omega)).trans ((zs_ne _ _ (by omega)).trans ((zs_ne _ _ (by omega)).trans ((zs_ne _ _ (by omega)).trans ((zs_ne _ _ (by omega)).trans ((zs_ne _ _ (by omega)).trans ((zs_ne _ _ (by omega)).trans ((zs_ne _ _ (by omega)).trans ((zs_ne _ _ (by omega)).trans ((zs_ne _ _ (by omega)).trans ((zs_ne _ _ (by omega)).trans ((zs_ne _ _ (by omega)).trans ((zs_ne _ _ (by omega)).trans ((zs_ne _ _ (by omega)).trans ((zs_ne _ _ (by omega)).trans ht))))))))))))))))))) zf_X7_64 (Or.inr ⟨rfl, rfl, hnm⟩) (zs_self _ _ _) (fun _ => rfl) (fun _ => rfl) dX7_init_147 (fun H locs hw => ?_)
  refine lv_aload_n hx hb dX7_init_150 rfl (lv_at hl 0 rfl) ?_
  refine lv_bipush (v := 12) hx hb dX7_init_151 (by decide) ?_
  refine z_newarr (e9 := 0) (N := 12) M hw 154 ((zs_ne _ _ (by omega)).trans ((zs_ne _ _ (by omega)).trans ((zs_ne _ _ (by omega)).trans ((zs_ne _ _ (by omega)).trans ((zs_ne _ _ (by omega)).trans ((zs_ne _ _ (by omega)).trans ((zs_ne _ _ (by omega)).trans ((zs_ne _ _ (by omega)).trans ((zs_ne _ _ (by omega)).trans ((zs_ne _ _ (by omega)).trans ((zs_ne _ _ (by omega)).trans ((zs_ne _ _ (by omega)).trans ((zs_ne _ _ (by omega)).trans ((zs_ne _ _ (by omega)).trans ((zs_ne _ _ (by omega)).trans ((zs_ne _ _ (by omega)).trans ((zs_ne _ _ (by omega)).trans ((zs_ne _ _ (by omega)).trans ((zs_ne _ _ (by omega)).trans hf154))))))))))))))))))) ⟨by decide, rfl⟩ (tb 56 (by decide +kernel)) (by decide) (by decide) (by decide) (Nat.le_of_ble_eq_true rfl) (Nat.le_of_ble_eq_true rfl) dX7_init_153 (fun a39 H hw => ?_)
  obtain ⟨ad39, had39⟩ : ∃ z, z = zs ad37 154 a39 := ⟨_, rfl⟩
  rw [← had39] at hw ⊢
  have ea40 : ad37 128 = ad39 128 := by rw [had39, zs_ne _ _ (by omega)]
  rw [ea40] at hl
  refine W.eq (g2 := F0 m 155 ls [.ref (ad39 154), .ref (ad39 128)]) (by rw [ea40]) ?_
  have hag39 : ∀ κ t, ty κ = some t → ad39 κ = ad κ := fun κ t h => (show ad39 κ = ad37 κ by rw [had39]; exact zs_ne _ _ (fun e => by rw [e] at h; exact absurd (h.symm.trans hf154) (by simp))).trans (hag37 κ t h)
  refine z_putr M hw ((zs_ne _ _ (by omega)).trans ((zs_ne _ _ (by omega)).trans ((zs_ne _ _ (by omega)).trans ((zs_ne _ _ (by omega)).trans ((zs_ne _ _ (by omega)).trans ((zs_ne _ _ (by omega)).trans ((zs_ne _ _ (by omega)).trans ((zs_ne _ _ (by omega)).trans ((zs_ne _ _ (by omega)).trans ((zs_ne _ _ (by omega)).trans ((zs_ne _ _ (by omega)).trans ((zs_ne _ _ (by omega)).trans ((zs_ne _ _ (by omega)).trans ((zs_ne _ _ (by omega)).trans ((zs_ne _ _ (by omega)).trans ((zs_ne _ _ (by omega)).trans ((zs_ne _ _ (by omega)).trans ((zs_ne _ _ (by omega)).trans ((zs_ne _ _ (by omega)).trans ((zs_ne _ _ (by omega)).trans ht)))))))))))))))))))) zf_X7_67 (Or.inr ⟨rfl, rfl, hnm⟩) (zs_self _ _ _) (fun _ => rfl) (fun _ => rfl) dX7_init_155 (fun H locs hw => ?_)
  refine lv_aload_n hx hb dX7_init_158 rfl (lv_at hl 0 rfl) ?_
  refine lv_bipush (v := 12) hx hb dX7_init_159 (by decide) ?_
  refine z_newarr (e9 := 0) (N := 12) M hw 155 ((zs_ne _ _ (by omega)).trans ((zs_ne _ _ (by omega)).trans ((zs_ne _ _ (by omega)).trans ((zs_ne _ _ (by omega)).trans ((zs_ne _ _ (by omega)).trans ((zs_ne _ _ (by omega)).trans ((zs_ne _ _ (by omega)).trans ((zs_ne _ _ (by omega)).trans ((zs_ne _ _ (by omega)).trans ((zs_ne _ _ (by omega)).trans ((zs_ne _ _ (by omega)).trans ((zs_ne _ _ (by omega)).trans ((zs_ne _ _ (by omega)).trans ((zs_ne _ _ (by omega)).trans ((zs_ne _ _ (by omega)).trans ((zs_ne _ _ (by omega)).trans ((zs_ne _ _ (by omega)).trans ((zs_ne _ _ (by omega)).trans ((zs_ne _ _ (by omega)).trans ((zs_ne _ _ (by omega)).trans hf155)))))))))))))))))))) ⟨by decide, rfl⟩ (tb 56 (by decide +kernel)) (by decide) (by decide) (by decide) (Nat.le_of_ble_eq_true rfl) (Nat.le_of_ble_eq_true rfl) dX7_init_161 (fun a41 H hw => ?_)
  obtain ⟨ad41, had41⟩ : ∃ z, z = zs ad39 155 a41 := ⟨_, rfl⟩
  rw [← had41] at hw ⊢
  have ea42 : ad39 128 = ad41 128 := by rw [had41, zs_ne _ _ (by omega)]
  rw [ea42] at hl
  refine W.eq (g2 := F0 m 163 ls [.ref (ad41 155), .ref (ad41 128)]) (by rw [ea42]) ?_
  have hag41 : ∀ κ t, ty κ = some t → ad41 κ = ad κ := fun κ t h => (show ad41 κ = ad39 κ by rw [had41]; exact zs_ne _ _ (fun e => by rw [e] at h; exact absurd (h.symm.trans hf155) (by simp))).trans (hag39 κ t h)
  refine z_putr M hw ((zs_ne _ _ (by omega)).trans ((zs_ne _ _ (by omega)).trans ((zs_ne _ _ (by omega)).trans ((zs_ne _ _ (by omega)).trans ((zs_ne _ _ (by omega)).trans ((zs_ne _ _ (by omega)).trans ((zs_ne _ _ (by omega)).trans ((zs_ne _ _ (by omega)).trans ((zs_ne _ _ (by omega)).trans ((zs_ne _ _ (by omega)).trans ((zs_ne _ _ (by omega)).trans ((zs_ne _ _ (by omega)).trans ((zs_ne _ _ (by omega)).trans ((zs_ne _ _ (by omega)).trans ((zs_ne _ _ (by omega)).trans ((zs_ne _ _ (by omega)).trans ((zs_ne _ _ (by omega)).trans ((zs_ne _ _ (by omega)).trans ((zs_ne _ _ (by omega)).trans ((zs_ne _ _ (by omega)).trans ((zs_ne _ _ (by omega)).trans ht))))))))))))))))))))) zf_X7_70 (Or.inr ⟨rfl, rfl, hnm⟩) (zs_self _ _ _) (fun _ => rfl) (fun _ => rfl) dX7_init_163 (fun H locs hw => ?_)
  refine lv_aload_n hx hb dX7_init_166 rfl (lv_at hl 0 rfl) ?_
  refine lv_bipush (v := 48) hx hb dX7_init_167 (by decide) ?_
  refine z_newarr (e9 := 1) (N := 48) M hw 156 ((zs_ne _ _ (by omega)).trans ((zs_ne _ _ (by omega)).trans ((zs_ne _ _ (by omega)).trans ((zs_ne _ _ (by omega)).trans ((zs_ne _ _ (by omega)).trans ((zs_ne _ _ (by omega)).trans ((zs_ne _ _ (by omega)).trans ((zs_ne _ _ (by omega)).trans ((zs_ne _ _ (by omega)).trans ((zs_ne _ _ (by omega)).trans ((zs_ne _ _ (by omega)).trans ((zs_ne _ _ (by omega)).trans ((zs_ne _ _ (by omega)).trans ((zs_ne _ _ (by omega)).trans ((zs_ne _ _ (by omega)).trans ((zs_ne _ _ (by omega)).trans ((zs_ne _ _ (by omega)).trans ((zs_ne _ _ (by omega)).trans ((zs_ne _ _ (by omega)).trans ((zs_ne _ _ (by omega)).trans ((zs_ne _ _ (by omega)).trans hf156))))))))))))))))))))) ⟨by decide, rfl⟩ (tb 57 (by decide +kernel)) (by decide) (by decide) (by decide) (Nat.le_of_ble_eq_true rfl) (Nat.le_of_ble_eq_true rfl) dX7_init_169 (fun a43 H hw => ?_)
  obtain ⟨ad43, had43⟩ : ∃ z, z = zs ad41 156 a43 := ⟨_, rfl⟩
  rw [← had43] at hw ⊢
  have ea44 : ad41 128 = ad43 128 := by rw [had43, zs_ne _ _ (by omega)]
  rw [ea44] at hl
  refine W.eq (g2 := F0 m 171 ls [.ref (ad43 156), .ref (ad43 128)]) (by rw [ea44]) ?_
  have hag43 : ∀ κ t, ty κ = some t → ad43 κ = ad κ := fun κ t h => (show ad43 κ = ad41 κ by rw [had43]; exact zs_ne _ _ (fun e => by rw [e] at h; exact absurd (h.symm.trans hf156) (by simp))).trans (hag41 κ t h)
  refine z_putr M hw ((zs_ne _ _ (by omega)).trans ((zs_ne _ _ (by omega)).trans ((zs_ne _ _ (by omega)).trans ((zs_ne _ _ (by omega)).trans ((zs_ne _ _ (by omega)).trans ((zs_ne _ _ (by omega)).trans ((zs_ne _ _ (by omega)).trans ((zs_ne _ _ (by omega)).trans ((zs_ne _ _ (by omega)).trans ((zs_ne _ _ (by omega)).trans ((zs_ne _ _ (by omega)).trans ((zs_ne _ _ (by omega)).trans ((zs_ne _ _ (by omega)).trans ((zs_ne _ _ (by omega)).trans ((zs_ne _ _ (by omega)).trans ((zs_ne _ _ (by omega)).trans ((zs_ne _ _ (by omega)).trans ((zs_ne _ _ (by omega)).trans ((zs_ne _ _ (by omega)).trans ((zs_ne _ _ (by omega)).trans ((zs_ne _ _ (by omega)).trans ((zs_ne _ _ (by omega)).trans ht)))))))))))))))))))))) zf_X7_73 (Or.inr ⟨rfl, rfl, hnm⟩) (zs_self _ _ _) (fun _ => rfl) (fun _ => rfl) dX7_init_171 (fun H locs hw => ?_)
  refine lv_aload_n hx hb dX7_init_174 rfl (lv_at hl 0 rfl) ?_
  refine lv_bipush (v := 10) hx hb dX7_init_175 (by decide) ?_
  refine z_newarr (e9 := 1) (N := 10) M hw 157 ((zs_ne _ _ (by omega)).trans ((zs_ne _ _ (by omega)).trans ((zs_ne _ _ (by omega)).trans ((zs_ne _ _ (by omega)).trans ((zs_ne _ _ (by omega)).trans ((zs_ne _ _ (by omega)).trans ((zs_ne _ _ (by omega)).trans ((zs_ne _ _ (by omega)).trans ((zs_ne _ _ (by omega)).trans ((zs_ne _ _ (by omega)).trans ((zs_ne _ _ (by omega)).trans ((zs_ne _ _ (by omega)).trans ((zs_ne _ _ (by omega)).trans ((zs_ne _ _ (by omega)).trans ((zs_ne _ _ (by omega)).trans ((zs_ne _ _ (by omega)).trans ((zs_ne _ _ (by omega)).trans ((zs_ne _ _ (by omega)).trans ((zs_ne _ _ (by omega)).trans ((zs_ne _ _ (by omega)).trans ((zs_ne _ _ (by omega)).trans ((zs_ne _ _ (by omega)).trans hf157)))))))))))))))))))))) ⟨by decide, rfl⟩ (tb 57 (by decide +kernel)) (by decide) (by decide) (by decide) (Nat.le_of_ble_eq_true rfl) (Nat.le_of_ble_eq_true rfl) dX7_init_177 (fun a45 H hw => ?_)
  obtain ⟨ad45, had45⟩ : ∃ z, z = zs ad43 157 a45 := ⟨_, rfl⟩
  rw [← had45] at hw ⊢
  have ea46 : ad43 128 = ad45 128 := by rw [had45, zs_ne _ _ (by omega)]
  rw [ea46] at hl
  refine W.eq (g2 := F0 m 179 ls [.ref (ad45 157), .ref (ad45 128)]) (by rw [ea46]) ?_
  have hag45 : ∀ κ t, ty κ = some t → ad45 κ = ad κ := fun κ t h => (show ad45 κ = ad43 κ by rw [had45]; exact zs_ne _ _ (fun e => by rw [e] at h; exact absurd (h.symm.trans hf157) (by simp))).trans (hag43 κ t h)
  refine z_putr M hw ((zs_ne _ _ (by omega)).trans ((zs_ne _ _ (by omega)).trans ((zs_ne _ _ (by omega)).trans ((zs_ne _ _ (by omega)).trans ((zs_ne _ _ (by omega)).trans ((zs_ne _ _ (by omega)).trans ((zs_ne _ _ (by omega)).trans ((zs_ne _ _ (by omega)).trans ((zs_ne _ _ (by omega)).trans ((zs_ne _ _ (by omega)).trans ((zs_ne _ _ (by omega)).trans ((zs_ne _ _ (by omega)).trans ((zs_ne _ _ (by omega)).trans ((zs_ne _ _ (by omega)).trans ((zs_ne _ _ (by omega)).trans ((zs_ne _ _ (by omega)).trans ((zs_ne _ _ (by omega)).trans ((zs_ne _ _ (by omega)).trans ((zs_ne _ _ (by omega)).trans ((zs_ne _ _ (by omega)).trans ((zs_ne _ _ (by omega)).trans ((zs_ne _ _ (by omega)).trans ((zs_ne _ _ (by omega)).trans ht))))))))))))))))))))))) zf_X7_77 (Or.inr ⟨rfl, rfl, hnm⟩) (zs_self _ _ _) (fun _ => rfl) (fun _ => rfl) dX7_init_179 (fun H locs hw => ?_)
  refine lv_aload_n hx hb dX7_init_182 rfl (lv_at hl 0 rfl) ?_
  refine lv_bipush (v := 16) hx hb dX7_init_183 (by decide) ?_
  refine z_newarr (e9 := 2) (N := 16) M hw 158 ((zs_ne _ _ (by omega)).trans ((zs_ne _ _ (by omega)).trans ((zs_ne _ _ (by omega)).trans ((zs_ne _ _ (by omega)).trans ((zs_ne _ _ (by omega)).trans ((zs_ne _ _ (by omega)).trans ((zs_ne _ _ (by omega)).trans ((zs_ne _ _ (by omega)).trans ((zs_ne _ _ (by omega)).trans ((zs_ne _ _ (by omega)).trans ((zs_ne _ _ (by omega)).trans ((zs_ne _ _ (by omega)).trans ((zs_ne _ _ (by omega)).trans ((zs_ne _ _ (by omega)).trans ((zs_ne _ _ (by omega)).trans ((zs_ne _ _ (by omega)).trans ((zs_ne _ _ (by omega)).trans ((zs_ne _ _ (by omega)).trans ((zs_ne _ _ (by omega)).trans ((zs_ne _ _ (by omega)).trans ((zs_ne _ _ (by omega)).trans ((zs_ne _ _ (by omega)).trans ((zs_ne _ _ (by omega)).trans hf158))))))))))))))))))))))) ⟨by decide, rfl⟩ (tb 751 (by decide +kernel)) (by decide) (by decide) (by decide) (Nat.le_of_ble_eq_true rfl) (Nat.le_of_ble_eq_true rfl) dX7_init_185 (fun a47 H hw => ?_)
  obtain ⟨ad47, had47⟩ : ∃ z, z = zs ad45 158 a47 := ⟨_, rfl⟩
  rw [← had47] at hw ⊢
  have ea48 : ad45 128 = ad47 128 := by rw [had47, zs_ne _ _ (by omega)]
  rw [ea48] at hl
  refine W.eq (g2 := F0 m 187 ls [.ref (ad47 158), .ref (ad47 128)]) (by rw [ea48]) ?_
  have hag47 : ∀ κ t, ty κ = some t → ad47 κ = ad κ := fun κ t h => (show ad47 κ = ad45 κ by rw [had47]; exact zs_ne _ _ (fun e => by rw [e] at h; exact absurd (h.symm.trans hf158) (by simp))).trans (hag45 κ t h)
  refine z_putr M hw ((zs_ne _ _ (by omega)).trans ((zs_ne _ _ (by omega)).trans ((zs_ne _ _ (by omega)).trans ((zs_ne _ _ (by omega)).trans ((zs_ne _ _ (by omega)).trans ((zs_ne _ _ (by omega)).trans ((zs_ne _ _ (by omega)).trans ((zs_ne _ _ (by omega)).trans ((zs_ne _ _ (by omega)).trans ((zs_ne _ _ (by omega)).trans ((zs_ne _ _ (by omega)).trans ((zs_ne _ _ (by omega)).trans ((zs_ne _ _ (by omega)).trans ((zs_ne _ _ (by omega)).trans ((zs_ne _ _ (by omega)).trans ((zs_ne _ _ (by omega)).trans ((zs_ne _ _ (by omega)).trans ((zs_ne _ _ (by omega)).trans ((zs_ne _ _ (by omega)).trans ((zs_ne _ _ (by omega)).trans ((zs_ne _ _ (by omega)).trans ((zs_ne _ _ (by omega)).trans ((zs_ne _ _ (by omega)).trans ((zs_ne _ _ (by omega)).trans ht)))))))))))))))))))))))) zf_X7_80 (Or.inr ⟨rfl, rfl, hnm⟩) (zs_self _ _ _) (fun _ => rfl) (fun _ => rfl) dX7_init_187 (fun H locs hw => ?_)
  exact z_vret hx hb hr hw.2 ⟨_, hag47, hw.1⟩ (Nat.le_of_ble_eq_true rfl) (Nat.le_of_ble_eq_true rfl) dX7_init_190 hlocks
