set_option maxHeartbeats 4000000 in
set_option maxRecDepth 100000 in
theorem c_X0_init (l : Launch) (base : Nat) (D : zDD) (cA : Nat → ClassId) (ad : Nat → Nat) (ty : zTyp) (I : zIt) (L : zLt) (P : zPt) (κ n0 : Nat) (ht : ty κ = some (0, n0)) (a b n w q : Int32) : zMv l base D cA yX0_init cX0_init 6 1 12 0 0 [.ref (ad κ), .int a, .int b, .int n, .int w, .int q] (zW base D cA ad ty I L P) (zW base D cA ad ty (zu (zu (zu (zu (zu (zu I κ 5 0) κ 0 a) κ 1 b) κ 2 n) κ 3 w) κ 4 q) L P) := by
  refine z_start (by decide +kernel) (Nat.le_of_ble_eq_true rfl) fun p e s m below meth c ls M hP hS hl hr hlocks hnm => ?_
  have M : zM p s m c cX0_init RX0 6 base D cA := M
  have hw : zH base D cA s s.heap [] ad ty I L P := ⟨hP, hS⟩
  obtain ⟨hx, hb, -⟩ := id M
  have hl : lv_has ls 6 [(0, .ref (ad κ)), (1, .int a), (2, .int b), (3, .int n), (4, .int w), (5, .int q)] := hl
  refine lv_aload_n hx hb dX0_init_0 rfl (lv_at hl 0 rfl) ?_
  refine W.objInit hx hb M.2.2.2.1 (M.2.2.2.2.1.use (tb 249 (by decide +kernel)) rfl) (M.2.2.2.2.1.use (tb 22 (by decide +kernel)) rfl) (M.2.2.2.2.1.use (tb 23 (by decide +kernel)) rfl) rfl (by rw [M.2.2.1]; exact hl.1) rfl dX0_init_1 (Nat.le_of_ble_eq_true rfl) (Nat.le_of_ble_eq_true rfl) ?_
  refine W.eq (g2 := F0 m 4 ls []) rfl ?_
  refine lv_aload_n hx hb dX0_init_4 rfl (lv_at hl 0 rfl) ?_
  refine lv_iconst (v := 0) hx hb dX0_init_5 (by decide) ?_
  refine z_puti M hw ht zf_X0_9 (Or.inl rfl) rfl rfl dX0_init_6 (fun H locs hw => ?_)
  refine lv_aload_n hx hb dX0_init_9 rfl (lv_at hl 0 rfl) ?_
  refine lv_iload_n hx hb dX0_init_10 rfl (lv_at hl 1 rfl) ?_
  refine z_puti M hw ht zf_X0_15 (Or.inr ⟨rfl, rfl, hnm⟩) rfl rfl dX0_init_11 (fun H locs hw => ?_)
  refine lv_aload_n hx hb dX0_init_14 rfl (lv_at hl 0 rfl) ?_
  refine lv_iload_n hx hb dX0_init_15 rfl (lv_at hl 2 rfl) ?_
  refine z_puti M hw ht zf_X0_18 (Or.inr ⟨rfl, rfl, hnm⟩) rfl rfl dX0_init_16 (fun H locs hw => ?_)
  refine lv_aload_n hx hb dX0_init_19 rfl (lv_at hl 0 rfl) ?_
  refine lv_iload_n hx hb dX0_init_20 rfl (lv_at hl 3 rfl) ?_
  refine z_puti M hw ht zf_X0_21 (Or.inr ⟨rfl, rfl, hnm⟩) rfl rfl dX0_init_21 (fun H locs hw => ?_)
  refine lv_aload_n hx hb dX0_init_24 rfl (lv_at hl 0 rfl) ?_
  refine lv_iload hx hb dX0_init_25 (lv_at hl 4 rfl) ?_
  refine z_puti M hw ht zf_X0_24 (Or.inr ⟨rfl, rfl, hnm⟩) rfl rfl dX0_init_27 (fun H locs hw => ?_)
  refine lv_aload_n hx hb dX0_init_30 rfl (lv_at hl 0 rfl) ?_
  refine lv_iload hx hb dX0_init_31 (lv_at hl 5 rfl) ?_
  refine z_puti M hw ht zf_X0_27 (Or.inl rfl) rfl rfl dX0_init_33 (fun H locs hw => ?_)
  exact z_vret hx hb hr hw.2 hw.1 (Nat.le_of_ble_eq_true rfl) (Nat.le_of_ble_eq_true rfl) dX0_init_36 hlocks
set_option maxHeartbeats 4000000 in
set_option maxRecDepth 100000 in
theorem c_X1_init (l : Launch) (base : Nat) (D : zDD) (cA : Nat → ClassId) (ad : Nat → Nat) (ty : zTyp) (I : zIt) (L : zLt) (P : zPt) (κ n0 : Nat) (ht : ty κ = some (1, n0)) (a b : Int32) : zMv l base D cA yX1_init cX1_init 3 1 12 0 0 [.ref (ad κ), .int a, .int b] (zW base D cA ad ty I L P) (zW base D cA ad ty (zu (zu I κ 0 a) κ 1 b) L P) := by
  refine z_start (by decide +kernel) (Nat.le_of_ble_eq_true rfl) fun p e s m below meth c ls M hP hS hl hr hlocks hnm => ?_
  have M : zM p s m c cX1_init RX1 3 base D cA := M
  have hw : zH base D cA s s.heap [] ad ty I L P := ⟨hP, hS⟩
  obtain ⟨hx, hb, -⟩ := id M
  have hl : lv_has ls 3 [(0, .ref (ad κ)), (1, .int a), (2, .int b)] := hl
  refine lv_aload_n hx hb dX1_init_0 rfl (lv_at hl 0 rfl) ?_
  refine W.objInit hx hb M.2.2.2.1 (M.2.2.2.2.1.use (tb 202 (by decide +kernel)) rfl) (M.2.2.2.2.1.use (tb 22 (by decide +kernel)) rfl) (M.2.2.2.2.1.use (tb 23 (by decide +kernel)) rfl) rfl (by rw [M.2.2.1]; exact hl.1) rfl dX1_init_1 (Nat.le_of_ble_eq_true rfl) (Nat.le_of_ble_eq_true rfl) ?_
  refine W.eq (g2 := F0 m 4 ls []) rfl ?_
  refine lv_aload_n hx hb dX1_init_4 rfl (lv_at hl 0 rfl) ?_
  refine lv_iload_n hx hb dX1_init_5 rfl (lv_at hl 1 rfl) ?_
  refine z_puti M hw ht zf_X1_7 (Or.inr ⟨rfl, rfl, hnm⟩) rfl rfl dX1_init_6 (fun H locs hw => ?_)
  refine lv_aload_n hx hb dX1_init_9 rfl (lv_at hl 0 rfl) ?_
  refine lv_iload_n hx hb dX1_init_10 rfl (lv_at hl 2 rfl) ?_
  refine z_puti M hw ht zf_X1_13 (Or.inr ⟨rfl, rfl, hnm⟩) rfl rfl dX1_init_11 (fun H locs hw => ?_)
  exact z_vret hx hb hr hw.2 hw.1 (Nat.le_of_ble_eq_true rfl) (Nat.le_of_ble_eq_true rfl) dX1_init_14 hlocks
set_option maxHeartbeats 4000000 in
set_option maxRecDepth 100000 in
theorem c_X3_init (l : Launch) (base : Nat) (D : zDD) (cA : Nat → ClassId) (ad : Nat → Nat) (ty : zTyp) (I : zIt) (L : zLt) (P : zPt) (κ n0 : Nat) (ht : ty κ = some (3, n0)) (a b w : Int32) : zMv l base D cA yX3_init cX3_init 4 1 12 0 0 [.ref (ad κ), .int a, .int b, .int w] (zW base D cA ad ty I L P) (zW base D cA ad ty (zu (zu (zu (zu (zu (zu (zu (zu I κ 3 0) κ 4 0) κ 5 (-1)) κ 6 (-1)) κ 7 0) κ 1 a) κ 2 b) κ 0 w) L P) := by
  refine z_start (by decide +kernel) (Nat.le_of_ble_eq_true rfl) fun p e s m below meth c ls M hP hS hl hr hlocks hnm => ?_
  have M : zM p s m c cX3_init RX3 4 base D cA := M
  have hw : zH base D cA s s.heap [] ad ty I L P := ⟨hP, hS⟩
  obtain ⟨hx, hb, -⟩ := id M
  have hl : lv_has ls 4 [(0, .ref (ad κ)), (1, .int a), (2, .int b), (3, .int w)] := hl
  refine lv_aload_n hx hb dX3_init_0 rfl (lv_at hl 0 rfl) ?_
  refine W.objInit hx hb M.2.2.2.1 (M.2.2.2.2.1.use (tb 324 (by decide +kernel)) rfl) (M.2.2.2.2.1.use (tb 22 (by decide +kernel)) rfl) (M.2.2.2.2.1.use (tb 23 (by decide +kernel)) rfl) rfl (by rw [M.2.2.1]; exact hl.1) rfl dX3_init_1 (Nat.le_of_ble_eq_true rfl) (Nat.le_of_ble_eq_true rfl) ?_
  refine W.eq (g2 := F0 m 4 ls []) rfl ?_
  refine lv_aload_n hx hb dX3_init_4 rfl (lv_at hl 0 rfl) ?_
  refine lv_iconst (v := 0) hx hb dX3_init_5 (by decide) ?_
  refine z_puti M hw ht zf_X3_9 (Or.inl rfl) rfl rfl dX3_init_6 (fun H locs hw => ?_)
  refine lv_aload_n hx hb dX3_init_9 rfl (lv_at hl 0 rfl) ?_
  refine lv_iconst (v := 0) hx hb dX3_init_10 (by decide) ?_
  refine z_puti M hw ht zf_X3_15 (Or.inl rfl) rfl rfl dX3_init_11 (fun H locs hw => ?_)
  refine lv_aload_n hx hb dX3_init_14 rfl (lv_at hl 0 rfl) ?_
  refine lv_iconst (v := (-1)) hx hb dX3_init_15 (by decide) ?_
  refine z_puti M hw ht zf_X3_18 (Or.inl rfl) rfl rfl dX3_init_16 (fun H locs hw => ?_)
  refine lv_aload_n hx hb dX3_init_19 rfl (lv_at hl 0 rfl) ?_
  refine lv_iconst (v := (-1)) hx hb dX3_init_20 (by decide) ?_
  refine z_puti M hw ht zf_X3_21 (Or.inl rfl) rfl rfl dX3_init_21 (fun H locs hw => ?_)
  refine lv_aload_n hx hb dX3_init_24 rfl (lv_at hl 0 rfl) ?_
  refine lv_iconst (v := 0) hx hb dX3_init_25 (by decide) ?_
  refine z_puti M hw ht zf_X3_24 (Or.inl rfl) rfl rfl dX3_init_26 (fun H locs hw => ?_)
  refine lv_aload_n hx hb dX3_init_29 rfl (lv_at hl 0 rfl) ?_
  refine lv_iload_n hx hb dX3_init_30 rfl (lv_at hl 1 rfl) ?_
  refine z_puti M hw ht zf_X3_27 (Or.inl rfl) rfl rfl dX3_init_31 (fun H locs hw => ?_)
  refine lv_aload_n hx hb dX3_init_34 rfl (lv_at hl 0 rfl) ?_
  refine lv_iload_n hx hb dX3_init_35 rfl (lv_at hl 2 rfl) ?_
  refine z_puti M hw ht zf_X3_30 (Or.inl rfl) rfl rfl dX3_init_36 (fun H locs hw => ?_)
  refine lv_aload_n hx hb dX3_init_39 rfl (lv_at hl 0 rfl) ?_
  refine lv_iload_n hx hb dX3_init_40 rfl (lv_at hl 3 rfl) ?_
  refine z_puti M hw ht zf_X3_33 (Or.inr ⟨rfl, rfl, hnm⟩) rfl rfl dX3_init_41 (fun H locs hw => ?_)
  exact z_vret hx hb hr hw.2 hw.1 (Nat.le_of_ble_eq_true rfl) (Nat.le_of_ble_eq_true rfl) dX3_init_44 hlocks
set_option maxHeartbeats 4000000 in
set_option maxRecDepth 100000 in
theorem c_X5_init (l : Launch) (base : Nat) (D : zDD) (cA : Nat → ClassId) (ad : Nat → Nat) (ty : zTyp) (I : zIt) (L : zLt) (P : zPt) (κ ρ n0 : Nat) (ht : ty κ = some (5, n0)) (hfr : ty ρ = none) (hne : ρ ≠ κ) : zMv l base D cA yX5_init cX5_init 1 1 12 1 9 [.ref (ad κ)] (zW base D cA ad ty I L P) (fun H => ∃ ad2, (∀ κ t, ty κ = some t → ad2 κ = ad κ) ∧ zW base D cA ad2 (zs ty ρ (some (8, 9))) (zu (zu (zu (zs I ρ (fun _ => 0)) κ 1 (-1)) κ 2 (-1)) κ 3 (-1)) (zs L ρ (fun _ => 0)) (zu (zs P ρ (fun _ => none)) κ 0 (some ρ)) H) := by
  refine z_start (by decide +kernel) (Nat.le_of_ble_eq_true rfl) fun p e s m below meth c ls M hP hS hl hr hlocks hnm => ?_
  have M : zM p s m c cX5_init RX5 1 base D cA := M
  have hw : zH base D cA s s.heap [] ad ty I L P := ⟨hP, hS⟩
  obtain ⟨hx, hb, -⟩ := id M
  have hl : lv_has ls 1 [(0, .ref (ad κ))] := hl
  refine lv_aload_n hx hb dX5_init_0 rfl (lv_at hl 0 rfl) ?_
  refine W.objInit hx hb M.2.2.2.1 (M.2.2.2.2.1.use (tb 425 (by decide +kernel)) rfl) (M.2.2.2.2.1.use (tb 22 (by decide +kernel)) rfl) (M.2.2.2.2.1.use (tb 23 (by decide +kernel)) rfl) rfl (by rw [M.2.2.1]; exact hl.1) rfl dX5_init_1 (Nat.le_of_ble_eq_true rfl) (Nat.le_of_ble_eq_true rfl) ?_
  refine W.eq (g2 := F0 m 4 ls []) rfl ?_
  refine lv_aload_n hx hb dX5_init_4 rfl (lv_at hl 0 rfl) ?_
  refine lv_bipush (v := 9) hx hb dX5_init_5 (by decide) ?_
  refine z_newarr (e9 := 0) (N := 9) M hw ρ hfr ⟨by decide, rfl⟩ (tb 55 (by decide +kernel)) (by decide) (by decide) (by decide) (Nat.le_of_ble_eq_true rfl) (Nat.le_of_ble_eq_true rfl) dX5_init_7 (fun a1 H hw => ?_)
  obtain ⟨ad1, had1⟩ : ∃ z, z = zs ad ρ a1 := ⟨_, rfl⟩
  rw [← had1] at hw ⊢
  have ea2 : ad κ = ad1 κ := by rw [had1, zs_ne _ _ (by omega)]
  rw [ea2] at hl
  refine W.eq (g2 := F0 m 9 ls [.ref (ad1 ρ), .ref (ad1 κ)]) (by rw [ea2]) ?_
  have hag1 : ∀ κ t, ty κ = some t → ad1 κ = ad κ := fun κ t h => (show ad1 κ = ad κ by rw [had1]; exact zs_ne _ _ (fun e => by rw [e] at h; exact absurd (h.symm.trans hfr) (by simp)))
  refine z_putr M hw ((zs_ne _ _ (by omega)).trans ht) zf_X5_9 (Or.inr ⟨rfl, rfl, hnm⟩) (zs_self _ _ _) (fun _ => rfl) (fun _ => rfl) dX5_init_9 (fun H locs hw => ?_)
  refine lv_aload_n hx hb dX5_init_12 rfl (lv_at hl 0 rfl) ?_
  refine lv_iconst (v := (-1)) hx hb dX5_init_13 (by decide) ?_
  refine z_puti M hw ((zs_ne _ _ (by omega)).trans ht) zf_X5_15 (Or.inl rfl) rfl rfl dX5_init_14 (fun H locs hw => ?_)
  refine lv_aload_n hx hb dX5_init_17 rfl (lv_at hl 0 rfl) ?_
  refine lv_iconst (v := (-1)) hx hb dX5_init_18 (by decide) ?_
  refine z_puti M hw ((zs_ne _ _ (by omega)).trans ht) zf_X5_19 (Or.inl rfl) rfl rfl dX5_init_19 (fun H locs hw => ?_)
  refine lv_aload_n hx hb dX5_init_22 rfl (lv_at hl 0 rfl) ?_
  refine lv_iconst (v := (-1)) hx hb dX5_init_23 (by decide) ?_
  refine z_puti M hw ((zs_ne _ _ (by omega)).trans ht) zf_X5_22 (Or.inl rfl) rfl rfl dX5_init_24 (fun H locs hw => ?_)
  exact z_vret hx hb hr hw.2 ⟨_, hag1, hw.1⟩ (Nat.le_of_ble_eq_true rfl) (Nat.le_of_ble_eq_true rfl) dX5_init_27 hlocks
set_option maxHeartbeats 4000000 in
set_option maxRecDepth 100000 in
theorem c_X4_init (l : Launch) (base : Nat) (D : zDD) (cA : Nat → ClassId) (ad : Nat → Nat) (ty : zTyp) (I : zIt) (L : zLt) (P : zPt) (κ ω ρ n0 : Nat) (ht : ty κ = some (4, n0)) (hfo : ty ω = none) (hfr : ty ρ = none) (hok : ω ≠ κ) (hrk : ρ ≠ κ) (hro : ρ ≠ ω) (a b w q x y : Int32) : zMv l base D cA yX4_init cX4_init 7 2 32 2 13 [.ref (ad κ), .int a, .int b, .int w, .int q, .int x, .int y] (zW base D cA ad ty I L P) (fun H => ∃ ad2, (∀ κ t, ty κ = some t → ad2 κ = ad κ) ∧ zW base D cA ad2 (zs (zs ty ω (some (5, 0))) ρ (some (8, 9))) (zu (zu (zu (zu (zu (zu (zu (zu (zu (zu (zu (zu (zs (zs I ω (fun _ => 0)) ρ (fun _ => 0)) ω 1 (-1)) ω 2 (-1)) ω 3 (-1)) κ 8 0) κ 9 0) κ 10 0) κ 0 a) κ 1 b) κ 2 w) κ 3 q) κ 4 x) κ 5 y) (zu (zs (zs L ω (fun _ => 0)) ρ (fun _ => 0)) κ 7 0) (zu (zu (zs (zs P ω (fun _ => none)) ρ (fun _ => none)) ω 0 (some ρ)) κ 6 (some ω)) H) := by
  refine z_start (by decide +kernel) (Nat.le_of_ble_eq_true rfl) fun p e s m below meth c ls M hP hS hl hr hlocks hnm => ?_
  have M : zM p s m c cX4_init RX4 7 base D cA := M
  have hw : zH base D cA s s.heap [] ad ty I L P := ⟨hP, hS⟩
  obtain ⟨hx, hb, -⟩ := id M
  have hl : lv_has ls 7 [(0, .ref (ad κ)), (1, .int a), (2, .int b), (3, .int w), (4, .int q), (5, .int x), (6, .int y)] := hl
  refine lv_aload_n hx hb dX4_init_0 rfl (lv_at hl 0 rfl) ?_
  refine W.objInit hx hb M.2.2.2.1 (M.2.2.2.2.1.use (tb 419 (by decide +kernel)) rfl) (M.2.2.2.2.1.use (tb 22 (by decide +kernel)) rfl) (M.2.2.2.2.1.use (tb 23 (by decide +kernel)) rfl) rfl (by rw [M.2.2.1]; exact hl.1) rfl dX4_init_1 (Nat.le_of_ble_eq_true rfl) (Nat.le_of_ble_eq_true rfl) ?_
  refine W.eq (g2 := F0 m 4 ls []) rfl ?_
  refine lv_aload_n hx hb dX4_init_4 rfl (lv_at hl 0 rfl) ?_
  refine z_new (ci := 5) M hw ω hfo (by decide) (tb 420 (by decide +kernel)) (tb 421 (by decide +kernel)) (tb 14 (by decide +kernel)) (Nat.le_of_ble_eq_true rfl) (Nat.le_of_ble_eq_true rfl) dX4_init_5 (fun a1 H hw => ?_)
  obtain ⟨ad1, had1⟩ : ∃ z, z = zs ad ω a1 := ⟨_, rfl⟩
  rw [← had1] at hw ⊢
  have ea2 : ad κ = ad1 κ := by rw [had1, zs_ne _ _ (by omega)]
  rw [ea2] at hl
  refine W.eq (g2 := F0 m 8 ls [.ref (ad1 ω), .ref (ad1 κ)]) (by rw [ea2]) ?_
  have hag1 : ∀ κ t, ty κ = some t → ad1 κ = ad κ := fun κ t h => (show ad1 κ = ad κ by rw [had1]; exact zs_ne _ _ (fun e => by rw [e] at h; exact absurd (h.symm.trans hfo) (by simp)))
  refine lv_dup hx hb dX4_init_8 rfl ?_
  refine z_cv (z_runI (As := []) (rest := [.ref (ad1 ω), .ref (ad1 κ)]) M hw.2 zc_X4_11 (c_X5_init l base D cA ad1 (zs ty ω (some (5, 0))) (zs I ω (fun _ => 0)) (zs L ω (fun _ => 0)) (zs P ω (fun _ => none)) ω ρ 0 (zs_self _ _ _) ((zs_ne _ _ hro).trans hfr) hro) hw.1 rfl rfl ⟨Nat.le_of_ble_eq_true rfl, Nat.le_of_ble_eq_true rfl⟩ ⟨Nat.le_of_ble_eq_true rfl, Nat.le_of_ble_eq_true rfl⟩ hl.1 (Nat.le_of_ble_eq_true rfl) dX4_init_9) hw.2 (fun H locs hw1 hS => ?_)
  obtain ⟨ad3, hagc3, hw2⟩ := hw1
  have ea4 : ad1 κ = ad3 κ := (hagc3 _ _ ((zs_ne _ _ (by omega)).trans ht)).symm
  have ea5 : ad1 ω = ad3 ω := (hagc3 _ _ (zs_self _ _ _)).symm
  rw [ea4] at hl
  have hw : zH base D cA s H locs ad3 (zs (zs ty ω (some (5, 0))) ρ (some (8, 9))) (zu (zu (zu (zs (zs I ω (fun _ => 0)) ρ (fun _ => 0)) ω 1 (-1)) ω 2 (-1)) ω 3 (-1)) (zs (zs L ω (fun _ => 0)) ρ (fun _ => 0)) (zu (zs (zs P ω (fun _ => none)) ρ (fun _ => none)) ω 0 (some ρ)) := ⟨hw2, hS⟩
  refine W.eq (g2 := F0 m _ ls [.ref (ad3 ω), .ref (ad3 κ)]) (by rw [ea5, ea4]) ?_
  have hag3 : ∀ κ t, ty κ = some t → ad3 κ = ad κ := fun κ t h => (hagc3 κ t ((zs_ne _ _ (fun e => by rw [e] at h; exact absurd (h.symm.trans hfo) (by simp))).trans h)).trans (hag1 κ t h)
  refine z_putr M hw ((zs_ne _ _ (by omega)).trans ((zs_ne _ _ (by omega)).trans ht)) zf_X4_12 (Or.inr ⟨rfl, rfl, hnm⟩) ((zs_ne _ _ (by omega)).trans (zs_self _ _ _)) (fun _ => rfl) (fun _ => rfl) dX4_init_12 (fun H locs hw => ?_)
  refine lv_aload_n hx hb dX4_init_15 rfl (lv_at hl 0 rfl) ?_
  refine lv_lconst (v := 0) hx hb dX4_init_16 (by decide) ?_
  refine z_putl M hw ((zs_ne _ _ (by omega)).trans ((zs_ne _ _ (by omega)).trans ht)) zf_X4_18 (Or.inl rfl) rfl rfl dX4_init_17 (fun H locs hw => ?_)
  refine lv_aload_n hx hb dX4_init_20 rfl (lv_at hl 0 rfl) ?_
  refine lv_iconst (v := 0) hx hb dX4_init_21 (by decide) ?_
  refine z_puti M hw ((zs_ne _ _ (by omega)).trans ((zs_ne _ _ (by omega)).trans ht)) zf_X4_22 (Or.inl rfl) rfl rfl dX4_init_22 (fun H locs hw => ?_)
  refine lv_aload_n hx hb dX4_init_25 rfl (lv_at hl 0 rfl) ?_
  refine lv_iconst (v := 0) hx hb dX4_init_26 (by decide) ?_
  refine z_puti M hw ((zs_ne _ _ (by omega)).trans ((zs_ne _ _ (by omega)).trans ht)) zf_X4_26 (Or.inl rfl) rfl rfl dX4_init_27 (fun H locs hw => ?_)
  refine lv_aload_n hx hb dX4_init_30 rfl (lv_at hl 0 rfl) ?_
  refine lv_iconst (v := 0) hx hb dX4_init_31 (by decide) ?_
  refine z_puti M hw ((zs_ne _ _ (by omega)).trans ((zs_ne _ _ (by omega)).trans ht)) zf_X4_29 (Or.inl rfl) rfl rfl dX4_init_32 (fun H locs hw => ?_)
  refine lv_aload_n hx hb dX4_init_35 rfl (lv_at hl 0 rfl) ?_
  refine lv_iload_n hx hb dX4_init_36 rfl (lv_at hl 1 rfl) ?_
  refine z_puti M hw ((zs_ne _ _ (by omega)).trans ((zs_ne _ _ (by omega)).trans ht)) zf_X4_32 (Or.inr ⟨rfl, rfl, hnm⟩) rfl rfl dX4_init_37 (fun H locs hw => ?_)
  refine lv_aload_n hx hb dX4_init_40 rfl (lv_at hl 0 rfl) ?_
  refine lv_iload_n hx hb dX4_init_41 rfl (lv_at hl 2 rfl) ?_
  refine z_puti M hw ((zs_ne _ _ (by omega)).trans ((zs_ne _ _ (by omega)).trans ht)) zf_X4_35 (Or.inr ⟨rfl, rfl, hnm⟩) rfl rfl dX4_init_42 (fun H locs hw => ?_)
  refine lv_aload_n hx hb dX4_init_45 rfl (lv_at hl 0 rfl) ?_
  refine lv_iload_n hx hb dX4_init_46 rfl (lv_at hl 3 rfl) ?_
  refine z_puti M hw ((zs_ne _ _ (by omega)).trans ((zs_ne _ _ (by omega)).trans ht)) zf_X4_38 (Or.inr ⟨rfl, rfl, hnm⟩) rfl rfl dX4_init_47 (fun H locs hw => ?_)
  refine lv_aload_n hx hb dX4_init_50 rfl (lv_at hl 0 rfl) ?_
  refine lv_iload hx hb dX4_init_51 (lv_at hl 4 rfl) ?_
  refine z_puti M hw ((zs_ne _ _ (by omega)).trans ((zs_ne _ _ (by omega)).trans ht)) zf_X4_41 (Or.inr ⟨rfl, rfl, hnm⟩) rfl rfl dX4_init_53 (fun H locs hw => ?_)
  refine lv_aload_n hx hb dX4_init_56 rfl (lv_at hl 0 rfl) ?_
  refine lv_iload hx hb dX4_init_57 (lv_at hl 5 rfl) ?_
  refine z_puti M hw ((zs_ne _ _ (by omega)).trans ((zs_ne _ _ (by omega)).trans ht)) zf_X4_44 (Or.inr ⟨rfl, rfl, hnm⟩) rfl rfl dX4_init_59 (fun H locs hw => ?_)
  refine lv_aload_n hx hb dX4_init_62 rfl (lv_at hl 0 rfl) ?_
  refine lv_iload hx hb dX4_init_63 (lv_at hl 6 rfl) ?_
  refine z_puti M hw ((zs_ne _ _ (by omega)).trans ((zs_ne _ _ (by omega)).trans ht)) zf_X4_47 (Or.inr ⟨rfl, rfl, hnm⟩) rfl rfl dX4_init_65 (fun H locs hw => ?_)
  exact z_vret hx hb hr hw.2 ⟨_, hag3, hw.1⟩ (Nat.le_of_ble_eq_true rfl) (Nat.le_of_ble_eq_true rfl) dX4_init_68 hlocks
