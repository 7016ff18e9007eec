/-! THE WALK OF THE LAW'S BODY FROM ITS ENTRY (laid by m_fin.py) -/
set_option maxHeartbeats 4000000 in
set_option maxRecDepth 100000 in
/-- YOUR PART: from the entry, for every script of at most 3584 ints, the law comes to its end with true ('hflags': the launch's flags, for a law that throws: no stack traces) -/
theorem whole_start {p : Program} {e : Env} {s : State} {m : MethodId} {below : List Frame} {meth : Method} {c : Code} (l : Launch) (hflags : l.flags = flags0) {b L : Nat} {xs : Nat → Int32} (hL : L ≤ 3584) (C0 : lw_At p s m meth c b L xs) : W p l e room_1 s m #[Value.ref b] below meth c s.heap [] 0 0 (lw_Z below #[Value.ref b] s) (entryFrame m ([Value.ref b] : List Value).toArray 8) := by
  obtain ⟨hx, hb, hr, hml, hown, hts, hX, hbl, hlocks, hgv⟩ := id C0
  have hl0 : l.stackTraces = false := by
    unfold Launch.stackTraces
    rw [hflags]
    decide
  obtain ⟨D, cA, hKn⟩ := z_kn0 hts
  have hN := z_ncs0 hgv
  have M : zM p s m c cL_law RL 8 s.heap.size D cA := ⟨hx, hb, hml, hown, zEnv.of hts, hKn, z_x0 hts hgv, z_st0 hts hKn, Nat.le_refl _⟩
  have hl := lv_entry ([.ref b]) (n := 8) (Nat.le_of_ble_eq_true rfl)
  rw [lg_entry_eq]
  generalize (lg_sl ([.ref b]) ++ List.replicate (8 - (lg_sl ([.ref b])).length) Slot.unset).toArray = ls at hl ⊢
  have hl : lv_has ls 8 [(0, .ref b)] := hl
  have hw : zH s.heap.size D cA s s.heap [] (fun _ => 0) (fun _ => none) (fun _ _ => 0) (fun _ _ => 0) (fun _ _ => none) := ⟨⟨fun κ t h => (by cases h), fun κ κ' t t' h => (by cases h), fun κ k κ' h => (by cases h)⟩, va_S.rf⟩
  refine z_new (ci := 6) M hw 0 rfl (by decide) (tb 17 (by decide +kernel)) (tb 18 (by decide +kernel)) (tb 1 (by decide +kernel)) (Nat.le_of_ble_eq_true rfl) (Nat.le_of_ble_eq_true rfl) dL_law_0 (fun a0 H hw => ?_)
  obtain ⟨ad0, h0⟩ : ∃ z, z = zs (fun _ => 0) 0 a0 := ⟨_, rfl⟩
  rw [← h0] at hw ⊢
  have hw : zH s.heap.size D cA s H [] ad0 zT0 zI0 zL0 zP0 := hw
  refine lv_dup hx hb dL_law_3 rfl ?_
  refine z_cv (z_runI (As := []) (rest := [.ref (ad0 0)]) M hw.2 zc_L_73 (c_X6_init l s.heap.size D cA ad0 zT0 zI0 zL0 zP0 0 (by decide +kernel) (by decide +kernel) (by decide +kernel) (by decide +kernel) (by decide +kernel) (by decide +kernel) (by decide +kernel) (by decide +kernel) (by decide +kernel)) hw.1 rfl rfl ⟨Nat.le_of_ble_eq_true rfl, Nat.le_of_ble_eq_true rfl⟩ ⟨Nat.le_of_ble_eq_true rfl, Nat.le_of_ble_eq_true rfl⟩ hl.1 (Nat.le_of_ble_eq_true rfl) dL_law_4) hw.2 (fun H locs hw1 hS => ?_)
  obtain ⟨ad1, hag, hw1⟩ := hw1
  have hw : zH s.heap.size D cA s H locs ad1 zT1 zI1 zL1 zP1 := ⟨hw1, hS⟩
  have e0 : ad0 0 = ad1 0 := (hag 0 (6, 0) (by decide +kernel)).symm
  refine W.eq (g2 := F0 m 7 ls [.ref (ad1 0)]) (by rw [e0]) ?_
  refine lv_astore_n (lv' := [(1, .ref (ad1 0)), (0, .ref b)]) hx hb dL_law_7 rfl hl (by decide) rfl (fun ls hl => ?_)
  refine z_new (ci := 7) M hw 128 (by decide +kernel) (by decide) (tb 651 (by decide +kernel)) (tb 652 (by decide +kernel)) (tb 3 (by decide +kernel)) (Nat.le_of_ble_eq_true rfl) (Nat.le_of_ble_eq_true rfl) dL_law_8 (fun a0 H hw => ?_)
  obtain ⟨ad2, h2⟩ : ∃ z, z = zs ad1 128 a0 := ⟨_, rfl⟩
  rw [← h2] at hw ⊢
  have e1 : ad1 0 = ad2 0 := by rw [h2, zs_ne _ _ (by omega)]
  rw [e1] at hl
  have hw : zH s.heap.size D cA s H locs ad2 zT2 zI2 zL2 zP2 := hw
  refine lv_dup hx hb dL_law_11 rfl ?_
  refine z_cv (z_runI (As := []) (rest := [.ref (ad2 128)]) M hw.2 zc_L_76 (c_X7_init l s.heap.size D cA ad2 zT2 zI2 zL2 zP2 0 (by decide +kernel) (by decide +kernel) (by decide +kernel) (by decide +kernel) (by decide +kernel) (by decide +kernel) (by decide +kernel) (by decide +kernel) (by decide +kernel) (by decide +kernel) (by decide +kernel) (by decide +kernel) (by decide +kernel) (by decide +kernel) (by decide +kernel) (by decide +kernel) (by decide +kernel) (by decide +kernel) (by decide +kernel) (by decide +kernel) (by decide +kernel) (by decide +kernel) (by decide +kernel) (by decide +kernel) (by decide +kernel)) hw.1 rfl rfl ⟨Nat.le_of_ble_eq_true rfl, Nat.le_of_ble_eq_true rfl⟩ ⟨Nat.le_of_ble_eq_true rfl, Nat.le_of_ble_eq_true rfl⟩ hl.1 (Nat.le_of_ble_eq_true rfl) dL_law_12) hw.2 (fun H locs hw1 hS => ?_)
  obtain ⟨ad3, hag3, hw1⟩ := hw1
  have hw : zH s.heap.size D cA s H locs ad3 zT3 zI3 zL3 zP3 := ⟨hw1, hS⟩
  have e2 : ad2 128 = ad3 128 := (hag3 128 (7, 0) (by decide +kernel)).symm
  have e3 : ad2 0 = ad3 0 := (hag3 0 (6, 0) (by decide +kernel)).symm
  rw [e3] at hl
  refine W.eq (g2 := F0 m 15 ls [.ref (ad3 128)]) (by rw [e2]) ?_
  refine lv_astore_n (lv' := [(2, .ref (ad3 128)), (1, .ref (ad3 0)), (0, .ref b)]) hx hb dL_law_15 rfl hl (by decide) rfl (fun ls hl => ?_)
  refine lv_iconst (v := 1) hx hb dL_law_16 (by decide) ?_
  refine z_newarr (e9 := 1) (N := 1) M hw 160 (by decide +kernel) ⟨by decide, rfl⟩ (tb 57 (by decide +kernel)) (by decide) (by decide) (by decide) (Nat.le_of_ble_eq_true rfl) (Nat.le_of_ble_eq_true rfl) dL_law_17 (fun a0 H hw => ?_)
  obtain ⟨ad4, h4⟩ : ∃ z, z = zs ad3 160 a0 := ⟨_, rfl⟩
  rw [← h4] at hw ⊢
  have e4 : ad3 0 = ad4 0 := by rw [h4, zs_ne _ _ (by omega)]
  have e5 : ad3 128 = ad4 128 := by rw [h4, zs_ne _ _ (by omega)]
  rw [e4, e5] at hl
  have hw : zH s.heap.size D cA s H locs ad4 zT4 zI4 zL4 zP4 := hw
  refine lv_astore_n (lv' := [(3, .ref (ad4 160)), (2, .ref (ad4 128)), (1, .ref (ad4 0)), (0, .ref b)]) hx hb dL_law_19 rfl hl (by decide) rfl (fun ls hl => ?_)
  refine lv_iconst (v := 0) hx hb dL_law_20 (by decide) ?_
  refine z_topi (y := nI (7 * 0)) rfl ?_
  refine lv_istore (lv' := [(4, .int (nI (7 * 0))), (3, .ref (ad4 160)), (2, .ref (ad4 128)), (1, .ref (ad4 0)), (0, .ref b)]) hx hb dL_law_21 hl (by decide) rfl (fun ls hl => ?_)
  refine W.widen (k := 40 + 13 * 0) (n := 700 + 84 * 0) (Nat.le_of_ble_eq_true rfl) (Nat.le_of_ble_eq_true rfl) ?_
  exact z_lawloop hl0 M hN hX hbl hL hr hlocks 514 0 (by omega) (by omega) ad4 zT4 zI4 zL4 zP4 H locs ls zLI_0 hw hl
