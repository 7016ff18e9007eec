/-! THE LAW'S LOOP AND ITS START (laid by m_fin.py) -/
section ZLW2
variable {p : Program} {l : Launch} {e : Env} {s : State} {m : MethodId} {below : List Frame} {meth : Method} {c : Code} {b Ln a0 b0 : Nat} {xs : Nat → Int32} {G : va_G} {cA : Nat → ClassId}
set_option maxHeartbeats 8000000 in
set_option maxRecDepth 100000 in
theorem z_lawloop (hl0 : l.stackTraces = false) (M : zM p s m c cL_law RL 7 s.heap.size (G, fun _ => none) cA) (hN : zNcs s) (hX : va_X b Ln xs s s.heap) (hbl : b < s.heap.size) (hL : Ln ≤ 260) (hr : meth.sig.returnType = ret) (hlocks : meth.locks = false) {H : Heap} {locs : List Loc} {ls : Array Slot} (hA : zAl s.heap.size G cA 0 a0 b0 H) (hS : va_S (fun q => s.heap.size ≤ q) s.heap H locs) (hl : lv_has ls 7 [(3, .int (nI 0)), (2, .ref b0), (1, .ref a0), (0, .ref b)]) : W p l e room_1 s m #[Value.ref b] below meth c H locs 100 2000 (lw_Z below #[Value.ref b] s) (F0 m 18 ls []) := by
  obtain ⟨hx, hb, -⟩ := id M
  refine z_loopc 100 100 128 2000 780 (fun k H locs ls => zAl s.heap.size G cA k a0 b0 H ∧ va_S (fun q => s.heap.size ≤ q) s.heap H locs ∧ lv_has ls 7 [(3, .int (nI k)), (2, .ref b0), (1, .ref a0), (0, .ref b)]) ⟨hA, hS, hl⟩ (fun k hk ih H locs ls hI => ?_)
  obtain ⟨hA, hS, hl⟩ := hI
  refine lv_iload_n hx hb dL_law_18 rfl (lv_at hl 0 rfl) ?_
  refine lv_bipush (v := 100) hx hb dL_law_19 (by decide) ?_
  refine lv_icmp_ge (tgt := 89) hx hb dL_law_21 (by decide) (fun c1 => ?_) (fun c1 => ?_)
  · obtain ⟨ad, ad', ty, I, L, P, ⟨ni, nc, ns, nt, hrs, J, K, ⟨hC, hF⟩, hR, hh⟩, ha, hb0, hTw⟩ := hA
    refine lv_aload_n hx hb dL_law_89 rfl (lv_at hl 2 rfl) ?_
    refine z_ci (z_runN (As := [.ref a0]) (rest := []) M hN hS zc_L_132 (c_L_isSo l hl0 s.heap.size (G, fun _ => none) cA a0 hC hR (by omega)) ⟨ad, ha, hTw.1⟩ rfl rfl ⟨Nat.le_of_ble_eq_true rfl, Nat.le_of_ble_eq_true rfl⟩ ⟨(by show _ ≤ 634610; omega), (by show _ ≤ 7197940; omega)⟩ hl.1 (Nat.le_of_ble_eq_true rfl) dL_law_90) hS (fun H locs _ hS => ?_)
    refine va_forget (fun q hq => hS.2.2 q hq) ?_
    refine W.widen (k := 634610) (n := 7197940) (by omega) (by omega) ?_
    exact lw_ret hx hb hr hlocks dL_law_93
  · have hk1 : k < 100 := z_lt (show ¬ nI 100 ≤ nI k from c1) (by omega)
    have again : ∀ (H : Heap) (locs : List Loc) (ls : Array Slot) (v : Int32), zAl s.heap.size G cA (k + 1) a0 b0 H → va_S (fun q => s.heap.size ≤ q) s.heap H locs → lv_has ls 7 [(4, .int v), (3, .int (nI k)), (2, .ref b0), (1, .ref a0), (0, .ref b)] → W p l e room_1 s m #[Value.ref b] below meth c H locs (100 + 128 * k + 26) (2000 + 780 * k + 168) (lw_Z below #[Value.ref b] s) (F0 m 60 ls []) := by
      intro H locs ls v hA hS hl
      have fin : ∀ (H : Heap) (locs : List Loc) (ls : Array Slot) (x y : Nat), x ≤ 100 + 128 * k + 128 → y ≤ 2000 + 780 * k + 780 → zAl s.heap.size G cA (k + 1) a0 b0 H → va_S (fun q => s.heap.size ≤ q) s.heap H locs → lv_has ls 7 [(4, .int v), (3, .int (nI k)), (2, .ref b0), (1, .ref a0), (0, .ref b)] → W p l e room_1 s m #[Value.ref b] below meth c H locs x y (lw_Z below #[Value.ref b] s) (F0 m 83 ls []) := by
        intro H locs ls x y hx1 hy1 hA hS hl
        refine lv_iinc (v := nI (k + 1)) (lv' := [(3, .int (nI (k + 1))), (4, .int v), (2, .ref b0), (1, .ref a0), (0, .ref b)]) hx hb dL_law_83 hl (k := 1) rfl (nI_succ _).symm (by decide) rfl (fun ls hl => ?_)
        refine lv_goto (tgt := 18) hx hb dL_law_86 (by decide) ?_
        refine W.widen (k := 100 + 128 * (k + 1)) (n := 2000 + 780 * (k + 1)) (by omega) (by omega) ?_
        exact ih hk1 H locs ls ⟨hA, hS, lv_sub hl [0, 2, 3, 4] rfl⟩
      refine lv_iload_n hx hb dL_law_60 rfl (lv_at hl 1 rfl) ?_
      refine lv_bipush (v := 25) hx hb dL_law_61 (by decide) ?_
      refine lv_irem hx hb dL_law_63 (by decide) ?_
      refine lv_bipush (v := 24) hx hb dL_law_64 (by decide) ?_
      refine lv_icmp_ne (tgt := 83) hx hb dL_law_66 (by decide) (fun c2 => ?_) (fun c2 => ?_)
      · exact fin H locs ls _ _ (by omega) (by omega) hA hS hl
      · refine lv_aload_n hx hb dL_law_69 rfl (lv_at hl 3 rfl) ?_
        refine lv_aload_n hx hb dL_law_70 rfl (lv_at hl 2 rfl) ?_
        refine lv_iload hx hb dL_law_71 (lv_at hl 0 rfl) ?_
        refine lv_iconst (v := 3) hx hb dL_law_73 (by decide) ?_
        refine lv_ishr hx hb dL_law_74 ?_
        refine z_ci (z_runN (As := [.ref a0, .ref b0, .int (v >>> (3 &&& 31))]) (rest := []) M hN hS zc_L_128 (c_L_areAlike l hl0 s.heap.size G cA (k + 1) a0 b0 (v >>> (3 &&& 31))) hA rfl rfl ⟨Nat.le_of_ble_eq_true rfl, Nat.le_of_ble_eq_true rfl⟩ ⟨(by show _ ≤ 634610; omega), (by show _ ≤ 7197940; omega)⟩ hl.1 (Nat.le_of_ble_eq_true rfl) dL_law_75) hS (fun H locs hA hS => ?_)
        refine lv_if_ne (tgt := 83) hx hb dL_law_78 (by decide) (fun c3 => ?_) (fun c3 => absurd c3 (by decide))
        exact fin H locs ls _ _ (by omega) (by omega) hA hS hl
    refine lv_aload_n hx hb dL_law_24 rfl (lv_at hl 3 rfl) ?_
    refine lv_iload_n hx hb dL_law_25 rfl (lv_at hl 0 rfl) ?_
    refine z_cellc (rest := []) M hX hbl hbl hS hk1 hL hA hl.1 ⟨Nat.le_of_ble_eq_true rfl, Nat.le_of_ble_eq_true rfl⟩ ⟨(by show _ ≤ 634610; omega), (by show _ ≤ 7197940; omega)⟩ (Nat.le_of_ble_eq_true rfl) dL_law_26 (fun H locs hA hS => ?_)
    refine lv_topi (fun v ev => ?_)
    refine lv_istore (lv' := [(4, .int v), (3, .int (nI k)), (2, .ref b0), (1, .ref a0), (0, .ref b)]) hx hb dL_law_29 hl (by decide) rfl (fun ls hl => ?_)
    refine lv_aload_n hx hb dL_law_31 rfl (lv_at hl 3 rfl) ?_
    refine lv_iload hx hb dL_law_32 (lv_at hl 0 rfl) ?_
    refine z1_act (rest := []) v (by omega) hl0 M hN hS hA hl.1 ⟨Nat.le_of_ble_eq_true rfl, Nat.le_of_ble_eq_true rfl⟩ ⟨(by show _ ≤ 634610; omega), (by show _ ≤ 7197940; omega)⟩ (Nat.le_of_ble_eq_true rfl) dL_law_34 (fun r H locs hA hS => ?_)
    refine lv_lstore (lv' := [(5, .long r), (4, .int v), (3, .int (nI k)), (2, .ref b0), (1, .ref a0), (0, .ref b)]) hx hb dL_law_37 hl (by decide) rfl (fun ls hl => ?_)
    refine lv_lload hx hb dL_law_39 (lv_at hl 0 rfl) ?_
    refine lv_ldc2 (v := -9000000000000000) hx hb M.2.2.2.1 (M.2.2.2.2.1.use (tb 212 (by decide +kernel)) rfl) dL_law_41 ?_
    refine W.lcmp hx hb dL_law_44 ?_
    rcases hA with ⟨hq, hA⟩ | ⟨hq, hA⟩
    · refine lv_if_eq (tgt := 60) hx hb dL_law_45 (by decide) (fun c2 => ?_) (fun c2 => absurd ((lg_cmp_eq _ _).mpr hq) c2)
      refine W.widen (k := 100 + 128 * k + 26) (n := 2000 + 780 * k + 168) (by omega) (by omega) ?_
      exact again H locs ls v hA hS (lv_sub hl [1, 2, 3, 4, 5] rfl)
    · refine lv_if_eq (tgt := 60) hx hb dL_law_45 (by decide) (fun c2 => absurd ((lg_cmp_eq _ _).mp c2) hq) (fun c2 => ?_)
      refine lv_aload_n hx hb dL_law_48 rfl (lv_at hl 3 rfl) ?_
      refine lv_iload hx hb dL_law_49 (lv_at hl 1 rfl) ?_
      refine z2_act (rest := []) hl0 M hN hS hA hl.1 ⟨Nat.le_of_ble_eq_true rfl, Nat.le_of_ble_eq_true rfl⟩ ⟨(by show _ ≤ 634610; omega), (by show _ ≤ 7197940; omega)⟩ (Nat.le_of_ble_eq_true rfl) dL_law_51 (fun H locs hA hS => ?_)
      refine lv_lload hx hb dL_law_54 (lv_at hl 0 rfl) ?_
      refine W.lcmp hx hb dL_law_56 ?_
      refine lv_if_ne (tgt := 81) hx hb dL_law_57 (by decide) (fun c3 => absurd ((lg_cmp_eq _ _).mpr rfl) c3) (fun c3 => ?_)
      refine W.widen (k := 100 + 128 * k + 26) (n := 2000 + 780 * k + 168) (by omega) (by omega) ?_
      exact again H locs ls v hA hS (lv_sub hl [1, 2, 3, 4, 5] rfl)
end ZLW2
set_option maxHeartbeats 8000000 in
set_option maxRecDepth 100000 in
/-- YOUR PART: from the entry, for every script of at most 260 ints, the law comes to its end with true ('hflags': the launch's flags, for a law that throws: no stack traces) -/
theorem whole_start {p : Program} {e : Env} {s : State} {m : MethodId} {below : List Frame} {meth : Method} {c : Code} (l : Launch) (hflags : l.flags = flags0) {b L : Nat} {xs : Nat → Int32} (hL : L ≤ 260) (C0 : lw_At p s m meth c b L xs) : W p l e room_1 s m #[Value.ref b] below meth c s.heap [] 0 0 (lw_Z below #[Value.ref b] s) (entryFrame m ([Value.ref b] : List Value).toArray 7) := by
  obtain ⟨hx, hb, hr, hml, hown, hts, hX, hbl, hlocks, hgv⟩ := id C0
  have hl0 : l.stackTraces = false := by
    unfold Launch.stackTraces
    rw [hflags]
    decide
  obtain ⟨G, cA, hKn⟩ := z_kn0 hts
  have hN := z_ncs0 hgv
  have M : zM p s m c cL_law RL 7 s.heap.size (G, fun _ => none) cA := ⟨hx, hb, hml, hown, zEnv.of hts, hKn, z_x0 hts hgv, z_st0 hts hKn, Nat.le_refl _⟩
  have hl := lv_entry ([.ref b]) (n := 7) (Nat.le_of_ble_eq_true rfl)
  rw [lg_entry_eq]
  generalize (lg_sl ([.ref b]) ++ List.replicate (7 - (lg_sl ([.ref b])).length) Slot.unset).toArray = ls at hl ⊢
  have hl : lv_has ls 7 [(0, .ref b)] := hl
  have hw : zH s.heap.size (G, fun _ => none) cA s s.heap [] (fun _ => 0) (fun _ => none) (fun _ _ => 0) (fun _ _ => 0) (fun _ _ => none) := ⟨⟨fun κ t h => (by cases h), ⟨fun κ κ' t t' h => (by cases h), fun a x h => (by cases h)⟩, fun κ k κ' h => (by cases h)⟩, va_S.rf⟩
  refine z_new (ci := 6) M hw 0 rfl (by decide) (tb 16 (by decide +kernel)) (tb 17 (by decide +kernel)) (tb 1 (by decide +kernel)) (Nat.le_of_ble_eq_true rfl) (Nat.le_of_ble_eq_true rfl) dL_law_0 (fun a0 H hw => ?_)
  obtain ⟨ad0, h0⟩ : ∃ z, z = zs (fun _ => 0) 0 a0 := ⟨_, rfl⟩
  rw [← h0] at hw ⊢
  have hw : zH s.heap.size (G, fun _ => none) cA s H [] ad0 zT0 zI0 zL0 zP0 := hw
  refine lv_dup hx hb dL_law_3 rfl ?_
  refine z_cv (z_runI (As := []) (rest := [.ref (ad0 0)]) M hw.2 zc_L_120 (c_X6_init l s.heap.size (G, fun _ => none) cA ad0 zT0 zI0 zL0 zP0 0 (by decide +kernel) (by decide +kernel) (by decide +kernel) (by decide +kernel) (by decide +kernel) (by decide +kernel) (by decide +kernel) (by decide +kernel) (by decide +kernel)) hw.1 rfl rfl ⟨Nat.le_of_ble_eq_true rfl, Nat.le_of_ble_eq_true rfl⟩ ⟨Nat.le_of_ble_eq_true rfl, Nat.le_of_ble_eq_true rfl⟩ hl.1 (Nat.le_of_ble_eq_true rfl) dL_law_4) hw.2 (fun H locs hw1 hS => ?_)
  obtain ⟨ad1, hag, hw1⟩ := hw1
  have hw1 : zW s.heap.size (G, fun _ => none) cA ad1 zT1 zI1 zL1 zP1 H := hw1
  have e0 : ad0 0 = ad1 0 := (hag 0 (6, 0) (by decide +kernel)).symm
  refine W.eq (g2 := F0 m 7 ls [.ref (ad1 0)]) (by rw [e0]) ?_
  refine lv_astore_n (lv' := [(1, .ref (ad1 0)), (0, .ref b)]) hx hb dL_law_7 rfl hl (by decide) rfl (fun ls hl => ?_)
  have hTw : zTw s.heap.size G cA ad1 (fun _ => 0) zT1 (fun _ => none) zI1 (fun _ _ => 0) zL1 (fun _ _ => 0) zP1 (fun _ _ => none) H := ⟨hw1, ⟨fun κ t h => (by cases h), ⟨fun κ κ' t t' h => (by cases h), fun a x h => (by cases h)⟩, fun κ k κ' h => (by cases h)⟩, fun κ κ' t t' _ h => (by cases h)⟩
  have hw : zH s.heap.size (G, zfo ad1 zT1 H) cA s H locs (fun _ => 0) (fun _ => none) (fun _ _ => 0) (fun _ _ => 0) (fun _ _ => none) := ⟨hTw.swap.out, hS⟩
  refine z_new (ci := 6) (M.fr (zfo ad1 zT1 H)) hw 0 rfl (by decide) (tb 16 (by decide +kernel)) (tb 17 (by decide +kernel)) (tb 1 (by decide +kernel)) (Nat.le_of_ble_eq_true rfl) (Nat.le_of_ble_eq_true rfl) dL_law_8 (fun a2 H2 hw => ?_)
  obtain ⟨ad2, h2⟩ : ∃ z, z = zs (fun _ => 0) 0 a2 := ⟨_, rfl⟩
  rw [← h2] at hw ⊢
  have hw : zH s.heap.size (G, zfo ad1 zT1 H) cA s H2 locs ad2 zT0 zI0 zL0 zP0 := hw
  refine lv_dup hx hb dL_law_11 rfl ?_
  refine z_cv (z_runI (As := []) (rest := [.ref (ad2 0)]) (M.fr (zfo ad1 zT1 H)) hw.2 zc_L_120 (c_X6_init l s.heap.size (G, zfo ad1 zT1 H) cA ad2 zT0 zI0 zL0 zP0 0 (by decide +kernel) (by decide +kernel) (by decide +kernel) (by decide +kernel) (by decide +kernel) (by decide +kernel) (by decide +kernel) (by decide +kernel) (by decide +kernel)) hw.1 rfl rfl ⟨Nat.le_of_ble_eq_true rfl, Nat.le_of_ble_eq_true rfl⟩ ⟨Nat.le_of_ble_eq_true rfl, Nat.le_of_ble_eq_true rfl⟩ hl.1 (Nat.le_of_ble_eq_true rfl) dL_law_12) hw.2 (fun H3 locs hw1 hS => ?_)
  obtain ⟨ad3, hag3, hw3⟩ := hw1
  have hw3 : zW s.heap.size (G, zfo ad1 zT1 H) cA ad3 zT1 zI1 zL1 zP1 H3 := hw3
  have e2 : ad2 0 = ad3 0 := (hag3 0 (6, 0) (by decide +kernel)).symm
  refine W.eq (g2 := F0 m 15 ls [.ref (ad3 0)]) (by rw [e2]) ?_
  refine lv_astore_n (lv' := [(2, .ref (ad3 0)), (1, .ref (ad1 0)), (0, .ref b)]) hx hb dL_law_15 rfl hl (by decide) rfl (fun ls hl => ?_)
  refine lv_iconst (v := 0) hx hb dL_law_16 (by decide) ?_
  refine z_topi (y := nI 0) rfl ?_
  refine lv_istore_n (lv' := [(3, .int (nI 0)), (2, .ref (ad3 0)), (1, .ref (ad1 0)), (0, .ref b)]) hx hb dL_law_17 rfl hl (by decide) rfl (fun ls hl => ?_)
  refine W.widen (k := 100) (n := 2000) (Nat.le_of_ble_eq_true rfl) (Nat.le_of_ble_eq_true rfl) ?_
  exact z_lawloop hl0 M hN hX hbl hL hr hlocks ⟨ad1, ad3, zT1, zI1, zL1, zP1, zLI_0, rfl, rfl, (hTw.swap.back hw3).swap⟩ hS hl
