/-! THE LAW'S CASES (laid by m_law3.py) -/
section ZLW
variable {p : Program} {l : Launch} {e : Env} {s : State} {m : MethodId} {below : List Frame} {meth : Method} {c : Code} {H : Heap} {locs : List Loc} {Q : State → Prop} {b Ln : Nat} {xs : Nat → Int32} {D : va_G} {cA : Nat → ClassId} {ad : Nat → Nat} {ty : zTyp} {I : zIt} {L : zLt} {P : zPt} {ls : Array Slot} {n : Nat}
set_option maxHeartbeats 4000000 in
set_option maxRecDepth 100000 in
theorem z_case_ship (hl0 : l.stackTraces = false) (M : zM p s m c cL_law RL 8 s.heap.size D cA) (hN : zNcs s) (hX : va_X b Ln xs s s.heap) (hbl : b < s.heap.size) (hL : Ln ≤ 4000) (hn7 : 7 * n + 7 ≤ Ln) (hn5 : n < 512) (hLI : zLI n ty I L P) (hw : zH s.heap.size D cA s H locs ad ty I L P) (hl : lv_has ls 8 [(4, .int (nI (7 * n))), (3, .ref (ad 160)), (2, .ref (ad 128)), (1, .ref (ad 0)), (0, .ref b)])
    (kk : ∀ (H : Heap) (locs : List Loc) (ls : Array Slot) (ad : Nat → Nat) (ty : zTyp) (I : zIt) (L : zLt) (P : zPt), zLI (n + 1) ty I L P → zH s.heap.size D cA s H locs ad ty I L P → lv_has ls 8 [(4, .int (nI (7 * n))), (3, .ref (ad 160)), (2, .ref (ad 128)), (1, .ref (ad 0)), (0, .ref b)] → W p l e room_1 s m #[Value.ref b] below meth c H locs (40 + 13 * (n + 1)) (700 + 84 * (n + 1)) Q (F0 m 1324 ls [])) :
    W p l e room_1 s m #[Value.ref b] below meth c H locs (40 + 13 * n) (700 + 84 * n) Q (F0 m 432 ls []) := by
  obtain ⟨hx, hb, -⟩ := id M
  obtain ⟨ni, nc, ns, nt, hrs, hT, hR0, hh⟩ := hLI
  obtain ⟨hC, hR, h160, hF⟩ := id hT
  have hbd := zREL_bd hR0
  obtain ⟨hb1, hb2, hb3, hb4⟩ := id hbd
  have hI := zREL_inv hR0
  have ht0 := zc_t0 hC
  have ht128 : ty 128 = some (7, 0) := zr_t hR 128 7 0 (by decide)
  obtain ⟨p0, ep0⟩ : ∃ y : Int32, y = xs (7 * n + 1) := ⟨_, rfl⟩
  obtain ⟨p1, ep1⟩ : ∃ y : Int32, y = xs (7 * n + 2) := ⟨_, rfl⟩
  refine lv_aload_n hx hb dL_law_432 rfl (lv_at hl 3 rfl) ?_
  refine lv_aload_n hx hb dL_law_433 rfl (lv_at hl 4 rfl) ?_
  refine lv_iload hx hb dL_law_434 (lv_at hl 0 rfl) ?_
  refine lv_iconst (v := 1) hx hb dL_law_436 (by decide) ?_
  refine lv_iadd hx hb dL_law_437 ?_
  refine z_sld hx hb hX hbl hw.2 (nI_add (7 * n) 1) (by omega) hL ep0 dL_law_438 ?_
  refine lv_aload_n hx hb dL_law_439 rfl (lv_at hl 4 rfl) ?_
  refine lv_iload hx hb dL_law_440 (lv_at hl 0 rfl) ?_
  refine lv_iconst (v := 2) hx hb dL_law_442 (by decide) ?_
  refine lv_iadd hx hb dL_law_443 ?_
  refine z_sld hx hb hX hbl hw.2 (nI_add (7 * n) 2) (by omega) hL ep1 dL_law_444 ?_
  refine lv_aload_n hx hb dL_law_445 rfl (lv_at hl 1 rfl) ?_
  obtain ⟨oc, eo⟩ : ∃ o : Nat, o = (zsq (zo1 p0 ni) (zsq (zo2 p1 1 20) (zo3 (nI ns) 4))) := ⟨_, rfl⟩
  obtain ⟨t, et⟩ : ∃ o : Nat, o = (if zlt p0 ni then (if zin p1 1 20 then (if nI ns = 4 then 3 else 0) else 2) else 1) := ⟨_, rfl⟩
  obtain ⟨r0, er⟩ : ∃ r : Int32, r = (nI ns) := ⟨_, rfl⟩
  have hz : (oc = 0 ∧ t = 0 ∧ (zlt p0 ni) ∧ (zin p1 1 20) ∧ (ns < 4)) ∨ (oc = 1 ∧ t = 1) ∨ (oc = 2 ∧ t = 2) ∨ (oc = 3 ∧ t = 3) := by
    rw [eo, et]
    exact zt_ship hbd.2.2.1 p0 p1
  have hz2 : (oc = 0 ∧ (zlt p0 ni) ∧ (zin p1 1 20) ∧ (ns < 4)) ∨ (¬ oc = 0 ∧ ¬ t = 0 ∧ t ≤ 3 ∧ ((if oc = 1 then 1 else (if oc = 2 then 2 else (if oc = 3 then 3 else 0))) : Int32) = nI t) := by
    rcases hz with ⟨q, -, cs⟩ | ⟨q, qt⟩ | ⟨q, qt⟩ | ⟨q, qt⟩
    · exact Or.inl ⟨q, cs⟩
    · exact Or.inr ⟨by rw [q]; decide, by rw [qt]; decide, by rw [qt]; decide, by rw [q, qt]; rfl⟩
    · exact Or.inr ⟨by rw [q]; decide, by rw [qt]; decide, by rw [qt]; decide, by rw [q, qt]; rfl⟩
    · exact Or.inr ⟨by rw [q]; decide, by rw [qt]; decide, by rw [qt]; decide, by rw [q, qt]; rfl⟩
  have hoc : oc = 0 ∨ oc = 1 ∨ oc = 2 ∨ oc = 3 := by
    rcases hz with ⟨q, -⟩ | ⟨q, -⟩ | ⟨q, -⟩ | ⟨q, -⟩
    · exact Or.inl q
    · exact Or.inr (Or.inl q)
    · exact Or.inr (Or.inr (Or.inl q))
    · exact Or.inr (Or.inr (Or.inr (q)))
  obtain ⟨I2, e1⟩ : ∃ X : zIt, X = (zu (zu (zu (zu (zu (zu (zu (zu (zu (zs I (48 + ns) (fun _ => 0)) (48 + ns) 3 0) (48 + ns) 4 0) (48 + ns) 5 (-1)) (48 + ns) 6 (-1)) (48 + ns) 7 0) (48 + ns) 1 (I (16 + p0.toNatClampNeg) 0)) (48 + ns) 2 (I (16 + p0.toNatClampNeg) 1)) (48 + ns) 0 p1) 0 4 (nI (ns + 1))) := ⟨_, rfl⟩
  obtain ⟨L2, e2⟩ : ∃ X : zLt, X = (zs L (48 + ns) (fun _ => 0)) := ⟨_, rfl⟩
  obtain ⟨ty2, e3⟩ : ∃ X : zTyp, X = (zs ty (48 + ns) (some (3, 0))) := ⟨_, rfl⟩
  obtain ⟨P2, e4⟩ : ∃ X : zPt, X = (zu (zs P (48 + ns) (fun _ => none)) 4 ns (some (48 + ns))) := ⟨_, rfl⟩
  have hM : zXi l s.heap.size D cA yX6_ship cX6_ship 3 .int 7 112 4 26 [.ref (ad 0), .int p0, .int p1] (zW s.heap.size D cA ad ty I L P) oc r0 (fun H => ∃ ad3, (∀ κ t, ty κ = some t → ad3 κ = ad κ) ∧ zW s.heap.size D cA ad3 ty2 I2 L2 P2 H) := by
    rw [eo, er, e1, e2, e3, e4]
    exact c_X6_ship l s.heap.size D cA ad ty I L P hl0 ni nc ns nt hC hI (fun z => hF.2.2.1 ns (Nat.le_refl _) z) p0 p1
  have hh0 := c_L_ship l s.heap.size D cA ad ty I L P 0 ht0 h160 p0 p1 hM hoc (fun H z => z) (by rw [e3]; rw [zs_ne _ _ (by omega)]; exact h160)
  refine z_ci (z_runH (As := [.ref (ad 0), .int p0, .int p1, .ref (ad 160)]) (rest := []) M hN hw.2 zh_ship hh0 hw.1 rfl rfl ⟨Nat.le_of_ble_eq_true rfl, Nat.le_of_ble_eq_true rfl⟩ ⟨(by show 40 + 13 * n + 4 ≤ 601024; omega), (by show 700 + 84 * n + 26 ≤ 7293034; omega)⟩ hl.1 (Nat.le_of_ble_eq_true rfl) dL_law_446) hw.2 (fun H locs hw1 hS => ?_)
  obtain ⟨ad2, hag, hw1⟩ := hw1
  refine W.widen (k := 40 + 13 * (n + 1)) (n := 700 + 84 * (n + 1)) (by omega) (by omega) ?_
  rw [← hag _ _ ht0, ← hag _ _ ht128, ← hag _ _ h160] at hl
  rcases hz2 with ⟨hoc0, h1, h2, h3⟩ | ⟨hne, htn, ht3, hk⟩
  · skip
    rw [if_pos hoc0] at hw1
    obtain ⟨K, eK⟩ : ∃ X : zLt, X = zu L2 160 0 r0.toInt64 := ⟨_, rfl⟩
    rw [← eK] at hw1
    have hw : zH s.heap.size D cA s H locs ad2 ty2 I2 K P2 := ⟨hw1, hS⟩
    rw [er] at eK
    have z3 := s3_ship hT hR0 hh hn5 (eo.symm.trans hoc0) h1 h2 h3 e1 e2 e3 e4 eK
    obtain ⟨ht, hV2, hT0, hK0, hRB, hLI2, hR2⟩ := z3
    obtain ⟨T3, eT⟩ : ∃ X : zIt, X = (zu (zu (zu (zu (zu I2 128 0 0) 142 ns p1) 144 ns (I2 131 p0.toNatClampNeg)) 145 ns (I2 132 p0.toNatClampNeg)) 128 13 (nI (ns + 1))) := ⟨_, rfl⟩
    obtain ⟨K3, eK3⟩ : ∃ X : zLt, X = K := ⟨_, rfl⟩
    obtain ⟨bv, ebv⟩ : ∃ X : Int32, X = nI ns := ⟨_, rfl⟩
    have hRf : zMi l s.heap.size D cA yX7_ship cX7_ship 4 .int 2 43 0 0 [.ref (ad2 128), .int p0, .int p1] (zW s.heap.size D cA ad2 ty2 I2 K P2) bv (zW s.heap.size D cA ad2 ty2 T3 K3 P2) := by
      have z := c_X7_ship l s.heap.size D cA ad2 ty2 I2 K P2 hR2 ni nc ns nt hbd hV2 p0 p1
      rw [if_pos ht, if_pos ht] at z
      rw [eT, eK3, ebv]
      exact z
    have hT0 : T3 128 0 = 0 := by rw [eT]; exact hT0
    have hKb : K3 160 0 = bv.toInt64 := by rw [eK3, ebv]; exact hK0.trans hRB
    have hLI2 : zLI (n + 1) ty2 T3 K3 P2 := by rw [eT, eK3]; exact hLI2
    have hty128 : ty2 128 = some (7, 0) := zr_t hR2 128 7 0 (by decide)
    have hty160 : ty2 160 = some (9, 1) := by obtain ⟨_, _, _, _, _, hq, -⟩ := hLI2; exact hq.2.2.1
    refine z_topi (y := 0) (by rw [hoc0]; rfl) ?_
    refine lv_istore (lv' := [(5, .int 0), (4, .int (nI (7 * n))), (3, .ref (ad2 160)), (2, .ref (ad2 128)), (1, .ref (ad2 0)), (0, .ref b)]) hx hb dL_law_449 hl (by decide) rfl (fun ls hl => ?_)
    refine lv_aload_n hx hb dL_law_451 rfl (lv_at hl 3 rfl) ?_
    refine lv_aload_n hx hb dL_law_452 rfl (lv_at hl 5 rfl) ?_
    refine lv_iload hx hb dL_law_453 (lv_at hl 1 rfl) ?_
    refine lv_iconst (v := 1) hx hb dL_law_455 (by decide) ?_
    refine lv_iadd hx hb dL_law_456 ?_
    refine z_sld hx hb hX hbl hw.2 (nI_add (7 * n) 1) (by omega) hL ep0 dL_law_457 ?_
    refine lv_aload_n hx hb dL_law_458 rfl (lv_at hl 5 rfl) ?_
    refine lv_iload hx hb dL_law_459 (lv_at hl 1 rfl) ?_
    refine lv_iconst (v := 2) hx hb dL_law_461 (by decide) ?_
    refine lv_iadd hx hb dL_law_462 ?_
    refine z_sld hx hb hX hbl hw.2 (nI_add (7 * n) 2) (by omega) hL ep1 dL_law_463 ?_
    refine z_ci0 (z_runV (As := [.int p0, .int p1]) (rest := []) M hw hty128 zc_L_99 hRf hw.1 rfl rfl ⟨Nat.le_of_ble_eq_true rfl, Nat.le_of_ble_eq_true rfl⟩ ⟨(by show 40 + 13 * (n + 1) + 0 ≤ 601024; omega), (by show 700 + 84 * (n + 1) + 0 ≤ 7293034; omega)⟩ hl.1 (Nat.le_of_ble_eq_true rfl) dL_law_464) hw (fun H locs hw => ?_)
    refine lv_istore (lv' := [(6, .int bv), (5, .int 0), (4, .int (nI (7 * n))), (3, .ref (ad2 160)), (2, .ref (ad2 128)), (1, .ref (ad2 0)), (0, .ref b)]) hx hb dL_law_467 hl (by decide) rfl (fun ls hl => ?_)
    refine lv_aload_n hx hb dL_law_469 rfl (lv_at hl 4 rfl) ?_
    refine z_ci0 (z_runV (As := []) (rest := []) M hw hty128 zc_L_83 (c_X7_thrown l s.heap.size D cA ad2 ty2 T3 K3 P2 hR2) hw.1 rfl rfl ⟨Nat.le_of_ble_eq_true rfl, Nat.le_of_ble_eq_true rfl⟩ ⟨(by show 40 + 13 * (n + 1) + 0 ≤ 601024; omega), (by show 700 + 84 * (n + 1) + 0 ≤ 7293034; omega)⟩ hl.1 (Nat.le_of_ble_eq_true rfl) dL_law_470) hw (fun H locs hw => ?_)
    refine z_topi (y := 0) hT0 ?_
    refine lv_iload hx hb dL_law_473 (lv_at hl 1 rfl) ?_
    refine lv_icmp_eq (tgt := 480) hx hb dL_law_475 (by decide) (fun c1 => ?_) (fun c1 => absurd rfl c1)
    refine lv_iload hx hb dL_law_480 (lv_at hl 1 rfl) ?_
    refine lv_if_ne (tgt := 497) hx hb dL_law_482 (by decide) (fun c2 => absurd rfl c2) (fun c2 => ?_)
    refine lv_aload_n hx hb dL_law_485 rfl (lv_at hl 3 rfl) ?_
    refine lv_iconst (v := 0) hx hb dL_law_486 (by decide) ?_
    refine z_lald M hw hty160 (z_ix (i := 0) (k := 0) rfl ⟨by omega, by omega⟩).1 dL_law_487 ?_
    refine z_topl (y := bv.toInt64) (show K3 160 (0 : Int32).toNatClampNeg = _ from hKb) ?_
    refine lv_iload hx hb dL_law_488 (lv_at hl 0 rfl) ?_
    refine lv_i2l hx hb dL_law_490 rfl ?_
    refine W.lcmp hx hb dL_law_491 ?_
    refine lv_if_eq (tgt := 497) hx hb dL_law_492 (by decide) (fun c3 => ?_) (fun c3 => absurd ((lg_cmp_eq _ _).mpr rfl) c3)
    refine lv_goto (tgt := 1324) hx hb dL_law_497 (by decide) ?_
    exact kk _ _ _ _ _ _ _ _ hLI2 hw (lv_sub hl [2, 3, 4, 5, 6] rfl)
  · skip
    rw [if_neg hne] at hw1
    have hw : zH s.heap.size D cA s H locs ad2 ty I L P := ⟨hw1, hS⟩
    have htn2 : ¬ (if zlt p0 ni then (if zin p1 1 20 then (if nI ns = 4 then 3 else 0) else 2) else 1) = 0 := by rw [← et]; exact htn
    obtain ⟨T3, eT⟩ : ∃ X : zIt, X = zu I 128 0 (nI t) := ⟨_, rfl⟩
    have hRf : zMi l s.heap.size D cA yX7_ship cX7_ship 4 .int 2 43 0 0 [.ref (ad2 128), .int p0, .int p1] (zW s.heap.size D cA ad2 ty I L P) 0 (zW s.heap.size D cA ad2 ty T3 L P) := by
      have z := c_X7_ship l s.heap.size D cA ad2 ty I L P hR ni nc ns nt hbd (zREL_rv hR0) p0 p1
      rw [if_neg htn2, if_neg htn2] at z
      rw [eT, et]
      exact z
    have hT0 : T3 128 0 = nI t := by rw [eT, zu_self]
    have hLI2 : zLI (n + 1) ty T3 L P := by rw [eT]; exact zLI_throw hT hR0 hh _
    have hnt : ¬ nI t = 0 := nI_ne0 (by omega) (by omega)
    refine z_topi (y := nI t) hk ?_
    refine lv_istore (lv' := [(5, .int (nI t)), (4, .int (nI (7 * n))), (3, .ref (ad2 160)), (2, .ref (ad2 128)), (1, .ref (ad2 0)), (0, .ref b)]) hx hb dL_law_449 hl (by decide) rfl (fun ls hl => ?_)
    refine lv_aload_n hx hb dL_law_451 rfl (lv_at hl 3 rfl) ?_
    refine lv_aload_n hx hb dL_law_452 rfl (lv_at hl 5 rfl) ?_
    refine lv_iload hx hb dL_law_453 (lv_at hl 1 rfl) ?_
    refine lv_iconst (v := 1) hx hb dL_law_455 (by decide) ?_
    refine lv_iadd hx hb dL_law_456 ?_
    refine z_sld hx hb hX hbl hw.2 (nI_add (7 * n) 1) (by omega) hL ep0 dL_law_457 ?_
    refine lv_aload_n hx hb dL_law_458 rfl (lv_at hl 5 rfl) ?_
    refine lv_iload hx hb dL_law_459 (lv_at hl 1 rfl) ?_
    refine lv_iconst (v := 2) hx hb dL_law_461 (by decide) ?_
    refine lv_iadd hx hb dL_law_462 ?_
    refine z_sld hx hb hX hbl hw.2 (nI_add (7 * n) 2) (by omega) hL ep1 dL_law_463 ?_
    refine z_ci0 (z_runV (As := [.int p0, .int p1]) (rest := []) M hw ht128 zc_L_99 hRf hw.1 rfl rfl ⟨Nat.le_of_ble_eq_true rfl, Nat.le_of_ble_eq_true rfl⟩ ⟨(by show 40 + 13 * (n + 1) + 0 ≤ 601024; omega), (by show 700 + 84 * (n + 1) + 0 ≤ 7293034; omega)⟩ hl.1 (Nat.le_of_ble_eq_true rfl) dL_law_464) hw (fun H locs hw => ?_)
    refine lv_istore (lv' := [(6, .int 0), (5, .int (nI t)), (4, .int (nI (7 * n))), (3, .ref (ad2 160)), (2, .ref (ad2 128)), (1, .ref (ad2 0)), (0, .ref b)]) hx hb dL_law_467 hl (by decide) rfl (fun ls hl => ?_)
    refine lv_aload_n hx hb dL_law_469 rfl (lv_at hl 4 rfl) ?_
    refine z_ci0 (z_runV (As := []) (rest := []) M hw ht128 zc_L_83 (c_X7_thrown l s.heap.size D cA ad2 ty T3 L P hR) hw.1 rfl rfl ⟨Nat.le_of_ble_eq_true rfl, Nat.le_of_ble_eq_true rfl⟩ ⟨(by show 40 + 13 * (n + 1) + 0 ≤ 601024; omega), (by show 700 + 84 * (n + 1) + 0 ≤ 7293034; omega)⟩ hl.1 (Nat.le_of_ble_eq_true rfl) dL_law_470) hw (fun H locs hw => ?_)
    refine z_topi (y := nI t) hT0 ?_
    refine lv_iload hx hb dL_law_473 (lv_at hl 1 rfl) ?_
    refine lv_icmp_eq (tgt := 480) hx hb dL_law_475 (by decide) (fun c1 => ?_) (fun c1 => absurd rfl c1)
    refine lv_iload hx hb dL_law_480 (lv_at hl 1 rfl) ?_
    refine lv_if_ne (tgt := 497) hx hb dL_law_482 (by decide) (fun c2 => ?_) (fun c2 => absurd c2 hnt)
    refine lv_goto (tgt := 1324) hx hb dL_law_497 (by decide) ?_
    exact kk _ _ _ _ _ _ _ _ hLI2 hw (lv_sub hl [2, 3, 4, 5, 6] rfl)
set_option maxHeartbeats 4000000 in
set_option maxRecDepth 100000 in
theorem z_case_send (hl0 : l.stackTraces = false) (M : zM p s m c cL_law RL 8 s.heap.size D cA) (hN : zNcs s) (hX : va_X b Ln xs s s.heap) (hbl : b < s.heap.size) (hL : Ln ≤ 4000) (hn7 : 7 * n + 7 ≤ Ln) (hn5 : n < 512) (hLI : zLI n ty I L P) (hw : zH s.heap.size D cA s H locs ad ty I L P) (hl : lv_has ls 8 [(4, .int (nI (7 * n))), (3, .ref (ad 160)), (2, .ref (ad 128)), (1, .ref (ad 0)), (0, .ref b)])
    (kk : ∀ (H : Heap) (locs : List Loc) (ls : Array Slot) (ad : Nat → Nat) (ty : zTyp) (I : zIt) (L : zLt) (P : zPt), zLI (n + 1) ty I L P → zH s.heap.size D cA s H locs ad ty I L P → lv_has ls 8 [(4, .int (nI (7 * n))), (3, .ref (ad 160)), (2, .ref (ad 128)), (1, .ref (ad 0)), (0, .ref b)] → W p l e room_1 s m #[Value.ref b] below meth c H locs (40 + 13 * (n + 1)) (700 + 84 * (n + 1)) Q (F0 m 1324 ls [])) :
    W p l e room_1 s m #[Value.ref b] below meth c H locs (40 + 13 * n) (700 + 84 * n) Q (F0 m 500 ls []) := by
  obtain ⟨hx, hb, -⟩ := id M
  obtain ⟨ni, nc, ns, nt, hrs, hT, hR0, hh⟩ := hLI
  obtain ⟨hC, hR, h160, hF⟩ := id hT
  have hbd := zREL_bd hR0
  obtain ⟨hb1, hb2, hb3, hb4⟩ := id hbd
  have hI := zREL_inv hR0
  have ht0 := zc_t0 hC
  have ht128 : ty 128 = some (7, 0) := zr_t hR 128 7 0 (by decide)
  obtain ⟨p0, ep0⟩ : ∃ y : Int32, y = xs (7 * n + 1) := ⟨_, rfl⟩
  obtain ⟨p1, ep1⟩ : ∃ y : Int32, y = xs (7 * n + 2) := ⟨_, rfl⟩
  obtain ⟨p2, ep2⟩ : ∃ y : Int32, y = xs (7 * n + 3) := ⟨_, rfl⟩
  refine lv_aload_n hx hb dL_law_500 rfl (lv_at hl 3 rfl) ?_
  refine lv_aload_n hx hb dL_law_501 rfl (lv_at hl 4 rfl) ?_
  refine lv_iload hx hb dL_law_502 (lv_at hl 0 rfl) ?_
  refine lv_iconst (v := 1) hx hb dL_law_504 (by decide) ?_
  refine lv_iadd hx hb dL_law_505 ?_
  refine z_sld hx hb hX hbl hw.2 (nI_add (7 * n) 1) (by omega) hL ep0 dL_law_506 ?_
  refine lv_aload_n hx hb dL_law_507 rfl (lv_at hl 4 rfl) ?_
  refine lv_iload hx hb dL_law_508 (lv_at hl 0 rfl) ?_
  refine lv_iconst (v := 2) hx hb dL_law_510 (by decide) ?_
  refine lv_iadd hx hb dL_law_511 ?_
  refine z_sld hx hb hX hbl hw.2 (nI_add (7 * n) 2) (by omega) hL ep1 dL_law_512 ?_
  refine lv_aload_n hx hb dL_law_513 rfl (lv_at hl 4 rfl) ?_
  refine lv_iload hx hb dL_law_514 (lv_at hl 0 rfl) ?_
  refine lv_iconst (v := 3) hx hb dL_law_516 (by decide) ?_
  refine lv_iadd hx hb dL_law_517 ?_
  refine z_sld hx hb hX hbl hw.2 (nI_add (7 * n) 3) (by omega) hL ep2 dL_law_518 ?_
  refine lv_aload_n hx hb dL_law_519 rfl (lv_at hl 1 rfl) ?_
  obtain ⟨oc, eo⟩ : ∃ o : Nat, o = (zoD I nc ns p0 p1 p2) := ⟨_, rfl⟩
  obtain ⟨t, et⟩ : ∃ o : Nat, o = (if zlt p0 ns then (if zlt p1 nc ∧ zlt p2 (zRsp I p1) then (if I 143 p0.toNatClampNeg = 0 then (if zoi (zPl I (8 * p1 + p2)) = -1 then 2 else 0) else 2) else 1) else 1) := ⟨_, rfl⟩
  skip
  have hz : (oc = 0 ∧ t = 0 ∧ (zlt p0 ns) ∧ (zlt p1 nc) ∧ (zlt p2 (zSpn I p1)) ∧ (I (48 + p0.toNatClampNeg) 3 = 0) ∧ (zHasF I (32 + p1.toNatClampNeg) p2)) ∨ (oc = 1 ∧ t = 1) ∨ (oc = 3 ∧ t = 2) := by
    rw [eo, et]
    exact zt_send hR0.2.2.2.2.2.1 hR0.2.2.2.2.1.2.1 (fun q hq => (hR0.2.2.2.2.2.2.1 q hq).1.2.2.2.1) p0 p1 p2
  have hz2 : (oc = 0 ∧ (zlt p0 ns) ∧ (zlt p1 nc) ∧ (zlt p2 (zSpn I p1)) ∧ (I (48 + p0.toNatClampNeg) 3 = 0) ∧ (zHasF I (32 + p1.toNatClampNeg) p2)) ∨ (¬ oc = 0 ∧ ¬ t = 0 ∧ t ≤ 3 ∧ ((if oc = 1 then 1 else (if oc = 3 then 2 else 0)) : Int32) = nI t) := by
    rcases hz with ⟨q, -, cs⟩ | ⟨q, qt⟩ | ⟨q, qt⟩
    · exact Or.inl ⟨q, cs⟩
    · exact Or.inr ⟨by rw [q]; decide, by rw [qt]; decide, by rw [qt]; decide, by rw [q, qt]; rfl⟩
    · exact Or.inr ⟨by rw [q]; decide, by rw [qt]; decide, by rw [qt]; decide, by rw [q, qt]; rfl⟩
  have hoc : oc = 0 ∨ oc = 1 ∨ oc = 3 := by
    rcases hz with ⟨q, -⟩ | ⟨q, -⟩ | ⟨q, -⟩
    · exact Or.inl q
    · exact Or.inr (Or.inl q)
    · exact Or.inr (Or.inr (q))
  obtain ⟨a, ea0⟩ : ∃ a : Nat, a = zea I p1.toNatClampNeg := ⟨_, rfl⟩
  obtain ⟨bq, eb0⟩ : ∃ a : Nat, a = zeb I p1.toNatClampNeg := ⟨_, rfl⟩
  have ha : zlt p1 nc → a < ni := fun q => by rw [ea0]; exact (hR0.2.2.2.2.1.2.2 _ (zlt_nat q).2).1
  have hb0 : zlt p1 nc → bq < ni := fun q => by rw [eb0]; exact (hR0.2.2.2.2.1.2.2 _ (zlt_nat q).2).2
  have ea : zlt p1 nc → I (32 + p1.toNatClampNeg) 0 = nI a := fun q => by rw [ea0]; exact (zCbs_at hR0.2.2.2.2.1.1 (zlt_nat q).2).1
  have eb : zlt p1 nc → I (32 + p1.toNatClampNeg) 1 = nI bq := fun q => by rw [eb0]; exact (zCbs_at hR0.2.2.2.2.1.1 (zlt_nat q).2).2.1
  obtain ⟨r0, er⟩ : ∃ r : Int32, r = (zHours ((zAim I (48 + p0.toNatClampNeg) (nI p1.toNatClampNeg) p2) (48 + p0.toNatClampNeg) 1) ((zAim I (48 + p0.toNatClampNeg) (nI p1.toNatClampNeg) p2) (48 + p0.toNatClampNeg) 2) ((zAim I (48 + p0.toNatClampNeg) (nI p1.toNatClampNeg) p2) (48 + p0.toNatClampNeg) 0) (zPlace p2 (I (16 + a) 0) (I (16 + bq) 0) (I (32 + p1.toNatClampNeg) 2)) (zPlace p2 (I (16 + a) 1) (I (16 + bq) 1) (I (32 + p1.toNatClampNeg) 2))) := ⟨_, rfl⟩
  obtain ⟨I2, e1⟩ : ∃ X : zIt, X = (zSet (zAim I (48 + p0.toNatClampNeg) (nI p1.toNatClampNeg) p2) (48 + p0.toNatClampNeg) (zPlace p2 (I (16 + a) 0) (I (16 + bq) 0) (I (32 + p1.toNatClampNeg) 2)) (zPlace p2 (I (16 + a) 1) (I (16 + bq) 1) (I (32 + p1.toNatClampNeg) 2))) := ⟨_, rfl⟩
  have hM : zXi l s.heap.size D cA yX6_send cX6_send 7 .int 8 133 5 30 [.ref (ad 0), .int p0, .int p1, .int p2] (zW s.heap.size D cA ad ty I L P) oc r0 (zW s.heap.size D cA ad ty I2 L P) := by
    rw [eo, er, e1]
    exact c_X6_send l s.heap.size D cA ad ty I L P hl0 ni nc ns nt hC hI p0 p1 p2 a bq ha hb0 ea eb
  have hh0 := c_L_send l s.heap.size D cA ad ty I L P 0 ht0 h160 p0 p1 p2 hM hoc (fun H z => ⟨ad, fun _ _ _ => rfl, z⟩) h160
  refine z_ci (z_runH (As := [.ref (ad 0), .int p0, .int p1, .int p2, .ref (ad 160)]) (rest := []) M hN hw.2 zh_send hh0 hw.1 rfl rfl ⟨Nat.le_of_ble_eq_true rfl, Nat.le_of_ble_eq_true rfl⟩ ⟨(by show 40 + 13 * n + 5 ≤ 601024; omega), (by show 700 + 84 * n + 30 ≤ 7293034; omega)⟩ hl.1 (Nat.le_of_ble_eq_true rfl) dL_law_520) hw.2 (fun H locs hw1 hS => ?_)
  obtain ⟨ad2, hag, hw1⟩ := hw1
  refine W.widen (k := 40 + 13 * (n + 1)) (n := 700 + 84 * (n + 1)) (by omega) (by omega) ?_
  rw [← hag _ _ ht0, ← hag _ _ ht128, ← hag _ _ h160] at hl
  rcases hz2 with ⟨hoc0, h1, h2, h3, h4, h5⟩ | ⟨hne, htn, ht3, hk⟩
  · skip
    rw [if_pos hoc0] at hw1
    obtain ⟨K, eK⟩ : ∃ X : zLt, X = zu L 160 0 r0.toInt64 := ⟨_, rfl⟩
    rw [← eK] at hw1
    have hw : zH s.heap.size D cA s H locs ad2 ty I2 K P := ⟨hw1, hS⟩
    rw [er] at eK
    have z3 := s3_send hT hR0 hh hn5 (eo.symm.trans hoc0) h1 h2 h3 h4 h5 (ea h2) (eb h2) (ha h2) (hb0 h2) e1  eK
    obtain ⟨ht, hV2, hT0, hK0, hRB, hLI2, hR2, hex⟩ := z3
    obtain ⟨T3, eT⟩ : ∃ X : zIt, X = (zSail (zu I2 128 0 0) p0.toNatClampNeg (zPlace p2 (I2 131 a) (I2 131 bq) (I2 136 p1.toNatClampNeg)) (zPlace p2 (I2 132 a) (I2 132 bq) (I2 136 p1.toNatClampNeg)) (8 * (nI p1.toNatClampNeg) + p2)) := ⟨_, rfl⟩
    obtain ⟨K3, eK3⟩ : ∃ X : zLt, X = K := ⟨_, rfl⟩
    obtain ⟨bv, ebv⟩ : ∃ X : Int32, X = zRh (zu I2 128 0 0) p0.toNatClampNeg (zPlace p2 (I2 131 a) (I2 131 bq) (I2 136 p1.toNatClampNeg)) (zPlace p2 (I2 132 a) (I2 132 bq) (I2 136 p1.toNatClampNeg)) := ⟨_, rfl⟩
    have hRf : zMi l s.heap.size D cA yX7_send cX7_send 6 .int 3 70 0 0 [.ref (ad2 128), .int p0, .int p1, .int p2] (zW s.heap.size D cA ad2 ty I2 K P) bv (zW s.heap.size D cA ad2 ty T3 K3 P) := by
      have z := c_X7_send l s.heap.size D cA ad2 ty I2 K P hR2 ni nc ns nt hbd hV2 p0 p1 p2 a bq (fun q => by have := ha q; omega) (fun q => by have := hb0 q; omega) (fun q => by rw [hex 134 (by omega)]; exact (hR0.2.2.2.2.1.2.1 _ (zlt_nat q).2).1.trans (ea q)) (fun q => by rw [hex 135 (by omega)]; exact (hR0.2.2.2.2.1.2.1 _ (zlt_nat q).2).2.1.trans (eb q))
      rw [if_pos ht, if_pos ht] at z
      rw [eT, eK3, ebv]
      exact z
    have hT0 : T3 128 0 = 0 := by rw [eT]; exact hT0
    have hKb : K3 160 0 = bv.toInt64 := by rw [eK3, ebv]; exact hK0.trans hRB
    have hLI2 : zLI (n + 1) ty T3 K3 P := by rw [eT, eK3]; exact hLI2
    have hty128 : ty 128 = some (7, 0) := zr_t hR2 128 7 0 (by decide)
    have hty160 : ty 160 = some (9, 1) := by obtain ⟨_, _, _, _, _, hq, -⟩ := hLI2; exact hq.2.2.1
    refine z_topi (y := 0) (by rw [hoc0]; rfl) ?_
    refine lv_istore (lv' := [(5, .int 0), (4, .int (nI (7 * n))), (3, .ref (ad2 160)), (2, .ref (ad2 128)), (1, .ref (ad2 0)), (0, .ref b)]) hx hb dL_law_523 hl (by decide) rfl (fun ls hl => ?_)
    refine lv_aload_n hx hb dL_law_525 rfl (lv_at hl 3 rfl) ?_
    refine lv_aload_n hx hb dL_law_526 rfl (lv_at hl 5 rfl) ?_
    refine lv_iload hx hb dL_law_527 (lv_at hl 1 rfl) ?_
    refine lv_iconst (v := 1) hx hb dL_law_529 (by decide) ?_
    refine lv_iadd hx hb dL_law_530 ?_
    refine z_sld hx hb hX hbl hw.2 (nI_add (7 * n) 1) (by omega) hL ep0 dL_law_531 ?_
    refine lv_aload_n hx hb dL_law_532 rfl (lv_at hl 5 rfl) ?_
    refine lv_iload hx hb dL_law_533 (lv_at hl 1 rfl) ?_
    refine lv_iconst (v := 2) hx hb dL_law_535 (by decide) ?_
    refine lv_iadd hx hb dL_law_536 ?_
    refine z_sld hx hb hX hbl hw.2 (nI_add (7 * n) 2) (by omega) hL ep1 dL_law_537 ?_
    refine lv_aload_n hx hb dL_law_538 rfl (lv_at hl 5 rfl) ?_
    refine lv_iload hx hb dL_law_539 (lv_at hl 1 rfl) ?_
    refine lv_iconst (v := 3) hx hb dL_law_541 (by decide) ?_
    refine lv_iadd hx hb dL_law_542 ?_
    refine z_sld hx hb hX hbl hw.2 (nI_add (7 * n) 3) (by omega) hL ep2 dL_law_543 ?_
    refine z_ci0 (z_runV (As := [.int p0, .int p1, .int p2]) (rest := []) M hw hty128 zc_L_103 hRf hw.1 rfl rfl ⟨Nat.le_of_ble_eq_true rfl, Nat.le_of_ble_eq_true rfl⟩ ⟨(by show 40 + 13 * (n + 1) + 0 ≤ 601024; omega), (by show 700 + 84 * (n + 1) + 0 ≤ 7293034; omega)⟩ hl.1 (Nat.le_of_ble_eq_true rfl) dL_law_544) hw (fun H locs hw => ?_)
    refine lv_istore (lv' := [(6, .int bv), (5, .int 0), (4, .int (nI (7 * n))), (3, .ref (ad2 160)), (2, .ref (ad2 128)), (1, .ref (ad2 0)), (0, .ref b)]) hx hb dL_law_547 hl (by decide) rfl (fun ls hl => ?_)
    refine lv_aload_n hx hb dL_law_549 rfl (lv_at hl 4 rfl) ?_
    refine z_ci0 (z_runV (As := []) (rest := []) M hw hty128 zc_L_83 (c_X7_thrown l s.heap.size D cA ad2 ty T3 K3 P hR2) hw.1 rfl rfl ⟨Nat.le_of_ble_eq_true rfl, Nat.le_of_ble_eq_true rfl⟩ ⟨(by show 40 + 13 * (n + 1) + 0 ≤ 601024; omega), (by show 700 + 84 * (n + 1) + 0 ≤ 7293034; omega)⟩ hl.1 (Nat.le_of_ble_eq_true rfl) dL_law_550) hw (fun H locs hw => ?_)
    refine z_topi (y := 0) hT0 ?_
    refine lv_iload hx hb dL_law_553 (lv_at hl 1 rfl) ?_
    refine lv_icmp_eq (tgt := 560) hx hb dL_law_555 (by decide) (fun c1 => ?_) (fun c1 => absurd rfl c1)
    refine lv_iload hx hb dL_law_560 (lv_at hl 1 rfl) ?_
    refine lv_if_ne (tgt := 577) hx hb dL_law_562 (by decide) (fun c2 => absurd rfl c2) (fun c2 => ?_)
    refine lv_aload_n hx hb dL_law_565 rfl (lv_at hl 3 rfl) ?_
    refine lv_iconst (v := 0) hx hb dL_law_566 (by decide) ?_
    refine z_lald M hw hty160 (z_ix (i := 0) (k := 0) rfl ⟨by omega, by omega⟩).1 dL_law_567 ?_
    refine z_topl (y := bv.toInt64) (show K3 160 (0 : Int32).toNatClampNeg = _ from hKb) ?_
    refine lv_iload hx hb dL_law_568 (lv_at hl 0 rfl) ?_
    refine lv_i2l hx hb dL_law_570 rfl ?_
    refine W.lcmp hx hb dL_law_571 ?_
    refine lv_if_eq (tgt := 577) hx hb dL_law_572 (by decide) (fun c3 => ?_) (fun c3 => absurd ((lg_cmp_eq _ _).mpr rfl) c3)
    refine lv_goto (tgt := 1324) hx hb dL_law_577 (by decide) ?_
    exact kk _ _ _ _ _ _ _ _ hLI2 hw (lv_sub hl [2, 3, 4, 5, 6] rfl)
  · skip
    rw [if_neg hne] at hw1
    have hw : zH s.heap.size D cA s H locs ad2 ty I L P := ⟨hw1, hS⟩
    have htn2 : ¬ (if zlt p0 ns then (if zlt p1 nc ∧ zlt p2 (zRsp I p1) then (if I 143 p0.toNatClampNeg = 0 then (if zoi (zPl I (8 * p1 + p2)) = -1 then 2 else 0) else 2) else 1) else 1) = 0 := by rw [← et]; exact htn
    obtain ⟨T3, eT⟩ : ∃ X : zIt, X = zu I 128 0 (nI t) := ⟨_, rfl⟩
    have hRf : zMi l s.heap.size D cA yX7_send cX7_send 6 .int 3 70 0 0 [.ref (ad2 128), .int p0, .int p1, .int p2] (zW s.heap.size D cA ad2 ty I L P) 0 (zW s.heap.size D cA ad2 ty T3 L P) := by
      have z := c_X7_send l s.heap.size D cA ad2 ty I L P hR ni nc ns nt hbd (zREL_rv hR0) p0 p1 p2 a bq (fun q => by have := ha q; omega) (fun q => by have := hb0 q; omega) (fun q => (hR0.2.2.2.2.1.2.1 _ (zlt_nat q).2).1.trans (ea q)) (fun q => (hR0.2.2.2.2.1.2.1 _ (zlt_nat q).2).2.1.trans (eb q))
      rw [if_neg htn2, if_neg htn2] at z
      rw [eT, et]
      exact z
    have hT0 : T3 128 0 = nI t := by rw [eT, zu_self]
    have hLI2 : zLI (n + 1) ty T3 L P := by rw [eT]; exact zLI_throw hT hR0 hh _
    have hnt : ¬ nI t = 0 := nI_ne0 (by omega) (by omega)
    refine z_topi (y := nI t) hk ?_
    refine lv_istore (lv' := [(5, .int (nI t)), (4, .int (nI (7 * n))), (3, .ref (ad2 160)), (2, .ref (ad2 128)), (1, .ref (ad2 0)), (0, .ref b)]) hx hb dL_law_523 hl (by decide) rfl (fun ls hl => ?_)
    refine lv_aload_n hx hb dL_law_525 rfl (lv_at hl 3 rfl) ?_
    refine lv_aload_n hx hb dL_law_526 rfl (lv_at hl 5 rfl) ?_
    refine lv_iload hx hb dL_law_527 (lv_at hl 1 rfl) ?_
    refine lv_iconst (v := 1) hx hb dL_law_529 (by decide) ?_
    refine lv_iadd hx hb dL_law_530 ?_
    refine z_sld hx hb hX hbl hw.2 (nI_add (7 * n) 1) (by omega) hL ep0 dL_law_531 ?_
    refine lv_aload_n hx hb dL_law_532 rfl (lv_at hl 5 rfl) ?_
    refine lv_iload hx hb dL_law_533 (lv_at hl 1 rfl) ?_
    refine lv_iconst (v := 2) hx hb dL_law_535 (by decide) ?_
    refine lv_iadd hx hb dL_law_536 ?_
    refine z_sld hx hb hX hbl hw.2 (nI_add (7 * n) 2) (by omega) hL ep1 dL_law_537 ?_
    refine lv_aload_n hx hb dL_law_538 rfl (lv_at hl 5 rfl) ?_
    refine lv_iload hx hb dL_law_539 (lv_at hl 1 rfl) ?_
    refine lv_iconst (v := 3) hx hb dL_law_541 (by decide) ?_
    refine lv_iadd hx hb dL_law_542 ?_
    refine z_sld hx hb hX hbl hw.2 (nI_add (7 * n) 3) (by omega) hL ep2 dL_law_543 ?_
    refine z_ci0 (z_runV (As := [.int p0, .int p1, .int p2]) (rest := []) M hw ht128 zc_L_103 hRf hw.1 rfl rfl ⟨Nat.le_of_ble_eq_true rfl, Nat.le_of_ble_eq_true rfl⟩ ⟨(by show 40 + 13 * (n + 1) + 0 ≤ 601024; omega), (by show 700 + 84 * (n + 1) + 0 ≤ 7293034; omega)⟩ hl.1 (Nat.le_of_ble_eq_true rfl) dL_law_544) hw (fun H locs hw => ?_)
    refine lv_istore (lv' := [(6, .int 0), (5, .int (nI t)), (4, .int (nI (7 * n))), (3, .ref (ad2 160)), (2, .ref (ad2 128)), (1, .ref (ad2 0)), (0, .ref b)]) hx hb dL_law_547 hl (by decide) rfl (fun ls hl => ?_)
    refine lv_aload_n hx hb dL_law_549 rfl (lv_at hl 4 rfl) ?_
    refine z_ci0 (z_runV (As := []) (rest := []) M hw ht128 zc_L_83 (c_X7_thrown l s.heap.size D cA ad2 ty T3 L P hR) hw.1 rfl rfl ⟨Nat.le_of_ble_eq_true rfl, Nat.le_of_ble_eq_true rfl⟩ ⟨(by show 40 + 13 * (n + 1) + 0 ≤ 601024; omega), (by show 700 + 84 * (n + 1) + 0 ≤ 7293034; omega)⟩ hl.1 (Nat.le_of_ble_eq_true rfl) dL_law_550) hw (fun H locs hw => ?_)
    refine z_topi (y := nI t) hT0 ?_
    refine lv_iload hx hb dL_law_553 (lv_at hl 1 rfl) ?_
    refine lv_icmp_eq (tgt := 560) hx hb dL_law_555 (by decide) (fun c1 => ?_) (fun c1 => absurd rfl c1)
    refine lv_iload hx hb dL_law_560 (lv_at hl 1 rfl) ?_
    refine lv_if_ne (tgt := 577) hx hb dL_law_562 (by decide) (fun c2 => ?_) (fun c2 => absurd c2 hnt)
    refine lv_goto (tgt := 1324) hx hb dL_law_577 (by decide) ?_
    exact kk _ _ _ _ _ _ _ _ hLI2 hw (lv_sub hl [2, 3, 4, 5, 6] rfl)
set_option maxHeartbeats 4000000 in
set_option maxRecDepth 100000 in
theorem z_case_home (hl0 : l.stackTraces = false) (M : zM p s m c cL_law RL 8 s.heap.size D cA) (hN : zNcs s) (hX : va_X b Ln xs s s.heap) (hbl : b < s.heap.size) (hL : Ln ≤ 4000) (hn7 : 7 * n + 7 ≤ Ln) (hn5 : n < 512) (hLI : zLI n ty I L P) (hw : zH s.heap.size D cA s H locs ad ty I L P) (hl : lv_has ls 8 [(4, .int (nI (7 * n))), (3, .ref (ad 160)), (2, .ref (ad 128)), (1, .ref (ad 0)), (0, .ref b)])
    (kk : ∀ (H : Heap) (locs : List Loc) (ls : Array Slot) (ad : Nat → Nat) (ty : zTyp) (I : zIt) (L : zLt) (P : zPt), zLI (n + 1) ty I L P → zH s.heap.size D cA s H locs ad ty I L P → lv_has ls 8 [(4, .int (nI (7 * n))), (3, .ref (ad 160)), (2, .ref (ad 128)), (1, .ref (ad 0)), (0, .ref b)] → W p l e room_1 s m #[Value.ref b] below meth c H locs (40 + 13 * (n + 1)) (700 + 84 * (n + 1)) Q (F0 m 1324 ls [])) :
    W p l e room_1 s m #[Value.ref b] below meth c H locs (40 + 13 * n) (700 + 84 * n) Q (F0 m 580 ls []) := by
  obtain ⟨hx, hb, -⟩ := id M
  obtain ⟨ni, nc, ns, nt, hrs, hT, hR0, hh⟩ := hLI
  obtain ⟨hC, hR, h160, hF⟩ := id hT
  have hbd := zREL_bd hR0
  obtain ⟨hb1, hb2, hb3, hb4⟩ := id hbd
  have hI := zREL_inv hR0
  have ht0 := zc_t0 hC
  have ht128 : ty 128 = some (7, 0) := zr_t hR 128 7 0 (by decide)
  obtain ⟨p0, ep0⟩ : ∃ y : Int32, y = xs (7 * n + 1) := ⟨_, rfl⟩
  obtain ⟨p1, ep1⟩ : ∃ y : Int32, y = xs (7 * n + 2) := ⟨_, rfl⟩
  refine lv_aload_n hx hb dL_law_580 rfl (lv_at hl 3 rfl) ?_
  refine lv_aload_n hx hb dL_law_581 rfl (lv_at hl 4 rfl) ?_
  refine lv_iload hx hb dL_law_582 (lv_at hl 0 rfl) ?_
  refine lv_iconst (v := 1) hx hb dL_law_584 (by decide) ?_
  refine lv_iadd hx hb dL_law_585 ?_
  refine z_sld hx hb hX hbl hw.2 (nI_add (7 * n) 1) (by omega) hL ep0 dL_law_586 ?_
  refine lv_aload_n hx hb dL_law_587 rfl (lv_at hl 4 rfl) ?_
  refine lv_iload hx hb dL_law_588 (lv_at hl 0 rfl) ?_
  refine lv_iconst (v := 2) hx hb dL_law_590 (by decide) ?_
  refine lv_iadd hx hb dL_law_591 ?_
  refine z_sld hx hb hX hbl hw.2 (nI_add (7 * n) 2) (by omega) hL ep1 dL_law_592 ?_
  refine lv_aload_n hx hb dL_law_593 rfl (lv_at hl 1 rfl) ?_
  obtain ⟨oc, eo⟩ : ∃ o : Nat, o = (zoH I ni ns p0 p1) := ⟨_, rfl⟩
  obtain ⟨t, et⟩ : ∃ o : Nat, o = (if zlt p0 ns then (if zlt p1 ni then (if I 143 p0.toNatClampNeg = 0 then 0 else 2) else 1) else 1) := ⟨_, rfl⟩
  obtain ⟨r0, er⟩ : ∃ r : Int32, r = (zHours ((zAim I (48 + p0.toNatClampNeg) (-1) (-1)) (48 + p0.toNatClampNeg) 1) ((zAim I (48 + p0.toNatClampNeg) (-1) (-1)) (48 + p0.toNatClampNeg) 2) ((zAim I (48 + p0.toNatClampNeg) (-1) (-1)) (48 + p0.toNatClampNeg) 0) (I (16 + p1.toNatClampNeg) 0) (I (16 + p1.toNatClampNeg) 1)) := ⟨_, rfl⟩
  have hz : (oc = 0 ∧ t = 0 ∧ (zlt p0 ns) ∧ (zlt p1 ni) ∧ (I (48 + p0.toNatClampNeg) 3 = 0)) ∨ (oc = 1 ∧ t = 1) ∨ (oc = 3 ∧ t = 2) := by
    rw [eo, et]
    exact zt_home (fun q hq => (hR0.2.2.2.2.2.2.1 q hq).1.2.2.2.1) p0 p1
  have hz2 : (oc = 0 ∧ (zlt p0 ns) ∧ (zlt p1 ni) ∧ (I (48 + p0.toNatClampNeg) 3 = 0)) ∨ (¬ oc = 0 ∧ ¬ t = 0 ∧ t ≤ 3 ∧ ((if oc = 1 then 1 else (if oc = 3 then 2 else 0)) : Int32) = nI t) := by
    rcases hz with ⟨q, -, cs⟩ | ⟨q, qt⟩ | ⟨q, qt⟩
    · exact Or.inl ⟨q, cs⟩
    · exact Or.inr ⟨by rw [q]; decide, by rw [qt]; decide, by rw [qt]; decide, by rw [q, qt]; rfl⟩
    · exact Or.inr ⟨by rw [q]; decide, by rw [qt]; decide, by rw [qt]; decide, by rw [q, qt]; rfl⟩
  have hoc : oc = 0 ∨ oc = 1 ∨ oc = 3 := by
    rcases hz with ⟨q, -⟩ | ⟨q, -⟩ | ⟨q, -⟩
    · exact Or.inl q
    · exact Or.inr (Or.inl q)
    · exact Or.inr (Or.inr (q))
  obtain ⟨I2, e1⟩ : ∃ X : zIt, X = (zSet (zAim I (48 + p0.toNatClampNeg) (-1) (-1)) (48 + p0.toNatClampNeg) (I (16 + p1.toNatClampNeg) 0) (I (16 + p1.toNatClampNeg) 1)) := ⟨_, rfl⟩
  have hM : zXi l s.heap.size D cA yX6_home cX6_home 3 .int 7 111 3 18 [.ref (ad 0), .int p0, .int p1] (zW s.heap.size D cA ad ty I L P) oc r0 (zW s.heap.size D cA ad ty I2 L P) := by
    rw [eo, er, e1]
    exact c_X6_home l s.heap.size D cA ad ty I L P hl0 ni nc ns nt hC hI p0 p1
  have hh0 := c_L_home l s.heap.size D cA ad ty I L P 0 ht0 h160 p0 p1 hM hoc (fun H z => ⟨ad, fun _ _ _ => rfl, z⟩) h160
  refine z_ci (z_runH (As := [.ref (ad 0), .int p0, .int p1, .ref (ad 160)]) (rest := []) M hN hw.2 zh_home hh0 hw.1 rfl rfl ⟨Nat.le_of_ble_eq_true rfl, Nat.le_of_ble_eq_true rfl⟩ ⟨(by show 40 + 13 * n + 3 ≤ 601024; omega), (by show 700 + 84 * n + 18 ≤ 7293034; omega)⟩ hl.1 (Nat.le_of_ble_eq_true rfl) dL_law_594) hw.2 (fun H locs hw1 hS => ?_)
  obtain ⟨ad2, hag, hw1⟩ := hw1
  refine W.widen (k := 40 + 13 * (n + 1)) (n := 700 + 84 * (n + 1)) (by omega) (by omega) ?_
  rw [← hag _ _ ht0, ← hag _ _ ht128, ← hag _ _ h160] at hl
  rcases hz2 with ⟨hoc0, h1, h2, h3⟩ | ⟨hne, htn, ht3, hk⟩
  · skip
    rw [if_pos hoc0] at hw1
    obtain ⟨K, eK⟩ : ∃ X : zLt, X = zu L 160 0 r0.toInt64 := ⟨_, rfl⟩
    rw [← eK] at hw1
    have hw : zH s.heap.size D cA s H locs ad2 ty I2 K P := ⟨hw1, hS⟩
    rw [er] at eK
    have z3 := s3_home hT hR0 hh hn5 (eo.symm.trans hoc0) h1 h2 h3 e1  eK
    obtain ⟨ht, hV2, hT0, hK0, hRB, hLI2, hR2⟩ := z3
    obtain ⟨T3, eT⟩ : ∃ X : zIt, X = (zSail (zu I2 128 0 0) p0.toNatClampNeg (I2 131 p1.toNatClampNeg) (I2 132 p1.toNatClampNeg) (-1)) := ⟨_, rfl⟩
    obtain ⟨K3, eK3⟩ : ∃ X : zLt, X = K := ⟨_, rfl⟩
    obtain ⟨bv, ebv⟩ : ∃ X : Int32, X = zRh (zu I2 128 0 0) p0.toNatClampNeg (I2 131 p1.toNatClampNeg) (I2 132 p1.toNatClampNeg) := ⟨_, rfl⟩
    have hRf : zMi l s.heap.size D cA yX7_home cX7_home 4 .int 3 70 0 0 [.ref (ad2 128), .int p0, .int p1] (zW s.heap.size D cA ad2 ty I2 K P) bv (zW s.heap.size D cA ad2 ty T3 K3 P) := by
      have z := c_X7_home l s.heap.size D cA ad2 ty I2 K P hR2 ni nc ns nt hbd hV2 p0 p1
      rw [if_pos ht, if_pos ht] at z
      rw [eT, eK3, ebv]
      exact z
    have hT0 : T3 128 0 = 0 := by rw [eT]; exact hT0
    have hKb : K3 160 0 = bv.toInt64 := by rw [eK3, ebv]; exact hK0.trans hRB
    have hLI2 : zLI (n + 1) ty T3 K3 P := by rw [eT, eK3]; exact hLI2
    have hty128 : ty 128 = some (7, 0) := zr_t hR2 128 7 0 (by decide)
    have hty160 : ty 160 = some (9, 1) := by obtain ⟨_, _, _, _, _, hq, -⟩ := hLI2; exact hq.2.2.1
    refine z_topi (y := 0) (by rw [hoc0]; rfl) ?_
    refine lv_istore (lv' := [(5, .int 0), (4, .int (nI (7 * n))), (3, .ref (ad2 160)), (2, .ref (ad2 128)), (1, .ref (ad2 0)), (0, .ref b)]) hx hb dL_law_597 hl (by decide) rfl (fun ls hl => ?_)
    refine lv_aload_n hx hb dL_law_599 rfl (lv_at hl 3 rfl) ?_
    refine lv_aload_n hx hb dL_law_600 rfl (lv_at hl 5 rfl) ?_
    refine lv_iload hx hb dL_law_601 (lv_at hl 1 rfl) ?_
    refine lv_iconst (v := 1) hx hb dL_law_603 (by decide) ?_
    refine lv_iadd hx hb dL_law_604 ?_
    refine z_sld hx hb hX hbl hw.2 (nI_add (7 * n) 1) (by omega) hL ep0 dL_law_605 ?_
    refine lv_aload_n hx hb dL_law_606 rfl (lv_at hl 5 rfl) ?_
    refine lv_iload hx hb dL_law_607 (lv_at hl 1 rfl) ?_
    refine lv_iconst (v := 2) hx hb dL_law_609 (by decide) ?_
    refine lv_iadd hx hb dL_law_610 ?_
    refine z_sld hx hb hX hbl hw.2 (nI_add (7 * n) 2) (by omega) hL ep1 dL_law_611 ?_
    refine z_ci0 (z_runV (As := [.int p0, .int p1]) (rest := []) M hw hty128 zc_L_106 hRf hw.1 rfl rfl ⟨Nat.le_of_ble_eq_true rfl, Nat.le_of_ble_eq_true rfl⟩ ⟨(by show 40 + 13 * (n + 1) + 0 ≤ 601024; omega), (by show 700 + 84 * (n + 1) + 0 ≤ 7293034; omega)⟩ hl.1 (Nat.le_of_ble_eq_true rfl) dL_law_612) hw (fun H locs hw => ?_)
    refine lv_istore (lv' := [(6, .int bv), (5, .int 0), (4, .int (nI (7 * n))), (3, .ref (ad2 160)), (2, .ref (ad2 128)), (1, .ref (ad2 0)), (0, .ref b)]) hx hb dL_law_615 hl (by decide) rfl (fun ls hl => ?_)
    refine lv_aload_n hx hb dL_law_617 rfl (lv_at hl 4 rfl) ?_
    refine z_ci0 (z_runV (As := []) (rest := []) M hw hty128 zc_L_83 (c_X7_thrown l s.heap.size D cA ad2 ty T3 K3 P hR2) hw.1 rfl rfl ⟨Nat.le_of_ble_eq_true rfl, Nat.le_of_ble_eq_true rfl⟩ ⟨(by show 40 + 13 * (n + 1) + 0 ≤ 601024; omega), (by show 700 + 84 * (n + 1) + 0 ≤ 7293034; omega)⟩ hl.1 (Nat.le_of_ble_eq_true rfl) dL_law_618) hw (fun H locs hw => ?_)
    refine z_topi (y := 0) hT0 ?_
    refine lv_iload hx hb dL_law_621 (lv_at hl 1 rfl) ?_
    refine lv_icmp_eq (tgt := 628) hx hb dL_law_623 (by decide) (fun c1 => ?_) (fun c1 => absurd rfl c1)
    refine lv_iload hx hb dL_law_628 (lv_at hl 1 rfl) ?_
    refine lv_if_ne (tgt := 645) hx hb dL_law_630 (by decide) (fun c2 => absurd rfl c2) (fun c2 => ?_)
    refine lv_aload_n hx hb dL_law_633 rfl (lv_at hl 3 rfl) ?_
    refine lv_iconst (v := 0) hx hb dL_law_634 (by decide) ?_
    refine z_lald M hw hty160 (z_ix (i := 0) (k := 0) rfl ⟨by omega, by omega⟩).1 dL_law_635 ?_
    refine z_topl (y := bv.toInt64) (show K3 160 (0 : Int32).toNatClampNeg = _ from hKb) ?_
    refine lv_iload hx hb dL_law_636 (lv_at hl 0 rfl) ?_
    refine lv_i2l hx hb dL_law_638 rfl ?_
    refine W.lcmp hx hb dL_law_639 ?_
    refine lv_if_eq (tgt := 645) hx hb dL_law_640 (by decide) (fun c3 => ?_) (fun c3 => absurd ((lg_cmp_eq _ _).mpr rfl) c3)
    refine lv_goto (tgt := 1324) hx hb dL_law_645 (by decide) ?_
    exact kk _ _ _ _ _ _ _ _ hLI2 hw (lv_sub hl [2, 3, 4, 5, 6] rfl)
  · skip
    rw [if_neg hne] at hw1
    have hw : zH s.heap.size D cA s H locs ad2 ty I L P := ⟨hw1, hS⟩
    have htn2 : ¬ (if zlt p0 ns then (if zlt p1 ni then (if I 143 p0.toNatClampNeg = 0 then 0 else 2) else 1) else 1) = 0 := by rw [← et]; exact htn
    obtain ⟨T3, eT⟩ : ∃ X : zIt, X = zu I 128 0 (nI t) := ⟨_, rfl⟩
    have hRf : zMi l s.heap.size D cA yX7_home cX7_home 4 .int 3 70 0 0 [.ref (ad2 128), .int p0, .int p1] (zW s.heap.size D cA ad2 ty I L P) 0 (zW s.heap.size D cA ad2 ty T3 L P) := by
      have z := c_X7_home l s.heap.size D cA ad2 ty I L P hR ni nc ns nt hbd (zREL_rv hR0) p0 p1
      rw [if_neg htn2, if_neg htn2] at z
      rw [eT, et]
      exact z
    have hT0 : T3 128 0 = nI t := by rw [eT, zu_self]
    have hLI2 : zLI (n + 1) ty T3 L P := by rw [eT]; exact zLI_throw hT hR0 hh _
    have hnt : ¬ nI t = 0 := nI_ne0 (by omega) (by omega)
    refine z_topi (y := nI t) hk ?_
    refine lv_istore (lv' := [(5, .int (nI t)), (4, .int (nI (7 * n))), (3, .ref (ad2 160)), (2, .ref (ad2 128)), (1, .ref (ad2 0)), (0, .ref b)]) hx hb dL_law_597 hl (by decide) rfl (fun ls hl => ?_)
    refine lv_aload_n hx hb dL_law_599 rfl (lv_at hl 3 rfl) ?_
    refine lv_aload_n hx hb dL_law_600 rfl (lv_at hl 5 rfl) ?_
    refine lv_iload hx hb dL_law_601 (lv_at hl 1 rfl) ?_
    refine lv_iconst (v := 1) hx hb dL_law_603 (by decide) ?_
    refine lv_iadd hx hb dL_law_604 ?_
    refine z_sld hx hb hX hbl hw.2 (nI_add (7 * n) 1) (by omega) hL ep0 dL_law_605 ?_
    refine lv_aload_n hx hb dL_law_606 rfl (lv_at hl 5 rfl) ?_
    refine lv_iload hx hb dL_law_607 (lv_at hl 1 rfl) ?_
    refine lv_iconst (v := 2) hx hb dL_law_609 (by decide) ?_
    refine lv_iadd hx hb dL_law_610 ?_
    refine z_sld hx hb hX hbl hw.2 (nI_add (7 * n) 2) (by omega) hL ep1 dL_law_611 ?_
    refine z_ci0 (z_runV (As := [.int p0, .int p1]) (rest := []) M hw ht128 zc_L_106 hRf hw.1 rfl rfl ⟨Nat.le_of_ble_eq_true rfl, Nat.le_of_ble_eq_true rfl⟩ ⟨(by show 40 + 13 * (n + 1) + 0 ≤ 601024; omega), (by show 700 + 84 * (n + 1) + 0 ≤ 7293034; omega)⟩ hl.1 (Nat.le_of_ble_eq_true rfl) dL_law_612) hw (fun H locs hw => ?_)
    refine lv_istore (lv' := [(6, .int 0), (5, .int (nI t)), (4, .int (nI (7 * n))), (3, .ref (ad2 160)), (2, .ref (ad2 128)), (1, .ref (ad2 0)), (0, .ref b)]) hx hb dL_law_615 hl (by decide) rfl (fun ls hl => ?_)
    refine lv_aload_n hx hb dL_law_617 rfl (lv_at hl 4 rfl) ?_
    refine z_ci0 (z_runV (As := []) (rest := []) M hw ht128 zc_L_83 (c_X7_thrown l s.heap.size D cA ad2 ty T3 L P hR) hw.1 rfl rfl ⟨Nat.le_of_ble_eq_true rfl, Nat.le_of_ble_eq_true rfl⟩ ⟨(by show 40 + 13 * (n + 1) + 0 ≤ 601024; omega), (by show 700 + 84 * (n + 1) + 0 ≤ 7293034; omega)⟩ hl.1 (Nat.le_of_ble_eq_true rfl) dL_law_618) hw (fun H locs hw => ?_)
    refine z_topi (y := nI t) hT0 ?_
    refine lv_iload hx hb dL_law_621 (lv_at hl 1 rfl) ?_
    refine lv_icmp_eq (tgt := 628) hx hb dL_law_623 (by decide) (fun c1 => ?_) (fun c1 => absurd rfl c1)
    refine lv_iload hx hb dL_law_628 (lv_at hl 1 rfl) ?_
    refine lv_if_ne (tgt := 645) hx hb dL_law_630 (by decide) (fun c2 => ?_) (fun c2 => absurd c2 hnt)
    refine lv_goto (tgt := 1324) hx hb dL_law_645 (by decide) ?_
    exact kk _ _ _ _ _ _ _ _ hLI2 hw (lv_sub hl [2, 3, 4, 5, 6] rfl)
set_option maxHeartbeats 4000000 in
set_option maxRecDepth 100000 in
theorem z_case_trader (hl0 : l.stackTraces = false) (M : zM p s m c cL_law RL 8 s.heap.size D cA) (hN : zNcs s) (hX : va_X b Ln xs s s.heap) (hbl : b < s.heap.size) (hL : Ln ≤ 4000) (hn7 : 7 * n + 7 ≤ Ln) (hn5 : n < 512) (hLI : zLI n ty I L P) (hw : zH s.heap.size D cA s H locs ad ty I L P) (hl : lv_has ls 8 [(4, .int (nI (7 * n))), (3, .ref (ad 160)), (2, .ref (ad 128)), (1, .ref (ad 0)), (0, .ref b)])
    (kk : ∀ (H : Heap) (locs : List Loc) (ls : Array Slot) (ad : Nat → Nat) (ty : zTyp) (I : zIt) (L : zLt) (P : zPt), zLI (n + 1) ty I L P → zH s.heap.size D cA s H locs ad ty I L P → lv_has ls 8 [(4, .int (nI (7 * n))), (3, .ref (ad 160)), (2, .ref (ad 128)), (1, .ref (ad 0)), (0, .ref b)] → W p l e room_1 s m #[Value.ref b] below meth c H locs (40 + 13 * (n + 1)) (700 + 84 * (n + 1)) Q (F0 m 1324 ls [])) :
    W p l e room_1 s m #[Value.ref b] below meth c H locs (40 + 13 * n) (700 + 84 * n) Q (F0 m 648 ls []) := by
  obtain ⟨hx, hb, -⟩ := id M
  obtain ⟨ni, nc, ns, nt, hrs, hT, hR0, hh⟩ := hLI
  obtain ⟨hC, hR, h160, hF⟩ := id hT
  have hbd := zREL_bd hR0
  obtain ⟨hb1, hb2, hb3, hb4⟩ := id hbd
  have hI := zREL_inv hR0
  have ht0 := zc_t0 hC
  have ht128 : ty 128 = some (7, 0) := zr_t hR 128 7 0 (by decide)
  obtain ⟨p0, ep0⟩ : ∃ y : Int32, y = xs (7 * n + 1) := ⟨_, rfl⟩
  obtain ⟨p1, ep1⟩ : ∃ y : Int32, y = xs (7 * n + 2) := ⟨_, rfl⟩
  obtain ⟨p2, ep2⟩ : ∃ y : Int32, y = xs (7 * n + 3) := ⟨_, rfl⟩
  obtain ⟨p3, ep3⟩ : ∃ y : Int32, y = xs (7 * n + 4) := ⟨_, rfl⟩
  obtain ⟨p4, ep4⟩ : ∃ y : Int32, y = xs (7 * n + 5) := ⟨_, rfl⟩
  obtain ⟨p5, ep5⟩ : ∃ y : Int32, y = xs (7 * n + 6) := ⟨_, rfl⟩
  refine lv_aload_n hx hb dL_law_648 rfl (lv_at hl 3 rfl) ?_
  refine lv_aload_n hx hb dL_law_649 rfl (lv_at hl 4 rfl) ?_
  refine lv_iload hx hb dL_law_650 (lv_at hl 0 rfl) ?_
  refine lv_iconst (v := 1) hx hb dL_law_652 (by decide) ?_
  refine lv_iadd hx hb dL_law_653 ?_
  refine z_sld hx hb hX hbl hw.2 (nI_add (7 * n) 1) (by omega) hL ep0 dL_law_654 ?_
  refine lv_aload_n hx hb dL_law_655 rfl (lv_at hl 4 rfl) ?_
  refine lv_iload hx hb dL_law_656 (lv_at hl 0 rfl) ?_
  refine lv_iconst (v := 2) hx hb dL_law_658 (by decide) ?_
  refine lv_iadd hx hb dL_law_659 ?_
  refine z_sld hx hb hX hbl hw.2 (nI_add (7 * n) 2) (by omega) hL ep1 dL_law_660 ?_
  refine lv_aload_n hx hb dL_law_661 rfl (lv_at hl 4 rfl) ?_
  refine lv_iload hx hb dL_law_662 (lv_at hl 0 rfl) ?_
  refine lv_iconst (v := 3) hx hb dL_law_664 (by decide) ?_
  refine lv_iadd hx hb dL_law_665 ?_
  refine z_sld hx hb hX hbl hw.2 (nI_add (7 * n) 3) (by omega) hL ep2 dL_law_666 ?_
  refine lv_aload_n hx hb dL_law_667 rfl (lv_at hl 4 rfl) ?_
  refine lv_iload hx hb dL_law_668 (lv_at hl 0 rfl) ?_
  refine lv_iconst (v := 4) hx hb dL_law_670 (by decide) ?_
  refine lv_iadd hx hb dL_law_671 ?_
  refine z_sld hx hb hX hbl hw.2 (nI_add (7 * n) 4) (by omega) hL ep3 dL_law_672 ?_
  refine lv_aload_n hx hb dL_law_673 rfl (lv_at hl 4 rfl) ?_
  refine lv_iload hx hb dL_law_674 (lv_at hl 0 rfl) ?_
  refine lv_iconst (v := 5) hx hb dL_law_676 (by decide) ?_
  refine lv_iadd hx hb dL_law_677 ?_
  refine z_sld hx hb hX hbl hw.2 (nI_add (7 * n) 5) (by omega) hL ep4 dL_law_678 ?_
  refine lv_aload_n hx hb dL_law_679 rfl (lv_at hl 4 rfl) ?_
  refine lv_iload hx hb dL_law_680 (lv_at hl 0 rfl) ?_
  refine lv_bipush (v := 6) hx hb dL_law_682 (by decide) ?_
  refine lv_iadd hx hb dL_law_684 ?_
  refine z_sld hx hb hX hbl hw.2 (nI_add (7 * n) 6) (by omega) hL ep5 dL_law_685 ?_
  refine lv_aload_n hx hb dL_law_686 rfl (lv_at hl 1 rfl) ?_
  obtain ⟨oc, eo⟩ : ∃ o : Nat, o = (zsq (zo1 p0 ni) (zsq (zo1 p1 ni) (zsq (zoU p0 p1) (zsq (zo2 p2 1 5000) (zsq (zo2 p3 0 9999) (zsq (zo2 p4 0 9999) (zsq (zo2 p5 0 1000000) (zo3 (nI nt) 12)))))))) := ⟨_, rfl⟩
  obtain ⟨t, et⟩ : ∃ o : Nat, o = (if zlt p0 ni then (if zlt p1 ni then (if p0 = p1 then 2 else if zin p2 1 5000 then (if zin p3 0 9999 then (if zin p4 0 9999 then (if zin p5 0 1000000 then (if nI nt = 12 then 3 else 0) else 2) else 2) else 2) else 2) else 1) else 1) := ⟨_, rfl⟩
  obtain ⟨r0, er⟩ : ∃ r : Int32, r = (nI nt) := ⟨_, rfl⟩
  have hz : (oc = 0 ∧ t = 0 ∧ (zlt p0 ni) ∧ (zlt p1 ni) ∧ (¬ p0 = p1) ∧ (zin p2 1 5000) ∧ (zin p3 0 9999) ∧ (zin p4 0 9999) ∧ (zin p5 0 1000000) ∧ (nt < 12)) ∨ (oc = 1 ∧ t = 1) ∨ (oc = 2 ∧ t = 2) ∨ (oc = 3 ∧ t = 3) := by
    rw [eo, et]
    exact zt_trader hbd.2.2.2 p0 p1 p2 p3 p4 p5
  have hz2 : (oc = 0 ∧ (zlt p0 ni) ∧ (zlt p1 ni) ∧ (¬ p0 = p1) ∧ (zin p2 1 5000) ∧ (zin p3 0 9999) ∧ (zin p4 0 9999) ∧ (zin p5 0 1000000) ∧ (nt < 12)) ∨ (¬ oc = 0 ∧ ¬ t = 0 ∧ t ≤ 3 ∧ ((if oc = 1 then 1 else (if oc = 2 then 2 else (if oc = 3 then 3 else 0))) : Int32) = nI t) := by
    rcases hz with ⟨q, -, cs⟩ | ⟨q, qt⟩ | ⟨q, qt⟩ | ⟨q, qt⟩
    · exact Or.inl ⟨q, cs⟩
    · exact Or.inr ⟨by rw [q]; decide, by rw [qt]; decide, by rw [qt]; decide, by rw [q, qt]; rfl⟩
    · exact Or.inr ⟨by rw [q]; decide, by rw [qt]; decide, by rw [qt]; decide, by rw [q, qt]; rfl⟩
    · exact Or.inr ⟨by rw [q]; decide, by rw [qt]; decide, by rw [qt]; decide, by rw [q, qt]; rfl⟩
  have hoc : oc = 0 ∨ oc = 1 ∨ oc = 2 ∨ oc = 3 := by
    rcases hz with ⟨q, -⟩ | ⟨q, -⟩ | ⟨q, -⟩ | ⟨q, -⟩
    · exact Or.inl q
    · exact Or.inr (Or.inl q)
    · exact Or.inr (Or.inr (Or.inl q))
    · exact Or.inr (Or.inr (Or.inr (q)))
  obtain ⟨I2, e1⟩ : ∃ X : zIt, X = (zu (zu (zu (zu (zu (zu (zu (zu (zu (zu (zu (zu (zu (zu (zs (zs (zs I (64 + nt) (fun _ => 0)) (80 + nt) (fun _ => 0)) (96 + nt) (fun _ => 0)) (80 + nt) 1 (-1)) (80 + nt) 2 (-1)) (80 + nt) 3 (-1)) (64 + nt) 8 0) (64 + nt) 9 0) (64 + nt) 10 0) (64 + nt) 0 (nI p0.toNatClampNeg)) (64 + nt) 1 (nI p1.toNatClampNeg)) (64 + nt) 2 p2) (64 + nt) 3 p3) (64 + nt) 4 p4) (64 + nt) 5 p5) 0 6 (nI (nt + 1))) 0 7 1) := ⟨_, rfl⟩
  obtain ⟨L2, e2⟩ : ∃ X : zLt, X = (zu (zs (zs (zs L (64 + nt) (fun _ => 0)) (80 + nt) (fun _ => 0)) (96 + nt) (fun _ => 0)) (64 + nt) 7 0) := ⟨_, rfl⟩
  obtain ⟨ty2, e3⟩ : ∃ X : zTyp, X = (zs (zs (zs ty (64 + nt) (some (4, 0))) (80 + nt) (some (5, 0))) (96 + nt) (some (8, 9))) := ⟨_, rfl⟩
  obtain ⟨P2, e4⟩ : ∃ X : zPt, X = (zu (zu (zu (zs (zs (zs P (64 + nt) (fun _ => none)) (80 + nt) (fun _ => none)) (96 + nt) (fun _ => none)) (80 + nt) 0 (some (96 + nt))) (64 + nt) 6 (some (80 + nt))) 5 nt (some (64 + nt))) := ⟨_, rfl⟩
  have hM : zXi l s.heap.size D cA yX6_trader cX6_trader 7 .int 7 112 13 84 [.ref (ad 0), .int p0, .int p1, .int p2, .int p3, .int p4, .int p5] (zW s.heap.size D cA ad ty I L P) oc r0 (fun H => ∃ ad3, (∀ κ t, ty κ = some t → ad3 κ = ad κ) ∧ zW s.heap.size D cA ad3 ty2 I2 L2 P2 H) := by
    rw [eo, er, e1, e2, e3, e4]
    exact c_X6_trader l s.heap.size D cA ad ty I L P hl0 ni nc ns nt hC hI (fun z => (hF.2.2.2 nt (Nat.le_refl _) z).1) (fun z => (hF.2.2.2 nt (Nat.le_refl _) z).2.1) (fun z => (hF.2.2.2 nt (Nat.le_refl _) z).2.2) p0 p1 p2 p3 p4 p5
  have hh0 := c_L_trader l s.heap.size D cA ad ty I L P 0 ht0 h160 p0 p1 p2 p3 p4 p5 hM hoc (fun H z => z) (by rw [e3]; rw [zs_ne _ _ (by omega), zs_ne _ _ (by omega), zs_ne _ _ (by omega)]; exact h160)
  refine z_ci (z_runH (As := [.ref (ad 0), .int p0, .int p1, .int p2, .int p3, .int p4, .int p5, .ref (ad 160)]) (rest := []) M hN hw.2 zh_trader hh0 hw.1 rfl rfl ⟨Nat.le_of_ble_eq_true rfl, Nat.le_of_ble_eq_true rfl⟩ ⟨(by show 40 + 13 * n + 13 ≤ 601024; omega), (by show 700 + 84 * n + 84 ≤ 7293034; omega)⟩ hl.1 (Nat.le_of_ble_eq_true rfl) dL_law_687) hw.2 (fun H locs hw1 hS => ?_)
  obtain ⟨ad2, hag, hw1⟩ := hw1
  refine W.widen (k := 40 + 13 * (n + 1)) (n := 700 + 84 * (n + 1)) (by omega) (by omega) ?_
  rw [← hag _ _ ht0, ← hag _ _ ht128, ← hag _ _ h160] at hl
  rcases hz2 with ⟨hoc0, h1, h2, h3, h4, h5, h6, h7, h8⟩ | ⟨hne, htn, ht3, hk⟩
  · skip
    rw [if_pos hoc0] at hw1
    obtain ⟨K, eK⟩ : ∃ X : zLt, X = zu L2 160 0 r0.toInt64 := ⟨_, rfl⟩
    rw [← eK] at hw1
    have hw : zH s.heap.size D cA s H locs ad2 ty2 I2 K P2 := ⟨hw1, hS⟩
    rw [er] at eK
    have z3 := s3_trader hT hR0 hh hn5 (eo.symm.trans hoc0) h1 h2 h3 h4 h5 h6 h7 h8 e1 e2 e3 e4 eK
    obtain ⟨ht, hV2, hT0, hK0, hRB, hLI2, hR2⟩ := z3
    obtain ⟨T3, eT⟩ : ∃ X : zIt, X = (zu (zu (zu (zu (zu (zu (zu (zu I2 128 0 0) 150 nt p0) 151 nt p1) 152 nt p2) 153 nt p3) 154 nt p4) 155 nt p5) 128 21 (nI (nt + 1))) := ⟨_, rfl⟩
    obtain ⟨K3, eK3⟩ : ∃ X : zLt, X = K := ⟨_, rfl⟩
    obtain ⟨bv, ebv⟩ : ∃ X : Int32, X = nI nt := ⟨_, rfl⟩
    have hRf : zMi l s.heap.size D cA yX7_trader cX7_trader 9 .int 2 43 0 0 [.ref (ad2 128), .int p0, .int p1, .int p2, .int p3, .int p4, .int p5] (zW s.heap.size D cA ad2 ty2 I2 K P2) bv (zW s.heap.size D cA ad2 ty2 T3 K3 P2) := by
      have z := c_X7_trader l s.heap.size D cA ad2 ty2 I2 K P2 hR2 ni nc ns nt hbd hV2 p0 p1 p2 p3 p4 p5
      rw [if_pos ht, if_pos ht] at z
      rw [eT, eK3, ebv]
      exact z
    have hT0 : T3 128 0 = 0 := by rw [eT]; exact hT0
    have hKb : K3 160 0 = bv.toInt64 := by rw [eK3, ebv]; exact hK0.trans hRB
    have hLI2 : zLI (n + 1) ty2 T3 K3 P2 := by rw [eT, eK3]; exact hLI2
    have hty128 : ty2 128 = some (7, 0) := zr_t hR2 128 7 0 (by decide)
    have hty160 : ty2 160 = some (9, 1) := by obtain ⟨_, _, _, _, _, hq, -⟩ := hLI2; exact hq.2.2.1
    refine z_topi (y := 0) (by rw [hoc0]; rfl) ?_
    refine lv_istore (lv' := [(5, .int 0), (4, .int (nI (7 * n))), (3, .ref (ad2 160)), (2, .ref (ad2 128)), (1, .ref (ad2 0)), (0, .ref b)]) hx hb dL_law_690 hl (by decide) rfl (fun ls hl => ?_)
    refine lv_aload_n hx hb dL_law_692 rfl (lv_at hl 3 rfl) ?_
    refine lv_aload_n hx hb dL_law_693 rfl (lv_at hl 5 rfl) ?_
    refine lv_iload hx hb dL_law_694 (lv_at hl 1 rfl) ?_
    refine lv_iconst (v := 1) hx hb dL_law_696 (by decide) ?_
    refine lv_iadd hx hb dL_law_697 ?_
    refine z_sld hx hb hX hbl hw.2 (nI_add (7 * n) 1) (by omega) hL ep0 dL_law_698 ?_
    refine lv_aload_n hx hb dL_law_699 rfl (lv_at hl 5 rfl) ?_
    refine lv_iload hx hb dL_law_700 (lv_at hl 1 rfl) ?_
    refine lv_iconst (v := 2) hx hb dL_law_702 (by decide) ?_
    refine lv_iadd hx hb dL_law_703 ?_
    refine z_sld hx hb hX hbl hw.2 (nI_add (7 * n) 2) (by omega) hL ep1 dL_law_704 ?_
    refine lv_aload_n hx hb dL_law_705 rfl (lv_at hl 5 rfl) ?_
    refine lv_iload hx hb dL_law_706 (lv_at hl 1 rfl) ?_
    refine lv_iconst (v := 3) hx hb dL_law_708 (by decide) ?_
    refine lv_iadd hx hb dL_law_709 ?_
    refine z_sld hx hb hX hbl hw.2 (nI_add (7 * n) 3) (by omega) hL ep2 dL_law_710 ?_
    refine lv_aload_n hx hb dL_law_711 rfl (lv_at hl 5 rfl) ?_
    refine lv_iload hx hb dL_law_712 (lv_at hl 1 rfl) ?_
    refine lv_iconst (v := 4) hx hb dL_law_714 (by decide) ?_
    refine lv_iadd hx hb dL_law_715 ?_
    refine z_sld hx hb hX hbl hw.2 (nI_add (7 * n) 4) (by omega) hL ep3 dL_law_716 ?_
    refine lv_aload_n hx hb dL_law_717 rfl (lv_at hl 5 rfl) ?_
    refine lv_iload hx hb dL_law_718 (lv_at hl 1 rfl) ?_
    refine lv_iconst (v := 5) hx hb dL_law_720 (by decide) ?_
    refine lv_iadd hx hb dL_law_721 ?_
    refine z_sld hx hb hX hbl hw.2 (nI_add (7 * n) 5) (by omega) hL ep4 dL_law_722 ?_
    refine lv_aload_n hx hb dL_law_723 rfl (lv_at hl 5 rfl) ?_
    refine lv_iload hx hb dL_law_724 (lv_at hl 1 rfl) ?_
    refine lv_bipush (v := 6) hx hb dL_law_726 (by decide) ?_
    refine lv_iadd hx hb dL_law_728 ?_
    refine z_sld hx hb hX hbl hw.2 (nI_add (7 * n) 6) (by omega) hL ep5 dL_law_729 ?_
    refine z_ci0 (z_runV (As := [.int p0, .int p1, .int p2, .int p3, .int p4, .int p5]) (rest := []) M hw hty128 zc_L_110 hRf hw.1 rfl rfl ⟨Nat.le_of_ble_eq_true rfl, Nat.le_of_ble_eq_true rfl⟩ ⟨(by show 40 + 13 * (n + 1) + 0 ≤ 601024; omega), (by show 700 + 84 * (n + 1) + 0 ≤ 7293034; omega)⟩ hl.1 (Nat.le_of_ble_eq_true rfl) dL_law_730) hw (fun H locs hw => ?_)
    refine lv_istore (lv' := [(6, .int bv), (5, .int 0), (4, .int (nI (7 * n))), (3, .ref (ad2 160)), (2, .ref (ad2 128)), (1, .ref (ad2 0)), (0, .ref b)]) hx hb dL_law_733 hl (by decide) rfl (fun ls hl => ?_)
    refine lv_aload_n hx hb dL_law_735 rfl (lv_at hl 4 rfl) ?_
    refine z_ci0 (z_runV (As := []) (rest := []) M hw hty128 zc_L_83 (c_X7_thrown l s.heap.size D cA ad2 ty2 T3 K3 P2 hR2) hw.1 rfl rfl ⟨Nat.le_of_ble_eq_true rfl, Nat.le_of_ble_eq_true rfl⟩ ⟨(by show 40 + 13 * (n + 1) + 0 ≤ 601024; omega), (by show 700 + 84 * (n + 1) + 0 ≤ 7293034; omega)⟩ hl.1 (Nat.le_of_ble_eq_true rfl) dL_law_736) hw (fun H locs hw => ?_)
    refine z_topi (y := 0) hT0 ?_
    refine lv_iload hx hb dL_law_739 (lv_at hl 1 rfl) ?_
    refine lv_icmp_eq (tgt := 746) hx hb dL_law_741 (by decide) (fun c1 => ?_) (fun c1 => absurd rfl c1)
    refine lv_iload hx hb dL_law_746 (lv_at hl 1 rfl) ?_
    refine lv_if_ne (tgt := 763) hx hb dL_law_748 (by decide) (fun c2 => absurd rfl c2) (fun c2 => ?_)
    refine lv_aload_n hx hb dL_law_751 rfl (lv_at hl 3 rfl) ?_
    refine lv_iconst (v := 0) hx hb dL_law_752 (by decide) ?_
    refine z_lald M hw hty160 (z_ix (i := 0) (k := 0) rfl ⟨by omega, by omega⟩).1 dL_law_753 ?_
    refine z_topl (y := bv.toInt64) (show K3 160 (0 : Int32).toNatClampNeg = _ from hKb) ?_
    refine lv_iload hx hb dL_law_754 (lv_at hl 0 rfl) ?_
    refine lv_i2l hx hb dL_law_756 rfl ?_
    refine W.lcmp hx hb dL_law_757 ?_
    refine lv_if_eq (tgt := 763) hx hb dL_law_758 (by decide) (fun c3 => ?_) (fun c3 => absurd ((lg_cmp_eq _ _).mpr rfl) c3)
    refine lv_goto (tgt := 1324) hx hb dL_law_763 (by decide) ?_
    exact kk _ _ _ _ _ _ _ _ hLI2 hw (lv_sub hl [2, 3, 4, 5, 6] rfl)
  · skip
    rw [if_neg hne] at hw1
    have hw : zH s.heap.size D cA s H locs ad2 ty I L P := ⟨hw1, hS⟩
    have htn2 : ¬ (if zlt p0 ni then (if zlt p1 ni then (if p0 = p1 then 2 else if zin p2 1 5000 then (if zin p3 0 9999 then (if zin p4 0 9999 then (if zin p5 0 1000000 then (if nI nt = 12 then 3 else 0) else 2) else 2) else 2) else 2) else 1) else 1) = 0 := by rw [← et]; exact htn
    obtain ⟨T3, eT⟩ : ∃ X : zIt, X = zu I 128 0 (nI t) := ⟨_, rfl⟩
    have hRf : zMi l s.heap.size D cA yX7_trader cX7_trader 9 .int 2 43 0 0 [.ref (ad2 128), .int p0, .int p1, .int p2, .int p3, .int p4, .int p5] (zW s.heap.size D cA ad2 ty I L P) 0 (zW s.heap.size D cA ad2 ty T3 L P) := by
      have z := c_X7_trader l s.heap.size D cA ad2 ty I L P hR ni nc ns nt hbd (zREL_rv hR0) p0 p1 p2 p3 p4 p5
      rw [if_neg htn2, if_neg htn2] at z
      rw [eT, et]
      exact z
    have hT0 : T3 128 0 = nI t := by rw [eT, zu_self]
    have hLI2 : zLI (n + 1) ty T3 L P := by rw [eT]; exact zLI_throw hT hR0 hh _
    have hnt : ¬ nI t = 0 := nI_ne0 (by omega) (by omega)
    refine z_topi (y := nI t) hk ?_
    refine lv_istore (lv' := [(5, .int (nI t)), (4, .int (nI (7 * n))), (3, .ref (ad2 160)), (2, .ref (ad2 128)), (1, .ref (ad2 0)), (0, .ref b)]) hx hb dL_law_690 hl (by decide) rfl (fun ls hl => ?_)
    refine lv_aload_n hx hb dL_law_692 rfl (lv_at hl 3 rfl) ?_
    refine lv_aload_n hx hb dL_law_693 rfl (lv_at hl 5 rfl) ?_
    refine lv_iload hx hb dL_law_694 (lv_at hl 1 rfl) ?_
    refine lv_iconst (v := 1) hx hb dL_law_696 (by decide) ?_
    refine lv_iadd hx hb dL_law_697 ?_
    refine z_sld hx hb hX hbl hw.2 (nI_add (7 * n) 1) (by omega) hL ep0 dL_law_698 ?_
    refine lv_aload_n hx hb dL_law_699 rfl (lv_at hl 5 rfl) ?_
    refine lv_iload hx hb dL_law_700 (lv_at hl 1 rfl) ?_
    refine lv_iconst (v := 2) hx hb dL_law_702 (by decide) ?_
    refine lv_iadd hx hb dL_law_703 ?_
    refine z_sld hx hb hX hbl hw.2 (nI_add (7 * n) 2) (by omega) hL ep1 dL_law_704 ?_
    refine lv_aload_n hx hb dL_law_705 rfl (lv_at hl 5 rfl) ?_
    refine lv_iload hx hb dL_law_706 (lv_at hl 1 rfl) ?_
    refine lv_iconst (v := 3) hx hb dL_law_708 (by decide) ?_
    refine lv_iadd hx hb dL_law_709 ?_
    refine z_sld hx hb hX hbl hw.2 (nI_add (7 * n) 3) (by omega) hL ep2 dL_law_710 ?_
    refine lv_aload_n hx hb dL_law_711 rfl (lv_at hl 5 rfl) ?_
    refine lv_iload hx hb dL_law_712 (lv_at hl 1 rfl) ?_
    refine lv_iconst (v := 4) hx hb dL_law_714 (by decide) ?_
    refine lv_iadd hx hb dL_law_715 ?_
    refine z_sld hx hb hX hbl hw.2 (nI_add (7 * n) 4) (by omega) hL ep3 dL_law_716 ?_
    refine lv_aload_n hx hb dL_law_717 rfl (lv_at hl 5 rfl) ?_
    refine lv_iload hx hb dL_law_718 (lv_at hl 1 rfl) ?_
    refine lv_iconst (v := 5) hx hb dL_law_720 (by decide) ?_
    refine lv_iadd hx hb dL_law_721 ?_
    refine z_sld hx hb hX hbl hw.2 (nI_add (7 * n) 5) (by omega) hL ep4 dL_law_722 ?_
    refine lv_aload_n hx hb dL_law_723 rfl (lv_at hl 5 rfl) ?_
    refine lv_iload hx hb dL_law_724 (lv_at hl 1 rfl) ?_
    refine lv_bipush (v := 6) hx hb dL_law_726 (by decide) ?_
    refine lv_iadd hx hb dL_law_728 ?_
    refine z_sld hx hb hX hbl hw.2 (nI_add (7 * n) 6) (by omega) hL ep5 dL_law_729 ?_
    refine z_ci0 (z_runV (As := [.int p0, .int p1, .int p2, .int p3, .int p4, .int p5]) (rest := []) M hw ht128 zc_L_110 hRf hw.1 rfl rfl ⟨Nat.le_of_ble_eq_true rfl, Nat.le_of_ble_eq_true rfl⟩ ⟨(by show 40 + 13 * (n + 1) + 0 ≤ 601024; omega), (by show 700 + 84 * (n + 1) + 0 ≤ 7293034; omega)⟩ hl.1 (Nat.le_of_ble_eq_true rfl) dL_law_730) hw (fun H locs hw => ?_)
    refine lv_istore (lv' := [(6, .int 0), (5, .int (nI t)), (4, .int (nI (7 * n))), (3, .ref (ad2 160)), (2, .ref (ad2 128)), (1, .ref (ad2 0)), (0, .ref b)]) hx hb dL_law_733 hl (by decide) rfl (fun ls hl => ?_)
    refine lv_aload_n hx hb dL_law_735 rfl (lv_at hl 4 rfl) ?_
    refine z_ci0 (z_runV (As := []) (rest := []) M hw ht128 zc_L_83 (c_X7_thrown l s.heap.size D cA ad2 ty T3 L P hR) hw.1 rfl rfl ⟨Nat.le_of_ble_eq_true rfl, Nat.le_of_ble_eq_true rfl⟩ ⟨(by show 40 + 13 * (n + 1) + 0 ≤ 601024; omega), (by show 700 + 84 * (n + 1) + 0 ≤ 7293034; omega)⟩ hl.1 (Nat.le_of_ble_eq_true rfl) dL_law_736) hw (fun H locs hw => ?_)
    refine z_topi (y := nI t) hT0 ?_
    refine lv_iload hx hb dL_law_739 (lv_at hl 1 rfl) ?_
    refine lv_icmp_eq (tgt := 746) hx hb dL_law_741 (by decide) (fun c1 => ?_) (fun c1 => absurd rfl c1)
    refine lv_iload hx hb dL_law_746 (lv_at hl 1 rfl) ?_
    refine lv_if_ne (tgt := 763) hx hb dL_law_748 (by decide) (fun c2 => ?_) (fun c2 => absurd c2 hnt)
    refine lv_goto (tgt := 1324) hx hb dL_law_763 (by decide) ?_
    exact kk _ _ _ _ _ _ _ _ hLI2 hw (lv_sub hl [2, 3, 4, 5, 6] rfl)
end ZLW
