/-! THE LAW'S CASES (laid by m_law3.py) -/
section ZLW
variable {p : Program} {l : Launch} {e : Env} {s : State} {m : MethodId} {below : List Frame} {meth : Method} {c : Code} {H : Heap} {locs : List Loc} {Q : State → Prop} {b Ln : Nat} {xs : Nat → Int32} {D : va_G} {cA : Nat → ClassId} {ad : Nat → Nat} {ty : zTyp} {I : zIt} {L : zLt} {P : zPt} {ls : Array Slot} {n : Nat}
set_option maxHeartbeats 4000000 in
set_option maxRecDepth 100000 in
theorem z_case_way (hl0 : l.stackTraces = false) (M : zM p s m c cL_law RL 8 s.heap.size D cA) (hN : zNcs s) (hX : va_X b Ln xs s s.heap) (hbl : b < s.heap.size) (hL : Ln ≤ 4000) (hn7 : 7 * n + 7 ≤ Ln) (hn5 : n < 512) (hLI : zLI n ty I L P) (hw : zH s.heap.size D cA s H locs ad ty I L P) (hl : lv_has ls 8 [(4, .int (nI (7 * n))), (3, .ref (ad 160)), (2, .ref (ad 128)), (1, .ref (ad 0)), (0, .ref b)])
    (kk : ∀ (H : Heap) (locs : List Loc) (ls : Array Slot) (ad : Nat → Nat) (ty : zTyp) (I : zIt) (L : zLt) (P : zPt), zLI (n + 1) ty I L P → zH s.heap.size D cA s H locs ad ty I L P → lv_has ls 8 [(4, .int (nI (7 * n))), (3, .ref (ad 160)), (2, .ref (ad 128)), (1, .ref (ad 0)), (0, .ref b)] → W p l e room_1 s m #[Value.ref b] below meth c H locs (40 + 13 * (n + 1)) (700 + 84 * (n + 1)) Q (F0 m 1324 ls [])) :
    W p l e room_1 s m #[Value.ref b] below meth c H locs (40 + 13 * n) (700 + 84 * n) Q (F0 m 1009 ls []) := by
  obtain ⟨hx, hb, -⟩ := id M
  obtain ⟨ni, nc, ns, nt, hrs, hT, hR0, hh⟩ := hLI
  obtain ⟨hC, hR, h160, hF⟩ := id hT
  have hbd := zREL_bd hR0
  obtain ⟨hb1, hb2, hb3, hb4⟩ := id hbd
  have hI := zREL_inv hR0
  have ht0 := zc_t0 hC
  have ht128 : ty 128 = some (7, 0) := zr_t hR 128 7 0 (by decide)
  obtain ⟨p0, ep0⟩ : ∃ y : Int32, y = xs (7 * n + 1) := ⟨_, rfl⟩
  obtain ⟨p1, ep1⟩ : ∃ y : Int32, y = xs (7 * n + 2) := ⟨_, rfl⟩
  refine lv_aload_n hx hb dL_law_1009 rfl (lv_at hl 3 rfl) ?_
  refine lv_aload_n hx hb dL_law_1010 rfl (lv_at hl 4 rfl) ?_
  refine lv_iload hx hb dL_law_1011 (lv_at hl 0 rfl) ?_
  refine lv_iconst (v := 1) hx hb dL_law_1013 (by decide) ?_
  refine lv_iadd hx hb dL_law_1014 ?_
  refine z_sld hx hb hX hbl hw.2 (nI_add (7 * n) 1) (by omega) hL ep0 dL_law_1015 ?_
  refine lv_aload_n hx hb dL_law_1016 rfl (lv_at hl 4 rfl) ?_
  refine lv_iload hx hb dL_law_1017 (lv_at hl 0 rfl) ?_
  refine lv_iconst (v := 2) hx hb dL_law_1019 (by decide) ?_
  refine lv_iadd hx hb dL_law_1020 ?_
  refine z_sld hx hb hX hbl hw.2 (nI_add (7 * n) 2) (by omega) hL ep1 dL_law_1021 ?_
  refine lv_aload_n hx hb dL_law_1022 rfl (lv_at hl 1 rfl) ?_
  obtain ⟨oc, eo⟩ : ∃ o : Nat, o = (zsq (zo1 p0 nt) (if p1 < 0 then 1 else 0)) := ⟨_, rfl⟩
  obtain ⟨t, et⟩ : ∃ o : Nat, o = (if zlt p0 nt then (if p1 < 0 then 1 else 0) else 1) := ⟨_, rfl⟩
  obtain ⟨r0, er⟩ : ∃ r : Int32, r = (if p1 < (zStale nc nt (I, L)).1 (80 + p0.toNatClampNeg) 1 then (zStale nc nt (I, L)).1 (96 + p0.toNatClampNeg) p1.toNatClampNeg else -1) := ⟨_, rfl⟩
  have hz : (oc = 0 ∧ t = 0 ∧ (zlt p0 nt) ∧ (¬ p1 < 0)) ∨ (oc = 1 ∧ t = 1) := by
    rw [eo, et]
    exact zt_way p0 p1
  have hz2 : (oc = 0 ∧ (zlt p0 nt) ∧ (¬ p1 < 0)) ∨ (¬ oc = 0 ∧ ¬ t = 0 ∧ t ≤ 3 ∧ ((if oc = 1 then 1 else 0) : Int32) = nI t) := by
    rcases hz with ⟨q, -, cs⟩ | ⟨q, qt⟩
    · exact Or.inl ⟨q, cs⟩
    · exact Or.inr ⟨by rw [q]; decide, by rw [qt]; decide, by rw [qt]; decide, by rw [q, qt]; rfl⟩
  have hoc : oc = 0 ∨ oc = 1 := by
    rcases hz with ⟨q, -⟩ | ⟨q, -⟩
    · exact Or.inl q
    · exact Or.inr (q)
  obtain ⟨I2, e1⟩ : ∃ X : zIt, X = (zStale nc nt (I, L)).1 := ⟨_, rfl⟩
  obtain ⟨L2, e2⟩ : ∃ X : zLt, X = (zStale nc nt (I, L)).2 := ⟨_, rfl⟩
  have hM : zXi l s.heap.size D cA yX6_way cX6_way 3 .int 7 117 2 12 [.ref (ad 0), .int p0, .int p1] (zW s.heap.size D cA ad ty I L P) oc r0 (zW s.heap.size D cA ad ty I2 L2 P) := by
    rw [eo, er, e1, e2]
    exact c_X6_way l s.heap.size D cA ad ty I L P hl0 ni nc ns nt hC hI (zFin_ok nc) (zREL_wl hR0) p0 p1
  have hh0 := c_L_way l s.heap.size D cA ad ty I L P 0 ht0 h160 p0 p1 hM hoc (fun H z => ⟨ad, fun _ _ _ => rfl, z⟩) h160
  refine z_ci (z_runH (As := [.ref (ad 0), .int p0, .int p1, .ref (ad 160)]) (rest := []) M hN hw.2 zh_way hh0 hw.1 rfl rfl ⟨Nat.le_of_ble_eq_true rfl, Nat.le_of_ble_eq_true rfl⟩ ⟨(by show 40 + 13 * n + 2 ≤ 601024; omega), (by show 700 + 84 * n + 12 ≤ 7293034; omega)⟩ hl.1 (Nat.le_of_ble_eq_true rfl) dL_law_1023) hw.2 (fun H locs hw1 hS => ?_)
  obtain ⟨ad2, hag, hw1⟩ := hw1
  refine W.widen (k := 40 + 13 * (n + 1)) (n := 700 + 84 * (n + 1)) (by omega) (by omega) ?_
  rw [← hag _ _ ht0, ← hag _ _ ht128, ← hag _ _ h160] at hl
  rcases hz2 with ⟨hoc0, h1, h2⟩ | ⟨hne, htn, ht3, hk⟩
  · skip
    rw [if_pos hoc0] at hw1
    obtain ⟨K, eK⟩ : ∃ X : zLt, X = zu L2 160 0 r0.toInt64 := ⟨_, rfl⟩
    rw [← eK] at hw1
    have hw : zH s.heap.size D cA s H locs ad2 ty I2 K P := ⟨hw1, hS⟩
    rw [er] at eK
    have z3 := s3_way hT hR0 hh hn5 (eo.symm.trans hoc0) h1 h2 e1 e2  eK
    obtain ⟨ht, hV2, hT0, hK0, hRB, hLI2, hR2⟩ := z3
    obtain ⟨T3, eT⟩ : ∃ X : zIt, X = (zs (zu I2 128 0 0) 158 (zGoes (zu I2 128 0 0) nc)) := ⟨_, rfl⟩
    obtain ⟨K3, eK3⟩ : ∃ X : zLt, X = (zs K 157 (zFar (zu I2 128 0 0) (K 157) ni nc (I2 151 p0.toNatClampNeg))) := ⟨_, rfl⟩
    obtain ⟨bv, ebv⟩ : ∃ X : Int32, X = zoi (zRw (zs (zu I2 128 0 0) 158 (zGoes (zu I2 128 0 0) nc)) (zGoes (zu I2 128 0 0) nc) (zFar (zu I2 128 0 0) (K 157) ni nc (I2 151 p0.toNatClampNeg)) nc (I2 150 p0.toNatClampNeg).toNatClampNeg p1.toNatClampNeg).2 := ⟨_, rfl⟩
    have hRf : zMi l s.heap.size D cA yX7_way cX7_way 6 .int 2 50 0 0 [.ref (ad2 128), .int p0, .int p1] (zW s.heap.size D cA ad2 ty I2 K P) bv (zW s.heap.size D cA ad2 ty T3 K3 P) := by
      have z := c_X7_way l s.heap.size D cA ad2 ty I2 K P hR2 ni nc ns nt hbd hV2 p0 p1
      rw [if_pos ht, if_pos ht, if_pos ht] at z
      rw [eT, eK3, ebv]
      exact z
    have hT0 : T3 128 0 = 0 := by rw [eT]; exact hT0
    have hKb : K3 160 0 = bv.toInt64 := by rw [eK3, ebv]; exact hK0.trans hRB
    have hLI2 : zLI (n + 1) ty T3 K3 P := by rw [eT, eK3]; exact hLI2
    have hty128 : ty 128 = some (7, 0) := zr_t hR2 128 7 0 (by decide)
    have hty160 : ty 160 = some (9, 1) := by obtain ⟨_, _, _, _, _, hq, -⟩ := hLI2; exact hq.2.2.1
    refine z_topi (y := 0) (by rw [hoc0]; rfl) ?_
    refine lv_istore (lv' := [(5, .int 0), (4, .int (nI (7 * n))), (3, .ref (ad2 160)), (2, .ref (ad2 128)), (1, .ref (ad2 0)), (0, .ref b)]) hx hb dL_law_1026 hl (by decide) rfl (fun ls hl => ?_)
    refine lv_aload_n hx hb dL_law_1028 rfl (lv_at hl 3 rfl) ?_
    refine lv_aload_n hx hb dL_law_1029 rfl (lv_at hl 5 rfl) ?_
    refine lv_iload hx hb dL_law_1030 (lv_at hl 1 rfl) ?_
    refine lv_iconst (v := 1) hx hb dL_law_1032 (by decide) ?_
    refine lv_iadd hx hb dL_law_1033 ?_
    refine z_sld hx hb hX hbl hw.2 (nI_add (7 * n) 1) (by omega) hL ep0 dL_law_1034 ?_
    refine lv_aload_n hx hb dL_law_1035 rfl (lv_at hl 5 rfl) ?_
    refine lv_iload hx hb dL_law_1036 (lv_at hl 1 rfl) ?_
    refine lv_iconst (v := 2) hx hb dL_law_1038 (by decide) ?_
    refine lv_iadd hx hb dL_law_1039 ?_
    refine z_sld hx hb hX hbl hw.2 (nI_add (7 * n) 2) (by omega) hL ep1 dL_law_1040 ?_
    refine z_ci0 (z_runV (As := [.int p0, .int p1]) (rest := []) M hw hty128 zc_L_126 hRf hw.1 rfl rfl ⟨Nat.le_of_ble_eq_true rfl, Nat.le_of_ble_eq_true rfl⟩ ⟨(by show 40 + 13 * (n + 1) + 0 ≤ 601024; omega), (by show 700 + 84 * (n + 1) + 0 ≤ 7293034; omega)⟩ hl.1 (Nat.le_of_ble_eq_true rfl) dL_law_1041) hw (fun H locs hw => ?_)
    refine lv_istore (lv' := [(6, .int bv), (5, .int 0), (4, .int (nI (7 * n))), (3, .ref (ad2 160)), (2, .ref (ad2 128)), (1, .ref (ad2 0)), (0, .ref b)]) hx hb dL_law_1044 hl (by decide) rfl (fun ls hl => ?_)
    refine lv_aload_n hx hb dL_law_1046 rfl (lv_at hl 4 rfl) ?_
    refine z_ci0 (z_runV (As := []) (rest := []) M hw hty128 zc_L_83 (c_X7_thrown l s.heap.size D cA ad2 ty T3 K3 P hR2) hw.1 rfl rfl ⟨Nat.le_of_ble_eq_true rfl, Nat.le_of_ble_eq_true rfl⟩ ⟨(by show 40 + 13 * (n + 1) + 0 ≤ 601024; omega), (by show 700 + 84 * (n + 1) + 0 ≤ 7293034; omega)⟩ hl.1 (Nat.le_of_ble_eq_true rfl) dL_law_1047) hw (fun H locs hw => ?_)
    refine z_topi (y := 0) hT0 ?_
    refine lv_iload hx hb dL_law_1050 (lv_at hl 1 rfl) ?_
    refine lv_icmp_eq (tgt := 1057) hx hb dL_law_1052 (by decide) (fun c1 => ?_) (fun c1 => absurd rfl c1)
    refine lv_iload hx hb dL_law_1057 (lv_at hl 1 rfl) ?_
    refine lv_if_ne (tgt := 1074) hx hb dL_law_1059 (by decide) (fun c2 => absurd rfl c2) (fun c2 => ?_)
    refine lv_aload_n hx hb dL_law_1062 rfl (lv_at hl 3 rfl) ?_
    refine lv_iconst (v := 0) hx hb dL_law_1063 (by decide) ?_
    refine z_lald M hw hty160 (z_ix (i := 0) (k := 0) rfl ⟨by omega, by omega⟩).1 dL_law_1064 ?_
    refine z_topl (y := bv.toInt64) (show K3 160 (0 : Int32).toNatClampNeg = _ from hKb) ?_
    refine lv_iload hx hb dL_law_1065 (lv_at hl 0 rfl) ?_
    refine lv_i2l hx hb dL_law_1067 rfl ?_
    refine W.lcmp hx hb dL_law_1068 ?_
    refine lv_if_eq (tgt := 1074) hx hb dL_law_1069 (by decide) (fun c3 => ?_) (fun c3 => absurd ((lg_cmp_eq _ _).mpr rfl) c3)
    refine lv_goto (tgt := 1324) hx hb dL_law_1074 (by decide) ?_
    exact kk _ _ _ _ _ _ _ _ hLI2 hw (lv_sub hl [2, 3, 4, 5, 6] rfl)
  · skip
    rw [if_neg hne] at hw1
    have hw : zH s.heap.size D cA s H locs ad2 ty I L P := ⟨hw1, hS⟩
    have htn2 : ¬ (if zlt p0 nt then (if p1 < 0 then 1 else 0) else 1) = 0 := by rw [← et]; exact htn
    obtain ⟨T3, eT⟩ : ∃ X : zIt, X = zu I 128 0 (nI t) := ⟨_, rfl⟩
    have hRf : zMi l s.heap.size D cA yX7_way cX7_way 6 .int 2 50 0 0 [.ref (ad2 128), .int p0, .int p1] (zW s.heap.size D cA ad2 ty I L P) 0 (zW s.heap.size D cA ad2 ty T3 L P) := by
      have z := c_X7_way l s.heap.size D cA ad2 ty I L P hR ni nc ns nt hbd (zREL_rv hR0) p0 p1
      rw [if_neg htn2, if_neg htn2, if_neg htn2] at z
      rw [eT, et]
      exact z
    have hT0 : T3 128 0 = nI t := by rw [eT, zu_self]
    have hLI2 : zLI (n + 1) ty T3 L P := by rw [eT]; exact zLI_throw hT hR0 hh _
    have hnt : ¬ nI t = 0 := nI_ne0 (by omega) (by omega)
    refine z_topi (y := nI t) hk ?_
    refine lv_istore (lv' := [(5, .int (nI t)), (4, .int (nI (7 * n))), (3, .ref (ad2 160)), (2, .ref (ad2 128)), (1, .ref (ad2 0)), (0, .ref b)]) hx hb dL_law_1026 hl (by decide) rfl (fun ls hl => ?_)
    refine lv_aload_n hx hb dL_law_1028 rfl (lv_at hl 3 rfl) ?_
    refine lv_aload_n hx hb dL_law_1029 rfl (lv_at hl 5 rfl) ?_
    refine lv_iload hx hb dL_law_1030 (lv_at hl 1 rfl) ?_
    refine lv_iconst (v := 1) hx hb dL_law_1032 (by decide) ?_
    refine lv_iadd hx hb dL_law_1033 ?_
    refine z_sld hx hb hX hbl hw.2 (nI_add (7 * n) 1) (by omega) hL ep0 dL_law_1034 ?_
    refine lv_aload_n hx hb dL_law_1035 rfl (lv_at hl 5 rfl) ?_
    refine lv_iload hx hb dL_law_1036 (lv_at hl 1 rfl) ?_
    refine lv_iconst (v := 2) hx hb dL_law_1038 (by decide) ?_
    refine lv_iadd hx hb dL_law_1039 ?_
    refine z_sld hx hb hX hbl hw.2 (nI_add (7 * n) 2) (by omega) hL ep1 dL_law_1040 ?_
    refine z_ci0 (z_runV (As := [.int p0, .int p1]) (rest := []) M hw ht128 zc_L_126 hRf hw.1 rfl rfl ⟨Nat.le_of_ble_eq_true rfl, Nat.le_of_ble_eq_true rfl⟩ ⟨(by show 40 + 13 * (n + 1) + 0 ≤ 601024; omega), (by show 700 + 84 * (n + 1) + 0 ≤ 7293034; omega)⟩ hl.1 (Nat.le_of_ble_eq_true rfl) dL_law_1041) hw (fun H locs hw => ?_)
    refine lv_istore (lv' := [(6, .int 0), (5, .int (nI t)), (4, .int (nI (7 * n))), (3, .ref (ad2 160)), (2, .ref (ad2 128)), (1, .ref (ad2 0)), (0, .ref b)]) hx hb dL_law_1044 hl (by decide) rfl (fun ls hl => ?_)
    refine lv_aload_n hx hb dL_law_1046 rfl (lv_at hl 4 rfl) ?_
    refine z_ci0 (z_runV (As := []) (rest := []) M hw ht128 zc_L_83 (c_X7_thrown l s.heap.size D cA ad2 ty T3 L P hR) hw.1 rfl rfl ⟨Nat.le_of_ble_eq_true rfl, Nat.le_of_ble_eq_true rfl⟩ ⟨(by show 40 + 13 * (n + 1) + 0 ≤ 601024; omega), (by show 700 + 84 * (n + 1) + 0 ≤ 7293034; omega)⟩ hl.1 (Nat.le_of_ble_eq_true rfl) dL_law_1047) hw (fun H locs hw => ?_)
    refine z_topi (y := nI t) hT0 ?_
    refine lv_iload hx hb dL_law_1050 (lv_at hl 1 rfl) ?_
    refine lv_icmp_eq (tgt := 1057) hx hb dL_law_1052 (by decide) (fun c1 => ?_) (fun c1 => absurd rfl c1)
    refine lv_iload hx hb dL_law_1057 (lv_at hl 1 rfl) ?_
    refine lv_if_ne (tgt := 1074) hx hb dL_law_1059 (by decide) (fun c2 => ?_) (fun c2 => absurd c2 hnt)
    refine lv_goto (tgt := 1324) hx hb dL_law_1074 (by decide) ?_
    exact kk _ _ _ _ _ _ _ _ hLI2 hw (lv_sub hl [2, 3, 4, 5, 6] rfl)
set_option maxHeartbeats 4000000 in
set_option maxRecDepth 100000 in
theorem z_case_sum (hl0 : l.stackTraces = false) (M : zM p s m c cL_law RL 8 s.heap.size D cA) (hN : zNcs s) (hX : va_X b Ln xs s s.heap) (hbl : b < s.heap.size) (hL : Ln ≤ 4000) (hn7 : 7 * n + 7 ≤ Ln) (hn5 : n < 512) (hLI : zLI n ty I L P) (hw : zH s.heap.size D cA s H locs ad ty I L P) (hl : lv_has ls 8 [(4, .int (nI (7 * n))), (3, .ref (ad 160)), (2, .ref (ad 128)), (1, .ref (ad 0)), (0, .ref b)])
    (kk : ∀ (H : Heap) (locs : List Loc) (ls : Array Slot) (ad : Nat → Nat) (ty : zTyp) (I : zIt) (L : zLt) (P : zPt), zLI (n + 1) ty I L P → zH s.heap.size D cA s H locs ad ty I L P → lv_has ls 8 [(4, .int (nI (7 * n))), (3, .ref (ad 160)), (2, .ref (ad 128)), (1, .ref (ad 0)), (0, .ref b)] → W p l e room_1 s m #[Value.ref b] below meth c H locs (40 + 13 * (n + 1)) (700 + 84 * (n + 1)) Q (F0 m 1324 ls [])) :
    W p l e room_1 s m #[Value.ref b] below meth c H locs (40 + 13 * n) (700 + 84 * n) Q (F0 m 1077 ls []) := by
  obtain ⟨hx, hb, -⟩ := id M
  obtain ⟨ni, nc, ns, nt, hrs, hT, hR0, hh⟩ := hLI
  obtain ⟨hC, hR, h160, hF⟩ := id hT
  have hbd := zREL_bd hR0
  obtain ⟨hb1, hb2, hb3, hb4⟩ := id hbd
  have hI := zREL_inv hR0
  have ht0 := zc_t0 hC
  have ht128 : ty 128 = some (7, 0) := zr_t hR 128 7 0 (by decide)
  obtain ⟨p0, ep0⟩ : ∃ y : Int32, y = xs (7 * n + 1) := ⟨_, rfl⟩
  obtain ⟨p1, ep1⟩ : ∃ y : Int32, y = xs (7 * n + 2) := ⟨_, rfl⟩
  refine lv_aload_n hx hb dL_law_1077 rfl (lv_at hl 3 rfl) ?_
  refine lv_aload_n hx hb dL_law_1078 rfl (lv_at hl 4 rfl) ?_
  refine lv_iload hx hb dL_law_1079 (lv_at hl 0 rfl) ?_
  refine lv_iconst (v := 1) hx hb dL_law_1081 (by decide) ?_
  refine lv_iadd hx hb dL_law_1082 ?_
  refine z_sld hx hb hX hbl hw.2 (nI_add (7 * n) 1) (by omega) hL ep0 dL_law_1083 ?_
  refine lv_aload_n hx hb dL_law_1084 rfl (lv_at hl 4 rfl) ?_
  refine lv_iload hx hb dL_law_1085 (lv_at hl 0 rfl) ?_
  refine lv_iconst (v := 2) hx hb dL_law_1087 (by decide) ?_
  refine lv_iadd hx hb dL_law_1088 ?_
  refine z_sld hx hb hX hbl hw.2 (nI_add (7 * n) 2) (by omega) hL ep1 dL_law_1089 ?_
  refine lv_aload_n hx hb dL_law_1090 rfl (lv_at hl 1 rfl) ?_
  obtain ⟨oc, eo⟩ : ∃ o : Nat, o = (zsq (zo1 p0 nt) (zo2 p1 0 2)) := ⟨_, rfl⟩
  obtain ⟨t, et⟩ : ∃ o : Nat, o = (if zlt p0 nt then (if zin p1 0 2 then 0 else 2) else 1) := ⟨_, rfl⟩
  obtain ⟨r0, er⟩ : ∃ r : Int32, r = (if p1 = 0 then (zStale nc nt (I, L)).1 (80 + p0.toNatClampNeg) 2 else if p1 = 1 then (zStale nc nt (I, L)).1 (80 + p0.toNatClampNeg) 3 else (zStale nc nt (I, L)).1 (80 + p0.toNatClampNeg) 1) := ⟨_, rfl⟩
  have hz : (oc = 0 ∧ t = 0 ∧ (zlt p0 nt) ∧ (zin p1 0 2)) ∨ (oc = 1 ∧ t = 1) ∨ (oc = 2 ∧ t = 2) := by
    rw [eo, et]
    exact zt_12 p0 p1
  have hz2 : (oc = 0 ∧ (zlt p0 nt) ∧ (zin p1 0 2)) ∨ (¬ oc = 0 ∧ ¬ t = 0 ∧ t ≤ 3 ∧ ((if oc = 1 then 1 else (if oc = 2 then 2 else 0)) : Int32) = nI t) := by
    rcases hz with ⟨q, -, cs⟩ | ⟨q, qt⟩ | ⟨q, qt⟩
    · exact Or.inl ⟨q, cs⟩
    · exact Or.inr ⟨by rw [q]; decide, by rw [qt]; decide, by rw [qt]; decide, by rw [q, qt]; rfl⟩
    · exact Or.inr ⟨by rw [q]; decide, by rw [qt]; decide, by rw [qt]; decide, by rw [q, qt]; rfl⟩
  have hoc : oc = 0 ∨ oc = 1 ∨ oc = 2 := by
    rcases hz with ⟨q, -⟩ | ⟨q, -⟩ | ⟨q, -⟩
    · exact Or.inl q
    · exact Or.inr (Or.inl q)
    · exact Or.inr (Or.inr (q))
  obtain ⟨I2, e1⟩ : ∃ X : zIt, X = (zStale nc nt (I, L)).1 := ⟨_, rfl⟩
  obtain ⟨L2, e2⟩ : ∃ X : zLt, X = (zStale nc nt (I, L)).2 := ⟨_, rfl⟩
  have hM : zXi l s.heap.size D cA yX6_sum cX6_sum 4 .int 7 117 2 12 [.ref (ad 0), .int p0, .int p1] (zW s.heap.size D cA ad ty I L P) oc r0 (zW s.heap.size D cA ad ty I2 L2 P) := by
    rw [eo, er, e1, e2]
    exact c_X6_sum l s.heap.size D cA ad ty I L P hl0 ni nc ns nt hC hI (zFin_ok nc) p0 p1
  have hh0 := c_L_sum l s.heap.size D cA ad ty I L P 0 ht0 h160 p0 p1 hM hoc (fun H z => ⟨ad, fun _ _ _ => rfl, z⟩) h160
  refine z_ci (z_runH (As := [.ref (ad 0), .int p0, .int p1, .ref (ad 160)]) (rest := []) M hN hw.2 zh_sum hh0 hw.1 rfl rfl ⟨Nat.le_of_ble_eq_true rfl, Nat.le_of_ble_eq_true rfl⟩ ⟨(by show 40 + 13 * n + 2 ≤ 601024; omega), (by show 700 + 84 * n + 12 ≤ 7293034; omega)⟩ hl.1 (Nat.le_of_ble_eq_true rfl) dL_law_1091) hw.2 (fun H locs hw1 hS => ?_)
  obtain ⟨ad2, hag, hw1⟩ := hw1
  refine W.widen (k := 40 + 13 * (n + 1)) (n := 700 + 84 * (n + 1)) (by omega) (by omega) ?_
  rw [← hag _ _ ht0, ← hag _ _ ht128, ← hag _ _ h160] at hl
  rcases hz2 with ⟨hoc0, h1, h2⟩ | ⟨hne, htn, ht3, hk⟩
  · skip
    rw [if_pos hoc0] at hw1
    obtain ⟨K, eK⟩ : ∃ X : zLt, X = zu L2 160 0 r0.toInt64 := ⟨_, rfl⟩
    rw [← eK] at hw1
    have hw : zH s.heap.size D cA s H locs ad2 ty I2 K P := ⟨hw1, hS⟩
    rw [er] at eK
    have z3 := s3_sum hT hR0 hh hn5 (eo.symm.trans hoc0) h1 h2 e1 e2  eK
    obtain ⟨ht, hV2, hT0, hK0, hRB, hLI2, hR2⟩ := z3
    obtain ⟨T3, eT⟩ : ∃ X : zIt, X = (zs (zu I2 128 0 0) 158 (zGoes (zu I2 128 0 0) nc)) := ⟨_, rfl⟩
    obtain ⟨K3, eK3⟩ : ∃ X : zLt, X = (zs K 157 (zFar (zu I2 128 0 0) (K 157) ni nc (I2 151 p0.toNatClampNeg))) := ⟨_, rfl⟩
    obtain ⟨bv, ebv⟩ : ∃ X : Int32, X = (if lg_cmp ((zFar (zu I2 128 0 0) (K 157) ni nc (I2 151 p0.toNatClampNeg)) (I2 150 p0.toNatClampNeg).toNatClampNeg) zFAR < 0 then (if p1 = 0 then (((zFar (zu I2 128 0 0) (K 157) ni nc (I2 151 p0.toNatClampNeg)) (I2 150 p0.toNatClampNeg).toNatClampNeg) / 1000000).toInt32 else if p1 = 1 then ((((zFar (zu I2 128 0 0) (K 157) ni nc (I2 151 p0.toNatClampNeg)) (I2 150 p0.toNatClampNeg).toNatClampNeg) - ((zFar (zu I2 128 0 0) (K 157) ni nc (I2 151 p0.toNatClampNeg)) (I2 150 p0.toNatClampNeg).toNatClampNeg) / 1000000 * 1000000) / 100).toInt32 else (((zFar (zu I2 128 0 0) (K 157) ni nc (I2 151 p0.toNatClampNeg)) (I2 150 p0.toNatClampNeg).toNatClampNeg) - ((zFar (zu I2 128 0 0) (K 157) ni nc (I2 151 p0.toNatClampNeg)) (I2 150 p0.toNatClampNeg).toNatClampNeg) / 100 * 100).toInt32) else -1) := ⟨_, rfl⟩
    have hRf : zMi l s.heap.size D cA yX7_sum cX7_sum 6 .int 2 50 0 0 [.ref (ad2 128), .int p0, .int p1] (zW s.heap.size D cA ad2 ty I2 K P) bv (zW s.heap.size D cA ad2 ty T3 K3 P) := by
      have z := c_X7_sum l s.heap.size D cA ad2 ty I2 K P hR2 ni nc ns nt hbd hV2 p0 p1
      rw [if_pos ht, if_pos ht, if_pos ht] at z
      rw [eT, eK3, ebv]
      exact z
    have hT0 : T3 128 0 = 0 := by rw [eT]; exact hT0
    have hKb : K3 160 0 = bv.toInt64 := by rw [eK3, ebv]; exact hK0.trans hRB
    have hLI2 : zLI (n + 1) ty T3 K3 P := by rw [eT, eK3]; exact hLI2
    have hty128 : ty 128 = some (7, 0) := zr_t hR2 128 7 0 (by decide)
    have hty160 : ty 160 = some (9, 1) := by obtain ⟨_, _, _, _, _, hq, -⟩ := hLI2; exact hq.2.2.1
    refine z_topi (y := 0) (by rw [hoc0]; rfl) ?_
    refine lv_istore (lv' := [(5, .int 0), (4, .int (nI (7 * n))), (3, .ref (ad2 160)), (2, .ref (ad2 128)), (1, .ref (ad2 0)), (0, .ref b)]) hx hb dL_law_1094 hl (by decide) rfl (fun ls hl => ?_)
    refine lv_aload_n hx hb dL_law_1096 rfl (lv_at hl 3 rfl) ?_
    refine lv_aload_n hx hb dL_law_1097 rfl (lv_at hl 5 rfl) ?_
    refine lv_iload hx hb dL_law_1098 (lv_at hl 1 rfl) ?_
    refine lv_iconst (v := 1) hx hb dL_law_1100 (by decide) ?_
    refine lv_iadd hx hb dL_law_1101 ?_
    refine z_sld hx hb hX hbl hw.2 (nI_add (7 * n) 1) (by omega) hL ep0 dL_law_1102 ?_
    refine lv_aload_n hx hb dL_law_1103 rfl (lv_at hl 5 rfl) ?_
    refine lv_iload hx hb dL_law_1104 (lv_at hl 1 rfl) ?_
    refine lv_iconst (v := 2) hx hb dL_law_1106 (by decide) ?_
    refine lv_iadd hx hb dL_law_1107 ?_
    refine z_sld hx hb hX hbl hw.2 (nI_add (7 * n) 2) (by omega) hL ep1 dL_law_1108 ?_
    refine z_ci0 (z_runV (As := [.int p0, .int p1]) (rest := []) M hw hty128 zc_L_129 hRf hw.1 rfl rfl ⟨Nat.le_of_ble_eq_true rfl, Nat.le_of_ble_eq_true rfl⟩ ⟨(by show 40 + 13 * (n + 1) + 0 ≤ 601024; omega), (by show 700 + 84 * (n + 1) + 0 ≤ 7293034; omega)⟩ hl.1 (Nat.le_of_ble_eq_true rfl) dL_law_1109) hw (fun H locs hw => ?_)
    refine lv_istore (lv' := [(6, .int bv), (5, .int 0), (4, .int (nI (7 * n))), (3, .ref (ad2 160)), (2, .ref (ad2 128)), (1, .ref (ad2 0)), (0, .ref b)]) hx hb dL_law_1112 hl (by decide) rfl (fun ls hl => ?_)
    refine lv_aload_n hx hb dL_law_1114 rfl (lv_at hl 4 rfl) ?_
    refine z_ci0 (z_runV (As := []) (rest := []) M hw hty128 zc_L_83 (c_X7_thrown l s.heap.size D cA ad2 ty T3 K3 P hR2) hw.1 rfl rfl ⟨Nat.le_of_ble_eq_true rfl, Nat.le_of_ble_eq_true rfl⟩ ⟨(by show 40 + 13 * (n + 1) + 0 ≤ 601024; omega), (by show 700 + 84 * (n + 1) + 0 ≤ 7293034; omega)⟩ hl.1 (Nat.le_of_ble_eq_true rfl) dL_law_1115) hw (fun H locs hw => ?_)
    refine z_topi (y := 0) hT0 ?_
    refine lv_iload hx hb dL_law_1118 (lv_at hl 1 rfl) ?_
    refine lv_icmp_eq (tgt := 1125) hx hb dL_law_1120 (by decide) (fun c1 => ?_) (fun c1 => absurd rfl c1)
    refine lv_iload hx hb dL_law_1125 (lv_at hl 1 rfl) ?_
    refine lv_if_ne (tgt := 1142) hx hb dL_law_1127 (by decide) (fun c2 => absurd rfl c2) (fun c2 => ?_)
    refine lv_aload_n hx hb dL_law_1130 rfl (lv_at hl 3 rfl) ?_
    refine lv_iconst (v := 0) hx hb dL_law_1131 (by decide) ?_
    refine z_lald M hw hty160 (z_ix (i := 0) (k := 0) rfl ⟨by omega, by omega⟩).1 dL_law_1132 ?_
    refine z_topl (y := bv.toInt64) (show K3 160 (0 : Int32).toNatClampNeg = _ from hKb) ?_
    refine lv_iload hx hb dL_law_1133 (lv_at hl 0 rfl) ?_
    refine lv_i2l hx hb dL_law_1135 rfl ?_
    refine W.lcmp hx hb dL_law_1136 ?_
    refine lv_if_eq (tgt := 1142) hx hb dL_law_1137 (by decide) (fun c3 => ?_) (fun c3 => absurd ((lg_cmp_eq _ _).mpr rfl) c3)
    refine lv_goto (tgt := 1324) hx hb dL_law_1142 (by decide) ?_
    exact kk _ _ _ _ _ _ _ _ hLI2 hw (lv_sub hl [2, 3, 4, 5, 6] rfl)
  · skip
    rw [if_neg hne] at hw1
    have hw : zH s.heap.size D cA s H locs ad2 ty I L P := ⟨hw1, hS⟩
    have htn2 : ¬ (if zlt p0 nt then (if zin p1 0 2 then 0 else 2) else 1) = 0 := by rw [← et]; exact htn
    obtain ⟨T3, eT⟩ : ∃ X : zIt, X = zu I 128 0 (nI t) := ⟨_, rfl⟩
    have hRf : zMi l s.heap.size D cA yX7_sum cX7_sum 6 .int 2 50 0 0 [.ref (ad2 128), .int p0, .int p1] (zW s.heap.size D cA ad2 ty I L P) 0 (zW s.heap.size D cA ad2 ty T3 L P) := by
      have z := c_X7_sum l s.heap.size D cA ad2 ty I L P hR ni nc ns nt hbd (zREL_rv hR0) p0 p1
      rw [if_neg htn2, if_neg htn2, if_neg htn2] at z
      rw [eT, et]
      exact z
    have hT0 : T3 128 0 = nI t := by rw [eT, zu_self]
    have hLI2 : zLI (n + 1) ty T3 L P := by rw [eT]; exact zLI_throw hT hR0 hh _
    have hnt : ¬ nI t = 0 := nI_ne0 (by omega) (by omega)
    refine z_topi (y := nI t) hk ?_
    refine lv_istore (lv' := [(5, .int (nI t)), (4, .int (nI (7 * n))), (3, .ref (ad2 160)), (2, .ref (ad2 128)), (1, .ref (ad2 0)), (0, .ref b)]) hx hb dL_law_1094 hl (by decide) rfl (fun ls hl => ?_)
    refine lv_aload_n hx hb dL_law_1096 rfl (lv_at hl 3 rfl) ?_
    refine lv_aload_n hx hb dL_law_1097 rfl (lv_at hl 5 rfl) ?_
    refine lv_iload hx hb dL_law_1098 (lv_at hl 1 rfl) ?_
    refine lv_iconst (v := 1) hx hb dL_law_1100 (by decide) ?_
    refine lv_iadd hx hb dL_law_1101 ?_
    refine z_sld hx hb hX hbl hw.2 (nI_add (7 * n) 1) (by omega) hL ep0 dL_law_1102 ?_
    refine lv_aload_n hx hb dL_law_1103 rfl (lv_at hl 5 rfl) ?_
    refine lv_iload hx hb dL_law_1104 (lv_at hl 1 rfl) ?_
    refine lv_iconst (v := 2) hx hb dL_law_1106 (by decide) ?_
    refine lv_iadd hx hb dL_law_1107 ?_
    refine z_sld hx hb hX hbl hw.2 (nI_add (7 * n) 2) (by omega) hL ep1 dL_law_1108 ?_
    refine z_ci0 (z_runV (As := [.int p0, .int p1]) (rest := []) M hw ht128 zc_L_129 hRf hw.1 rfl rfl ⟨Nat.le_of_ble_eq_true rfl, Nat.le_of_ble_eq_true rfl⟩ ⟨(by show 40 + 13 * (n + 1) + 0 ≤ 601024; omega), (by show 700 + 84 * (n + 1) + 0 ≤ 7293034; omega)⟩ hl.1 (Nat.le_of_ble_eq_true rfl) dL_law_1109) hw (fun H locs hw => ?_)
    refine lv_istore (lv' := [(6, .int 0), (5, .int (nI t)), (4, .int (nI (7 * n))), (3, .ref (ad2 160)), (2, .ref (ad2 128)), (1, .ref (ad2 0)), (0, .ref b)]) hx hb dL_law_1112 hl (by decide) rfl (fun ls hl => ?_)
    refine lv_aload_n hx hb dL_law_1114 rfl (lv_at hl 4 rfl) ?_
    refine z_ci0 (z_runV (As := []) (rest := []) M hw ht128 zc_L_83 (c_X7_thrown l s.heap.size D cA ad2 ty T3 L P hR) hw.1 rfl rfl ⟨Nat.le_of_ble_eq_true rfl, Nat.le_of_ble_eq_true rfl⟩ ⟨(by show 40 + 13 * (n + 1) + 0 ≤ 601024; omega), (by show 700 + 84 * (n + 1) + 0 ≤ 7293034; omega)⟩ hl.1 (Nat.le_of_ble_eq_true rfl) dL_law_1115) hw (fun H locs hw => ?_)
    refine z_topi (y := nI t) hT0 ?_
    refine lv_iload hx hb dL_law_1118 (lv_at hl 1 rfl) ?_
    refine lv_icmp_eq (tgt := 1125) hx hb dL_law_1120 (by decide) (fun c1 => ?_) (fun c1 => absurd rfl c1)
    refine lv_iload hx hb dL_law_1125 (lv_at hl 1 rfl) ?_
    refine lv_if_ne (tgt := 1142) hx hb dL_law_1127 (by decide) (fun c2 => ?_) (fun c2 => absurd c2 hnt)
    refine lv_goto (tgt := 1324) hx hb dL_law_1142 (by decide) ?_
    exact kk _ _ _ _ _ _ _ _ hLI2 hw (lv_sub hl [2, 3, 4, 5, 6] rfl)
set_option maxHeartbeats 4000000 in
set_option maxRecDepth 100000 in
theorem z_case_sumAnew (hl0 : l.stackTraces = false) (M : zM p s m c cL_law RL 8 s.heap.size D cA) (hN : zNcs s) (hX : va_X b Ln xs s s.heap) (hbl : b < s.heap.size) (hL : Ln ≤ 4000) (hn7 : 7 * n + 7 ≤ Ln) (hn5 : n < 512) (hLI : zLI n ty I L P) (hw : zH s.heap.size D cA s H locs ad ty I L P) (hl : lv_has ls 8 [(4, .int (nI (7 * n))), (3, .ref (ad 160)), (2, .ref (ad 128)), (1, .ref (ad 0)), (0, .ref b)])
    (kk : ∀ (H : Heap) (locs : List Loc) (ls : Array Slot) (ad : Nat → Nat) (ty : zTyp) (I : zIt) (L : zLt) (P : zPt), zLI (n + 1) ty I L P → zH s.heap.size D cA s H locs ad ty I L P → lv_has ls 8 [(4, .int (nI (7 * n))), (3, .ref (ad 160)), (2, .ref (ad 128)), (1, .ref (ad 0)), (0, .ref b)] → W p l e room_1 s m #[Value.ref b] below meth c H locs (40 + 13 * (n + 1)) (700 + 84 * (n + 1)) Q (F0 m 1324 ls [])) :
    W p l e room_1 s m #[Value.ref b] below meth c H locs (40 + 13 * n) (700 + 84 * n) Q (F0 m 1145 ls []) := by
  obtain ⟨hx, hb, -⟩ := id M
  obtain ⟨ni, nc, ns, nt, hrs, hT, hR0, hh⟩ := hLI
  obtain ⟨hC, hR, h160, hF⟩ := id hT
  have hbd := zREL_bd hR0
  obtain ⟨hb1, hb2, hb3, hb4⟩ := id hbd
  have hI := zREL_inv hR0
  have ht0 := zc_t0 hC
  have ht128 : ty 128 = some (7, 0) := zr_t hR 128 7 0 (by decide)
  obtain ⟨p0, ep0⟩ : ∃ y : Int32, y = xs (7 * n + 1) := ⟨_, rfl⟩
  refine lv_aload_n hx hb dL_law_1145 rfl (lv_at hl 3 rfl) ?_
  refine lv_aload_n hx hb dL_law_1146 rfl (lv_at hl 4 rfl) ?_
  refine lv_iload hx hb dL_law_1147 (lv_at hl 0 rfl) ?_
  refine lv_iconst (v := 1) hx hb dL_law_1149 (by decide) ?_
  refine lv_iadd hx hb dL_law_1150 ?_
  refine z_sld hx hb hX hbl hw.2 (nI_add (7 * n) 1) (by omega) hL ep0 dL_law_1151 ?_
  refine lv_aload_n hx hb dL_law_1152 rfl (lv_at hl 1 rfl) ?_
  obtain ⟨oc, eo⟩ : ∃ o : Nat, o = (zo1 p0 nt) := ⟨_, rfl⟩
  obtain ⟨t, et⟩ : ∃ o : Nat, o = (if zlt p0 nt then 0 else 1) := ⟨_, rfl⟩
  skip
  have hz : (oc = 0 ∧ t = 0 ∧ (zlt p0 nt)) ∨ (oc = 1 ∧ t = 1) := by
    rw [eo, et]
    exact zt_1 p0
  have hz2 : (oc = 0 ∧ (zlt p0 nt)) ∨ (¬ oc = 0 ∧ ¬ t = 0 ∧ t ≤ 3 ∧ ((if oc = 1 then 1 else 0) : Int32) = nI t) := by
    rcases hz with ⟨q, -, cs⟩ | ⟨q, qt⟩
    · exact Or.inl ⟨q, cs⟩
    · exact Or.inr ⟨by rw [q]; decide, by rw [qt]; decide, by rw [qt]; decide, by rw [q, qt]; rfl⟩
  have hoc : oc = 0 ∨ oc = 1 := by
    rcases hz with ⟨q, -⟩ | ⟨q, -⟩
    · exact Or.inl q
    · exact Or.inr (q)
  obtain ⟨u, v, hu, hv, huv⟩ : ∃ u v : Nat, u < 10 ∧ v < 10 ∧ (zlt p0 nt → u < ni ∧ v < ni ∧ I (64 + p0.toNatClampNeg) 0 = nI u ∧ I (64 + p0.toNatClampNeg) 1 = nI v) := by
    by_cases q : zlt p0 nt
    · obtain ⟨u, v, h1, h2, h3, h4⟩ := hR0.2.2.2.2.2.2.2.1.1 _ (zlt_nat q).2
      exact ⟨u, v, by omega, by omega, fun _ => ⟨h1, h2, h3, h4⟩⟩
    · exact ⟨0, 0, by omega, by omega, fun z => absurd z q⟩
  obtain ⟨r0, er⟩ : ∃ r : Int32, r = (zPrr I nc (zS0 (I 8) u) 9 v) := ⟨_, rfl⟩
  obtain ⟨I2, e1⟩ : ∃ X : zIt, X = (zs I 8 (zPrr I nc (zS0 (I 8) u) 9)) := ⟨_, rfl⟩
  have hM : zXi l s.heap.size D cA yX6_sumAnew cX6_sumAnew 2 .int 7 111 1 6 [.ref (ad 0), .int p0] (zW s.heap.size D cA ad ty I L P) oc r0 (zW s.heap.size D cA ad ty I2 L P) := by
    rw [eo, er, e1]
    exact c_X6_sumAnew l s.heap.size D cA ad ty I L P hl0 ni nc ns nt hC hI p0 u v hu hv (fun q => (huv q).2.2.1) (fun q => (huv q).2.2.2)
  have hh0 := c_L_sumAnew l s.heap.size D cA ad ty I L P 0 ht0 h160 p0 hM hoc (fun H z => ⟨ad, fun _ _ _ => rfl, z⟩) h160
  refine z_ci (z_runH (As := [.ref (ad 0), .int p0, .ref (ad 160)]) (rest := []) M hN hw.2 zh_sumAnew hh0 hw.1 rfl rfl ⟨Nat.le_of_ble_eq_true rfl, Nat.le_of_ble_eq_true rfl⟩ ⟨(by show 40 + 13 * n + 1 ≤ 601024; omega), (by show 700 + 84 * n + 6 ≤ 7293034; omega)⟩ hl.1 (Nat.le_of_ble_eq_true rfl) dL_law_1153) hw.2 (fun H locs hw1 hS => ?_)
  obtain ⟨ad2, hag, hw1⟩ := hw1
  refine W.widen (k := 40 + 13 * (n + 1)) (n := 700 + 84 * (n + 1)) (by omega) (by omega) ?_
  rw [← hag _ _ ht0, ← hag _ _ ht128, ← hag _ _ h160] at hl
  rcases hz2 with ⟨hoc0, h1⟩ | ⟨hne, htn, ht3, hk⟩
  · skip
    rw [if_pos hoc0] at hw1
    obtain ⟨K, eK⟩ : ∃ X : zLt, X = zu L 160 0 r0.toInt64 := ⟨_, rfl⟩
    rw [← eK] at hw1
    have hw : zH s.heap.size D cA s H locs ad2 ty I2 K P := ⟨hw1, hS⟩
    rw [er] at eK
    have z3 := s3_sumAnew hT hR0 hh hn5 (eo.symm.trans hoc0) h1 (huv h1).2.2.1 (huv h1).2.2.2 (huv h1).1 (huv h1).2.1 e1  eK
    obtain ⟨ht, hV2, hT0, hK0, hRB, hLI2, hR2⟩ := z3
    obtain ⟨T3, eT⟩ : ∃ X : zIt, X = (zs (zu I2 128 0 0) 158 (zGoes (zu I2 128 0 0) nc)) := ⟨_, rfl⟩
    obtain ⟨K3, eK3⟩ : ∃ X : zLt, X = (zs K 157 (zFar (zu I2 128 0 0) (K 157) ni nc (I2 151 p0.toNatClampNeg))) := ⟨_, rfl⟩
    obtain ⟨bv, ebv⟩ : ∃ X : Int32, X = (if lg_cmp ((zFar (zu I2 128 0 0) (K 157) ni nc (I2 151 p0.toNatClampNeg)) (I2 150 p0.toNatClampNeg).toNatClampNeg) zFAR < 0 then (((zFar (zu I2 128 0 0) (K 157) ni nc (I2 151 p0.toNatClampNeg)) (I2 150 p0.toNatClampNeg).toNatClampNeg) / 1000000).toInt32 else -1) := ⟨_, rfl⟩
    have hRf : zMi l s.heap.size D cA yX7_sumAnew cX7_sumAnew 2 .int 2 50 0 0 [.ref (ad2 128), .int p0] (zW s.heap.size D cA ad2 ty I2 K P) bv (zW s.heap.size D cA ad2 ty T3 K3 P) := by
      have z := c_X7_sumAnew l s.heap.size D cA ad2 ty I2 K P hR2 ni nc ns nt hbd hV2 p0
      rw [if_pos ht, if_pos ht, if_pos ht] at z
      rw [eT, eK3, ebv]
      exact z
    have hT0 : T3 128 0 = 0 := by rw [eT]; exact hT0
    have hKb : K3 160 0 = bv.toInt64 := by rw [eK3, ebv]; exact hK0.trans hRB
    have hLI2 : zLI (n + 1) ty T3 K3 P := by rw [eT, eK3]; exact hLI2
    have hty128 : ty 128 = some (7, 0) := zr_t hR2 128 7 0 (by decide)
    have hty160 : ty 160 = some (9, 1) := by obtain ⟨_, _, _, _, _, hq, -⟩ := hLI2; exact hq.2.2.1
    refine z_topi (y := 0) (by rw [hoc0]; rfl) ?_
    refine lv_istore (lv' := [(5, .int 0), (4, .int (nI (7 * n))), (3, .ref (ad2 160)), (2, .ref (ad2 128)), (1, .ref (ad2 0)), (0, .ref b)]) hx hb dL_law_1156 hl (by decide) rfl (fun ls hl => ?_)
    refine lv_aload_n hx hb dL_law_1158 rfl (lv_at hl 3 rfl) ?_
    refine lv_aload_n hx hb dL_law_1159 rfl (lv_at hl 5 rfl) ?_
    refine lv_iload hx hb dL_law_1160 (lv_at hl 1 rfl) ?_
    refine lv_iconst (v := 1) hx hb dL_law_1162 (by decide) ?_
    refine lv_iadd hx hb dL_law_1163 ?_
    refine z_sld hx hb hX hbl hw.2 (nI_add (7 * n) 1) (by omega) hL ep0 dL_law_1164 ?_
    refine z_ci0 (z_runV (As := [.int p0]) (rest := []) M hw hty128 zc_L_132 hRf hw.1 rfl rfl ⟨Nat.le_of_ble_eq_true rfl, Nat.le_of_ble_eq_true rfl⟩ ⟨(by show 40 + 13 * (n + 1) + 0 ≤ 601024; omega), (by show 700 + 84 * (n + 1) + 0 ≤ 7293034; omega)⟩ hl.1 (Nat.le_of_ble_eq_true rfl) dL_law_1165) hw (fun H locs hw => ?_)
    refine lv_istore (lv' := [(6, .int bv), (5, .int 0), (4, .int (nI (7 * n))), (3, .ref (ad2 160)), (2, .ref (ad2 128)), (1, .ref (ad2 0)), (0, .ref b)]) hx hb dL_law_1168 hl (by decide) rfl (fun ls hl => ?_)
    refine lv_aload_n hx hb dL_law_1170 rfl (lv_at hl 4 rfl) ?_
    refine z_ci0 (z_runV (As := []) (rest := []) M hw hty128 zc_L_83 (c_X7_thrown l s.heap.size D cA ad2 ty T3 K3 P hR2) hw.1 rfl rfl ⟨Nat.le_of_ble_eq_true rfl, Nat.le_of_ble_eq_true rfl⟩ ⟨(by show 40 + 13 * (n + 1) + 0 ≤ 601024; omega), (by show 700 + 84 * (n + 1) + 0 ≤ 7293034; omega)⟩ hl.1 (Nat.le_of_ble_eq_true rfl) dL_law_1171) hw (fun H locs hw => ?_)
    refine z_topi (y := 0) hT0 ?_
    refine lv_iload hx hb dL_law_1174 (lv_at hl 1 rfl) ?_
    refine lv_icmp_eq (tgt := 1181) hx hb dL_law_1176 (by decide) (fun c1 => ?_) (fun c1 => absurd rfl c1)
    refine lv_iload hx hb dL_law_1181 (lv_at hl 1 rfl) ?_
    refine lv_if_ne (tgt := 1198) hx hb dL_law_1183 (by decide) (fun c2 => absurd rfl c2) (fun c2 => ?_)
    refine lv_aload_n hx hb dL_law_1186 rfl (lv_at hl 3 rfl) ?_
    refine lv_iconst (v := 0) hx hb dL_law_1187 (by decide) ?_
    refine z_lald M hw hty160 (z_ix (i := 0) (k := 0) rfl ⟨by omega, by omega⟩).1 dL_law_1188 ?_
    refine z_topl (y := bv.toInt64) (show K3 160 (0 : Int32).toNatClampNeg = _ from hKb) ?_
    refine lv_iload hx hb dL_law_1189 (lv_at hl 0 rfl) ?_
    refine lv_i2l hx hb dL_law_1191 rfl ?_
    refine W.lcmp hx hb dL_law_1192 ?_
    refine lv_if_eq (tgt := 1198) hx hb dL_law_1193 (by decide) (fun c3 => ?_) (fun c3 => absurd ((lg_cmp_eq _ _).mpr rfl) c3)
    refine lv_goto (tgt := 1324) hx hb dL_law_1198 (by decide) ?_
    exact kk _ _ _ _ _ _ _ _ hLI2 hw (lv_sub hl [2, 3, 4, 5, 6] rfl)
  · skip
    rw [if_neg hne] at hw1
    have hw : zH s.heap.size D cA s H locs ad2 ty I L P := ⟨hw1, hS⟩
    have htn2 : ¬ (if zlt p0 nt then 0 else 1) = 0 := by rw [← et]; exact htn
    obtain ⟨T3, eT⟩ : ∃ X : zIt, X = zu I 128 0 (nI t) := ⟨_, rfl⟩
    have hRf : zMi l s.heap.size D cA yX7_sumAnew cX7_sumAnew 2 .int 2 50 0 0 [.ref (ad2 128), .int p0] (zW s.heap.size D cA ad2 ty I L P) 0 (zW s.heap.size D cA ad2 ty T3 L P) := by
      have z := c_X7_sumAnew l s.heap.size D cA ad2 ty I L P hR ni nc ns nt hbd (zREL_rv hR0) p0
      rw [if_neg htn2, if_neg htn2, if_neg htn2] at z
      rw [eT, et]
      exact z
    have hT0 : T3 128 0 = nI t := by rw [eT, zu_self]
    have hLI2 : zLI (n + 1) ty T3 L P := by rw [eT]; exact zLI_throw hT hR0 hh _
    have hnt : ¬ nI t = 0 := nI_ne0 (by omega) (by omega)
    refine z_topi (y := nI t) hk ?_
    refine lv_istore (lv' := [(5, .int (nI t)), (4, .int (nI (7 * n))), (3, .ref (ad2 160)), (2, .ref (ad2 128)), (1, .ref (ad2 0)), (0, .ref b)]) hx hb dL_law_1156 hl (by decide) rfl (fun ls hl => ?_)
    refine lv_aload_n hx hb dL_law_1158 rfl (lv_at hl 3 rfl) ?_
    refine lv_aload_n hx hb dL_law_1159 rfl (lv_at hl 5 rfl) ?_
    refine lv_iload hx hb dL_law_1160 (lv_at hl 1 rfl) ?_
    refine lv_iconst (v := 1) hx hb dL_law_1162 (by decide) ?_
    refine lv_iadd hx hb dL_law_1163 ?_
    refine z_sld hx hb hX hbl hw.2 (nI_add (7 * n) 1) (by omega) hL ep0 dL_law_1164 ?_
    refine z_ci0 (z_runV (As := [.int p0]) (rest := []) M hw ht128 zc_L_132 hRf hw.1 rfl rfl ⟨Nat.le_of_ble_eq_true rfl, Nat.le_of_ble_eq_true rfl⟩ ⟨(by show 40 + 13 * (n + 1) + 0 ≤ 601024; omega), (by show 700 + 84 * (n + 1) + 0 ≤ 7293034; omega)⟩ hl.1 (Nat.le_of_ble_eq_true rfl) dL_law_1165) hw (fun H locs hw => ?_)
    refine lv_istore (lv' := [(6, .int 0), (5, .int (nI t)), (4, .int (nI (7 * n))), (3, .ref (ad2 160)), (2, .ref (ad2 128)), (1, .ref (ad2 0)), (0, .ref b)]) hx hb dL_law_1168 hl (by decide) rfl (fun ls hl => ?_)
    refine lv_aload_n hx hb dL_law_1170 rfl (lv_at hl 4 rfl) ?_
    refine z_ci0 (z_runV (As := []) (rest := []) M hw ht128 zc_L_83 (c_X7_thrown l s.heap.size D cA ad2 ty T3 L P hR) hw.1 rfl rfl ⟨Nat.le_of_ble_eq_true rfl, Nat.le_of_ble_eq_true rfl⟩ ⟨(by show 40 + 13 * (n + 1) + 0 ≤ 601024; omega), (by show 700 + 84 * (n + 1) + 0 ≤ 7293034; omega)⟩ hl.1 (Nat.le_of_ble_eq_true rfl) dL_law_1171) hw (fun H locs hw => ?_)
    refine z_topi (y := nI t) hT0 ?_
    refine lv_iload hx hb dL_law_1174 (lv_at hl 1 rfl) ?_
    refine lv_icmp_eq (tgt := 1181) hx hb dL_law_1176 (by decide) (fun c1 => ?_) (fun c1 => absurd rfl c1)
    refine lv_iload hx hb dL_law_1181 (lv_at hl 1 rfl) ?_
    refine lv_if_ne (tgt := 1198) hx hb dL_law_1183 (by decide) (fun c2 => ?_) (fun c2 => absurd c2 hnt)
    refine lv_goto (tgt := 1324) hx hb dL_law_1198 (by decide) ?_
    exact kk _ _ _ _ _ _ _ _ hLI2 hw (lv_sub hl [2, 3, 4, 5, 6] rfl)
set_option maxHeartbeats 4000000 in
set_option maxRecDepth 100000 in
theorem z_case_account (hl0 : l.stackTraces = false) (M : zM p s m c cL_law RL 8 s.heap.size D cA) (hN : zNcs s) (hX : va_X b Ln xs s s.heap) (hbl : b < s.heap.size) (hL : Ln ≤ 4000) (hn7 : 7 * n + 7 ≤ Ln) (hn5 : n < 512) (hLI : zLI n ty I L P) (hw : zH s.heap.size D cA s H locs ad ty I L P) (hl : lv_has ls 8 [(4, .int (nI (7 * n))), (3, .ref (ad 160)), (2, .ref (ad 128)), (1, .ref (ad 0)), (0, .ref b)])
    (kk : ∀ (H : Heap) (locs : List Loc) (ls : Array Slot) (ad : Nat → Nat) (ty : zTyp) (I : zIt) (L : zLt) (P : zPt), zLI (n + 1) ty I L P → zH s.heap.size D cA s H locs ad ty I L P → lv_has ls 8 [(4, .int (nI (7 * n))), (3, .ref (ad 160)), (2, .ref (ad 128)), (1, .ref (ad 0)), (0, .ref b)] → W p l e room_1 s m #[Value.ref b] below meth c H locs (40 + 13 * (n + 1)) (700 + 84 * (n + 1)) Q (F0 m 1324 ls [])) :
    W p l e room_1 s m #[Value.ref b] below meth c H locs (40 + 13 * n) (700 + 84 * n) Q (F0 m 1201 ls []) := by
  obtain ⟨hx, hb, -⟩ := id M
  obtain ⟨ni, nc, ns, nt, hrs, hT, hR0, hh⟩ := hLI
  obtain ⟨hC, hR, h160, hF⟩ := id hT
  have hbd := zREL_bd hR0
  obtain ⟨hb1, hb2, hb3, hb4⟩ := id hbd
  have hI := zREL_inv hR0
  have ht0 := zc_t0 hC
  have ht128 : ty 128 = some (7, 0) := zr_t hR 128 7 0 (by decide)
  obtain ⟨p0, ep0⟩ : ∃ y : Int32, y = xs (7 * n + 1) := ⟨_, rfl⟩
  obtain ⟨p1, ep1⟩ : ∃ y : Int32, y = xs (7 * n + 2) := ⟨_, rfl⟩
  refine lv_aload_n hx hb dL_law_1201 rfl (lv_at hl 3 rfl) ?_
  refine lv_aload_n hx hb dL_law_1202 rfl (lv_at hl 4 rfl) ?_
  refine lv_iload hx hb dL_law_1203 (lv_at hl 0 rfl) ?_
  refine lv_iconst (v := 1) hx hb dL_law_1205 (by decide) ?_
  refine lv_iadd hx hb dL_law_1206 ?_
  refine z_sld hx hb hX hbl hw.2 (nI_add (7 * n) 1) (by omega) hL ep0 dL_law_1207 ?_
  refine lv_aload_n hx hb dL_law_1208 rfl (lv_at hl 4 rfl) ?_
  refine lv_iload hx hb dL_law_1209 (lv_at hl 0 rfl) ?_
  refine lv_iconst (v := 2) hx hb dL_law_1211 (by decide) ?_
  refine lv_iadd hx hb dL_law_1212 ?_
  refine z_sld hx hb hX hbl hw.2 (nI_add (7 * n) 2) (by omega) hL ep1 dL_law_1213 ?_
  refine lv_aload_n hx hb dL_law_1214 rfl (lv_at hl 1 rfl) ?_
  obtain ⟨oc, eo⟩ : ∃ o : Nat, o = (zsq (zo1 p0 nt) (zo2 p1 0 3)) := ⟨_, rfl⟩
  obtain ⟨t, et⟩ : ∃ o : Nat, o = (if zlt p0 nt then (if zin p1 0 3 then 0 else 2) else 1) := ⟨_, rfl⟩
  obtain ⟨r0, er⟩ : ∃ r : Int64, r = (if p1 = 0 then L (64 + p0.toNatClampNeg) 7 else if p1 = 1 then (I (64 + p0.toNatClampNeg) 8).toInt64 else if p1 = 2 then (I (64 + p0.toNatClampNeg) 9).toInt64 else (I (64 + p0.toNatClampNeg) 10).toInt64) := ⟨_, rfl⟩
  have hz : (oc = 0 ∧ t = 0 ∧ (zlt p0 nt) ∧ (zin p1 0 3)) ∨ (oc = 1 ∧ t = 1) ∨ (oc = 2 ∧ t = 2) := by
    rw [eo, et]
    exact zt_12 p0 p1
  have hz2 : (oc = 0 ∧ (zlt p0 nt) ∧ (zin p1 0 3)) ∨ (¬ oc = 0 ∧ ¬ t = 0 ∧ t ≤ 3 ∧ ((if oc = 1 then 1 else (if oc = 2 then 2 else 0)) : Int32) = nI t) := by
    rcases hz with ⟨q, -, cs⟩ | ⟨q, qt⟩ | ⟨q, qt⟩
    · exact Or.inl ⟨q, cs⟩
    · exact Or.inr ⟨by rw [q]; decide, by rw [qt]; decide, by rw [qt]; decide, by rw [q, qt]; rfl⟩
    · exact Or.inr ⟨by rw [q]; decide, by rw [qt]; decide, by rw [qt]; decide, by rw [q, qt]; rfl⟩
  have hoc : oc = 0 ∨ oc = 1 ∨ oc = 2 := by
    rcases hz with ⟨q, -⟩ | ⟨q, -⟩ | ⟨q, -⟩
    · exact Or.inl q
    · exact Or.inr (Or.inl q)
    · exact Or.inr (Or.inr (q))
  have hM : zXl l s.heap.size D cA yX6_account cX6_account 4 7 112 2 12 [.ref (ad 0), .int p0, .int p1] (zW s.heap.size D cA ad ty I L P) oc r0 (zW s.heap.size D cA ad ty I L P) := by
    rw [eo, er]
    exact c_X6_account l s.heap.size D cA ad ty I L P hl0 ni nc ns nt hC hI p0 p1
  have hh0 := c_L_account l s.heap.size D cA ad ty I L P 0 ht0 h160 p0 p1 hM hoc (fun H z => ⟨ad, fun _ _ _ => rfl, z⟩) h160
  refine z_ci (z_runH (As := [.ref (ad 0), .int p0, .int p1, .ref (ad 160)]) (rest := []) M hN hw.2 zh_account hh0 hw.1 rfl rfl ⟨Nat.le_of_ble_eq_true rfl, Nat.le_of_ble_eq_true rfl⟩ ⟨(by show 40 + 13 * n + 2 ≤ 601024; omega), (by show 700 + 84 * n + 12 ≤ 7293034; omega)⟩ hl.1 (Nat.le_of_ble_eq_true rfl) dL_law_1215) hw.2 (fun H locs hw1 hS => ?_)
  obtain ⟨ad2, hag, hw1⟩ := hw1
  refine W.widen (k := 40 + 13 * (n + 1)) (n := 700 + 84 * (n + 1)) (by omega) (by omega) ?_
  rw [← hag _ _ ht0, ← hag _ _ ht128, ← hag _ _ h160] at hl
  rcases hz2 with ⟨hoc0, h1, h2⟩ | ⟨hne, htn, ht3, hk⟩
  · skip
    rw [if_pos hoc0] at hw1
    obtain ⟨K, eK⟩ : ∃ X : zLt, X = zu L 160 0 r0 := ⟨_, rfl⟩
    rw [← eK] at hw1
    have hw : zH s.heap.size D cA s H locs ad2 ty I K P := ⟨hw1, hS⟩
    rw [er] at eK
    have z3 := s3_account hT hR0 hh hn5 (eo.symm.trans hoc0) h1 h2   eK
    obtain ⟨ht, hV2, hT0, hK0, hRB, hLI2, hR2⟩ := z3
    obtain ⟨T3, eT⟩ : ∃ X : zIt, X = (zu I 128 0 0) := ⟨_, rfl⟩
    obtain ⟨K3, eK3⟩ : ∃ X : zLt, X = K := ⟨_, rfl⟩
    obtain ⟨bv, ebv⟩ : ∃ X : Int64, X = K 156 (4 * p0.toNatClampNeg + p1.toNatClampNeg) := ⟨_, rfl⟩
    have hRf : zMl l s.heap.size D cA yX7_account cX7_account 4 2 43 0 0 [.ref (ad2 128), .int p0, .int p1] (zW s.heap.size D cA ad2 ty I K P) bv (zW s.heap.size D cA ad2 ty T3 K3 P) := by
      have z := c_X7_account l s.heap.size D cA ad2 ty I K P hR2 ni nc ns nt hbd hV2 p0 p1
      rw [if_pos ht, if_pos ht] at z
      rw [eT, eK3, ebv]
      exact z
    have hT0 : T3 128 0 = 0 := by rw [eT]; exact hT0
    have hKb : K3 160 0 = bv := by rw [eK3, ebv]; exact hK0.trans hRB
    have hLI2 : zLI (n + 1) ty T3 K3 P := by rw [eT, eK3]; exact hLI2
    have hty128 : ty 128 = some (7, 0) := zr_t hR2 128 7 0 (by decide)
    have hty160 : ty 160 = some (9, 1) := by obtain ⟨_, _, _, _, _, hq, -⟩ := hLI2; exact hq.2.2.1
    refine z_topi (y := 0) (by rw [hoc0]; rfl) ?_
    refine lv_istore (lv' := [(5, .int 0), (4, .int (nI (7 * n))), (3, .ref (ad2 160)), (2, .ref (ad2 128)), (1, .ref (ad2 0)), (0, .ref b)]) hx hb dL_law_1218 hl (by decide) rfl (fun ls hl => ?_)
    refine lv_aload_n hx hb dL_law_1220 rfl (lv_at hl 3 rfl) ?_
    refine lv_aload_n hx hb dL_law_1221 rfl (lv_at hl 5 rfl) ?_
    refine lv_iload hx hb dL_law_1222 (lv_at hl 1 rfl) ?_
    refine lv_iconst (v := 1) hx hb dL_law_1224 (by decide) ?_
    refine lv_iadd hx hb dL_law_1225 ?_
    refine z_sld hx hb hX hbl hw.2 (nI_add (7 * n) 1) (by omega) hL ep0 dL_law_1226 ?_
    refine lv_aload_n hx hb dL_law_1227 rfl (lv_at hl 5 rfl) ?_
    refine lv_iload hx hb dL_law_1228 (lv_at hl 1 rfl) ?_
    refine lv_iconst (v := 2) hx hb dL_law_1230 (by decide) ?_
    refine lv_iadd hx hb dL_law_1231 ?_
    refine z_sld hx hb hX hbl hw.2 (nI_add (7 * n) 2) (by omega) hL ep1 dL_law_1232 ?_
    refine z_cl0 (z_runV (As := [.int p0, .int p1]) (rest := []) M hw hty128 zc_L_135 hRf hw.1 rfl rfl ⟨Nat.le_of_ble_eq_true rfl, Nat.le_of_ble_eq_true rfl⟩ ⟨(by show 40 + 13 * (n + 1) + 0 ≤ 601024; omega), (by show 700 + 84 * (n + 1) + 0 ≤ 7293034; omega)⟩ hl.1 (Nat.le_of_ble_eq_true rfl) dL_law_1233) hw (fun H locs hw => ?_)
    refine lv_lstore (lv' := [(6, .long bv), (5, .int 0), (4, .int (nI (7 * n))), (3, .ref (ad2 160)), (2, .ref (ad2 128)), (1, .ref (ad2 0)), (0, .ref b)]) hx hb dL_law_1236 hl (by decide) rfl (fun ls hl => ?_)
    refine lv_aload_n hx hb dL_law_1238 rfl (lv_at hl 4 rfl) ?_
    refine z_ci0 (z_runV (As := []) (rest := []) M hw hty128 zc_L_83 (c_X7_thrown l s.heap.size D cA ad2 ty T3 K3 P hR2) hw.1 rfl rfl ⟨Nat.le_of_ble_eq_true rfl, Nat.le_of_ble_eq_true rfl⟩ ⟨(by show 40 + 13 * (n + 1) + 0 ≤ 601024; omega), (by show 700 + 84 * (n + 1) + 0 ≤ 7293034; omega)⟩ hl.1 (Nat.le_of_ble_eq_true rfl) dL_law_1239) hw (fun H locs hw => ?_)
    refine z_topi (y := 0) hT0 ?_
    refine lv_iload hx hb dL_law_1242 (lv_at hl 1 rfl) ?_
    refine lv_icmp_eq (tgt := 1249) hx hb dL_law_1244 (by decide) (fun c1 => ?_) (fun c1 => absurd rfl c1)
    refine lv_iload hx hb dL_law_1249 (lv_at hl 1 rfl) ?_
    refine lv_if_ne (tgt := 1265) hx hb dL_law_1251 (by decide) (fun c2 => absurd rfl c2) (fun c2 => ?_)
    refine lv_aload_n hx hb dL_law_1254 rfl (lv_at hl 3 rfl) ?_
    refine lv_iconst (v := 0) hx hb dL_law_1255 (by decide) ?_
    refine z_lald M hw hty160 (z_ix (i := 0) (k := 0) rfl ⟨by omega, by omega⟩).1 dL_law_1256 ?_
    refine z_topl (y := bv) (show K3 160 (0 : Int32).toNatClampNeg = _ from hKb) ?_
    refine lv_lload hx hb dL_law_1257 (lv_at hl 0 rfl) ?_
    refine W.lcmp hx hb dL_law_1259 ?_
    refine lv_if_eq (tgt := 1265) hx hb dL_law_1260 (by decide) (fun c3 => ?_) (fun c3 => absurd ((lg_cmp_eq _ _).mpr rfl) c3)
    refine lv_goto (tgt := 1324) hx hb dL_law_1265 (by decide) ?_
    exact kk _ _ _ _ _ _ _ _ hLI2 hw (lv_sub hl [2, 3, 4, 5, 6] rfl)
  · skip
    rw [if_neg hne] at hw1
    have hw : zH s.heap.size D cA s H locs ad2 ty I L P := ⟨hw1, hS⟩
    have htn2 : ¬ (if zlt p0 nt then (if zin p1 0 3 then 0 else 2) else 1) = 0 := by rw [← et]; exact htn
    obtain ⟨T3, eT⟩ : ∃ X : zIt, X = zu I 128 0 (nI t) := ⟨_, rfl⟩
    have hRf : zMl l s.heap.size D cA yX7_account cX7_account 4 2 43 0 0 [.ref (ad2 128), .int p0, .int p1] (zW s.heap.size D cA ad2 ty I L P) 0 (zW s.heap.size D cA ad2 ty T3 L P) := by
      have z := c_X7_account l s.heap.size D cA ad2 ty I L P hR ni nc ns nt hbd (zREL_rv hR0) p0 p1
      rw [if_neg htn2, if_neg htn2] at z
      rw [eT, et]
      exact z
    have hT0 : T3 128 0 = nI t := by rw [eT, zu_self]
    have hLI2 : zLI (n + 1) ty T3 L P := by rw [eT]; exact zLI_throw hT hR0 hh _
    have hnt : ¬ nI t = 0 := nI_ne0 (by omega) (by omega)
    refine z_topi (y := nI t) hk ?_
    refine lv_istore (lv' := [(5, .int (nI t)), (4, .int (nI (7 * n))), (3, .ref (ad2 160)), (2, .ref (ad2 128)), (1, .ref (ad2 0)), (0, .ref b)]) hx hb dL_law_1218 hl (by decide) rfl (fun ls hl => ?_)
    refine lv_aload_n hx hb dL_law_1220 rfl (lv_at hl 3 rfl) ?_
    refine lv_aload_n hx hb dL_law_1221 rfl (lv_at hl 5 rfl) ?_
    refine lv_iload hx hb dL_law_1222 (lv_at hl 1 rfl) ?_
    refine lv_iconst (v := 1) hx hb dL_law_1224 (by decide) ?_
    refine lv_iadd hx hb dL_law_1225 ?_
    refine z_sld hx hb hX hbl hw.2 (nI_add (7 * n) 1) (by omega) hL ep0 dL_law_1226 ?_
    refine lv_aload_n hx hb dL_law_1227 rfl (lv_at hl 5 rfl) ?_
    refine lv_iload hx hb dL_law_1228 (lv_at hl 1 rfl) ?_
    refine lv_iconst (v := 2) hx hb dL_law_1230 (by decide) ?_
    refine lv_iadd hx hb dL_law_1231 ?_
    refine z_sld hx hb hX hbl hw.2 (nI_add (7 * n) 2) (by omega) hL ep1 dL_law_1232 ?_
    refine z_cl0 (z_runV (As := [.int p0, .int p1]) (rest := []) M hw ht128 zc_L_135 hRf hw.1 rfl rfl ⟨Nat.le_of_ble_eq_true rfl, Nat.le_of_ble_eq_true rfl⟩ ⟨(by show 40 + 13 * (n + 1) + 0 ≤ 601024; omega), (by show 700 + 84 * (n + 1) + 0 ≤ 7293034; omega)⟩ hl.1 (Nat.le_of_ble_eq_true rfl) dL_law_1233) hw (fun H locs hw => ?_)
    refine lv_lstore (lv' := [(6, .long 0), (5, .int (nI t)), (4, .int (nI (7 * n))), (3, .ref (ad2 160)), (2, .ref (ad2 128)), (1, .ref (ad2 0)), (0, .ref b)]) hx hb dL_law_1236 hl (by decide) rfl (fun ls hl => ?_)
    refine lv_aload_n hx hb dL_law_1238 rfl (lv_at hl 4 rfl) ?_
    refine z_ci0 (z_runV (As := []) (rest := []) M hw ht128 zc_L_83 (c_X7_thrown l s.heap.size D cA ad2 ty T3 L P hR) hw.1 rfl rfl ⟨Nat.le_of_ble_eq_true rfl, Nat.le_of_ble_eq_true rfl⟩ ⟨(by show 40 + 13 * (n + 1) + 0 ≤ 601024; omega), (by show 700 + 84 * (n + 1) + 0 ≤ 7293034; omega)⟩ hl.1 (Nat.le_of_ble_eq_true rfl) dL_law_1239) hw (fun H locs hw => ?_)
    refine z_topi (y := nI t) hT0 ?_
    refine lv_iload hx hb dL_law_1242 (lv_at hl 1 rfl) ?_
    refine lv_icmp_eq (tgt := 1249) hx hb dL_law_1244 (by decide) (fun c1 => ?_) (fun c1 => absurd rfl c1)
    refine lv_iload hx hb dL_law_1249 (lv_at hl 1 rfl) ?_
    refine lv_if_ne (tgt := 1265) hx hb dL_law_1251 (by decide) (fun c2 => ?_) (fun c2 => absurd c2 hnt)
    refine lv_goto (tgt := 1324) hx hb dL_law_1265 (by decide) ?_
    exact kk _ _ _ _ _ _ _ _ hLI2 hw (lv_sub hl [2, 3, 4, 5, 6] rfl)
set_option maxHeartbeats 4000000 in
set_option maxRecDepth 100000 in
theorem z_case_reach (hl0 : l.stackTraces = false) (M : zM p s m c cL_law RL 8 s.heap.size D cA) (hN : zNcs s) (hX : va_X b Ln xs s s.heap) (hbl : b < s.heap.size) (hL : Ln ≤ 4000) (hn7 : 7 * n + 7 ≤ Ln) (hn5 : n < 512) (hLI : zLI n ty I L P) (hw : zH s.heap.size D cA s H locs ad ty I L P) (hl : lv_has ls 8 [(4, .int (nI (7 * n))), (3, .ref (ad 160)), (2, .ref (ad 128)), (1, .ref (ad 0)), (0, .ref b)])
    (kk : ∀ (H : Heap) (locs : List Loc) (ls : Array Slot) (ad : Nat → Nat) (ty : zTyp) (I : zIt) (L : zLt) (P : zPt), zLI (n + 1) ty I L P → zH s.heap.size D cA s H locs ad ty I L P → lv_has ls 8 [(4, .int (nI (7 * n))), (3, .ref (ad 160)), (2, .ref (ad 128)), (1, .ref (ad 0)), (0, .ref b)] → W p l e room_1 s m #[Value.ref b] below meth c H locs (40 + 13 * (n + 1)) (700 + 84 * (n + 1)) Q (F0 m 1324 ls [])) :
    W p l e room_1 s m #[Value.ref b] below meth c H locs (40 + 13 * n) (700 + 84 * n) Q (F0 m 1268 ls []) := by
  obtain ⟨hx, hb, -⟩ := id M
  obtain ⟨ni, nc, ns, nt, hrs, hT, hR0, hh⟩ := hLI
  obtain ⟨hC, hR, h160, hF⟩ := id hT
  have hbd := zREL_bd hR0
  obtain ⟨hb1, hb2, hb3, hb4⟩ := id hbd
  have hI := zREL_inv hR0
  have ht0 := zc_t0 hC
  have ht128 : ty 128 = some (7, 0) := zr_t hR 128 7 0 (by decide)
  obtain ⟨p0, ep0⟩ : ∃ y : Int32, y = xs (7 * n + 1) := ⟨_, rfl⟩
  refine lv_aload_n hx hb dL_law_1268 rfl (lv_at hl 3 rfl) ?_
  refine lv_aload_n hx hb dL_law_1269 rfl (lv_at hl 4 rfl) ?_
  refine lv_iload hx hb dL_law_1270 (lv_at hl 0 rfl) ?_
  refine lv_iconst (v := 1) hx hb dL_law_1272 (by decide) ?_
  refine lv_iadd hx hb dL_law_1273 ?_
  refine z_sld hx hb hX hbl hw.2 (nI_add (7 * n) 1) (by omega) hL ep0 dL_law_1274 ?_
  refine lv_aload_n hx hb dL_law_1275 rfl (lv_at hl 1 rfl) ?_
  obtain ⟨oc, eo⟩ : ∃ o : Nat, o = (zo1 p0 ni) := ⟨_, rfl⟩
  obtain ⟨t, et⟩ : ∃ o : Nat, o = (if zlt p0 ni then 0 else 1) := ⟨_, rfl⟩
  obtain ⟨r0, er⟩ : ∃ r : Int32, r = (zRer I nc (1 <<< (nI p0.toNatClampNeg &&& 31)) 9) := ⟨_, rfl⟩
  have hz : (oc = 0 ∧ t = 0 ∧ (zlt p0 ni)) ∨ (oc = 1 ∧ t = 1) := by
    rw [eo, et]
    exact zt_1 p0
  have hz2 : (oc = 0 ∧ (zlt p0 ni)) ∨ (¬ oc = 0 ∧ ¬ t = 0 ∧ t ≤ 3 ∧ ((if oc = 1 then 1 else 0) : Int32) = nI t) := by
    rcases hz with ⟨q, -, cs⟩ | ⟨q, qt⟩
    · exact Or.inl ⟨q, cs⟩
    · exact Or.inr ⟨by rw [q]; decide, by rw [qt]; decide, by rw [qt]; decide, by rw [q, qt]; rfl⟩
  have hoc : oc = 0 ∨ oc = 1 := by
    rcases hz with ⟨q, -⟩ | ⟨q, -⟩
    · exact Or.inl q
    · exact Or.inr (q)
  have hM : zXi l s.heap.size D cA yX6_reach cX6_reach 2 .int 7 111 1 6 [.ref (ad 0), .int p0] (zW s.heap.size D cA ad ty I L P) oc r0 (zW s.heap.size D cA ad ty I L P) := by
    rw [eo, er]
    exact c_X6_reach l s.heap.size D cA ad ty I L P hl0 ni nc ns nt hC hI p0
  have hh0 := c_L_reach l s.heap.size D cA ad ty I L P 0 ht0 h160 p0 hM hoc (fun H z => ⟨ad, fun _ _ _ => rfl, z⟩) h160
  refine z_ci (z_runH (As := [.ref (ad 0), .int p0, .ref (ad 160)]) (rest := []) M hN hw.2 zh_reach hh0 hw.1 rfl rfl ⟨Nat.le_of_ble_eq_true rfl, Nat.le_of_ble_eq_true rfl⟩ ⟨(by show 40 + 13 * n + 1 ≤ 601024; omega), (by show 700 + 84 * n + 6 ≤ 7293034; omega)⟩ hl.1 (Nat.le_of_ble_eq_true rfl) dL_law_1276) hw.2 (fun H locs hw1 hS => ?_)
  obtain ⟨ad2, hag, hw1⟩ := hw1
  refine W.widen (k := 40 + 13 * (n + 1)) (n := 700 + 84 * (n + 1)) (by omega) (by omega) ?_
  rw [← hag _ _ ht0, ← hag _ _ ht128, ← hag _ _ h160] at hl
  rcases hz2 with ⟨hoc0, h1⟩ | ⟨hne, htn, ht3, hk⟩
  · skip
    rw [if_pos hoc0] at hw1
    obtain ⟨K, eK⟩ : ∃ X : zLt, X = zu L 160 0 r0.toInt64 := ⟨_, rfl⟩
    rw [← eK] at hw1
    have hw : zH s.heap.size D cA s H locs ad2 ty I K P := ⟨hw1, hS⟩
    rw [er] at eK
    have z3 := s3_reach hT hR0 hh hn5 (eo.symm.trans hoc0) h1   eK
    obtain ⟨ht, hV2, hT0, hK0, hRB, hLI2, hR2⟩ := z3
    obtain ⟨T3, eT⟩ : ∃ X : zIt, X = (zs (zu I 128 0 0) 158 (zGoes (zu I 128 0 0) nc)) := ⟨_, rfl⟩
    obtain ⟨K3, eK3⟩ : ∃ X : zLt, X = (zs K 157 (zFar (zu I 128 0 0) (K 157) ni nc (nI p0.toNatClampNeg))) := ⟨_, rfl⟩
    obtain ⟨bv, ebv⟩ : ∃ X : Int32, X = zRch (zFar (zu I 128 0 0) (K 157) ni nc (nI p0.toNatClampNeg)) ni := ⟨_, rfl⟩
    have hRf : zMi l s.heap.size D cA yX7_reach cX7_reach 4 .int 2 50 0 0 [.ref (ad2 128), .int p0] (zW s.heap.size D cA ad2 ty I K P) bv (zW s.heap.size D cA ad2 ty T3 K3 P) := by
      have z := c_X7_reach l s.heap.size D cA ad2 ty I K P hR2 ni nc ns nt hbd hV2 p0
      rw [if_pos ht, if_pos ht, if_pos ht] at z
      rw [eT, eK3, ebv]
      exact z
    have hT0 : T3 128 0 = 0 := by rw [eT]; exact hT0
    have hKb : K3 160 0 = bv.toInt64 := by rw [eK3, ebv]; exact hK0.trans hRB
    have hLI2 : zLI (n + 1) ty T3 K3 P := by rw [eT, eK3]; exact hLI2
    have hty128 : ty 128 = some (7, 0) := zr_t hR2 128 7 0 (by decide)
    have hty160 : ty 160 = some (9, 1) := by obtain ⟨_, _, _, _, _, hq, -⟩ := hLI2; exact hq.2.2.1
    refine z_topi (y := 0) (by rw [hoc0]; rfl) ?_
    refine lv_istore (lv' := [(5, .int 0), (4, .int (nI (7 * n))), (3, .ref (ad2 160)), (2, .ref (ad2 128)), (1, .ref (ad2 0)), (0, .ref b)]) hx hb dL_law_1279 hl (by decide) rfl (fun ls hl => ?_)
    refine lv_aload_n hx hb dL_law_1281 rfl (lv_at hl 3 rfl) ?_
    refine lv_aload_n hx hb dL_law_1282 rfl (lv_at hl 5 rfl) ?_
    refine lv_iload hx hb dL_law_1283 (lv_at hl 1 rfl) ?_
    refine lv_iconst (v := 1) hx hb dL_law_1285 (by decide) ?_
    refine lv_iadd hx hb dL_law_1286 ?_
    refine z_sld hx hb hX hbl hw.2 (nI_add (7 * n) 1) (by omega) hL ep0 dL_law_1287 ?_
    refine z_ci0 (z_runV (As := [.int p0]) (rest := []) M hw hty128 zc_L_138 hRf hw.1 rfl rfl ⟨Nat.le_of_ble_eq_true rfl, Nat.le_of_ble_eq_true rfl⟩ ⟨(by show 40 + 13 * (n + 1) + 0 ≤ 601024; omega), (by show 700 + 84 * (n + 1) + 0 ≤ 7293034; omega)⟩ hl.1 (Nat.le_of_ble_eq_true rfl) dL_law_1288) hw (fun H locs hw => ?_)
    refine lv_istore (lv' := [(6, .int bv), (5, .int 0), (4, .int (nI (7 * n))), (3, .ref (ad2 160)), (2, .ref (ad2 128)), (1, .ref (ad2 0)), (0, .ref b)]) hx hb dL_law_1291 hl (by decide) rfl (fun ls hl => ?_)
    refine lv_aload_n hx hb dL_law_1293 rfl (lv_at hl 4 rfl) ?_
    refine z_ci0 (z_runV (As := []) (rest := []) M hw hty128 zc_L_83 (c_X7_thrown l s.heap.size D cA ad2 ty T3 K3 P hR2) hw.1 rfl rfl ⟨Nat.le_of_ble_eq_true rfl, Nat.le_of_ble_eq_true rfl⟩ ⟨(by show 40 + 13 * (n + 1) + 0 ≤ 601024; omega), (by show 700 + 84 * (n + 1) + 0 ≤ 7293034; omega)⟩ hl.1 (Nat.le_of_ble_eq_true rfl) dL_law_1294) hw (fun H locs hw => ?_)
    refine z_topi (y := 0) hT0 ?_
    refine lv_iload hx hb dL_law_1297 (lv_at hl 1 rfl) ?_
    refine lv_icmp_eq (tgt := 1304) hx hb dL_law_1299 (by decide) (fun c1 => ?_) (fun c1 => absurd rfl c1)
    refine lv_iload hx hb dL_law_1304 (lv_at hl 1 rfl) ?_
    refine lv_if_ne (tgt := 1321) hx hb dL_law_1306 (by decide) (fun c2 => absurd rfl c2) (fun c2 => ?_)
    refine lv_aload_n hx hb dL_law_1309 rfl (lv_at hl 3 rfl) ?_
    refine lv_iconst (v := 0) hx hb dL_law_1310 (by decide) ?_
    refine z_lald M hw hty160 (z_ix (i := 0) (k := 0) rfl ⟨by omega, by omega⟩).1 dL_law_1311 ?_
    refine z_topl (y := bv.toInt64) (show K3 160 (0 : Int32).toNatClampNeg = _ from hKb) ?_
    refine lv_iload hx hb dL_law_1312 (lv_at hl 0 rfl) ?_
    refine lv_i2l hx hb dL_law_1314 rfl ?_
    refine W.lcmp hx hb dL_law_1315 ?_
    refine lv_if_eq (tgt := 1321) hx hb dL_law_1316 (by decide) (fun c3 => ?_) (fun c3 => absurd ((lg_cmp_eq _ _).mpr rfl) c3)
    refine lv_goto (tgt := 1324) hx hb dL_law_1321 (by decide) ?_
    exact kk _ _ _ _ _ _ _ _ hLI2 hw (lv_sub hl [2, 3, 4, 5, 6] rfl)
  · skip
    rw [if_neg hne] at hw1
    have hw : zH s.heap.size D cA s H locs ad2 ty I L P := ⟨hw1, hS⟩
    have htn2 : ¬ (if zlt p0 ni then 0 else 1) = 0 := by rw [← et]; exact htn
    obtain ⟨T3, eT⟩ : ∃ X : zIt, X = zu I 128 0 (nI t) := ⟨_, rfl⟩
    have hRf : zMi l s.heap.size D cA yX7_reach cX7_reach 4 .int 2 50 0 0 [.ref (ad2 128), .int p0] (zW s.heap.size D cA ad2 ty I L P) 0 (zW s.heap.size D cA ad2 ty T3 L P) := by
      have z := c_X7_reach l s.heap.size D cA ad2 ty I L P hR ni nc ns nt hbd (zREL_rv hR0) p0
      rw [if_neg htn2, if_neg htn2, if_neg htn2] at z
      rw [eT, et]
      exact z
    have hT0 : T3 128 0 = nI t := by rw [eT, zu_self]
    have hLI2 : zLI (n + 1) ty T3 L P := by rw [eT]; exact zLI_throw hT hR0 hh _
    have hnt : ¬ nI t = 0 := nI_ne0 (by omega) (by omega)
    refine z_topi (y := nI t) hk ?_
    refine lv_istore (lv' := [(5, .int (nI t)), (4, .int (nI (7 * n))), (3, .ref (ad2 160)), (2, .ref (ad2 128)), (1, .ref (ad2 0)), (0, .ref b)]) hx hb dL_law_1279 hl (by decide) rfl (fun ls hl => ?_)
    refine lv_aload_n hx hb dL_law_1281 rfl (lv_at hl 3 rfl) ?_
    refine lv_aload_n hx hb dL_law_1282 rfl (lv_at hl 5 rfl) ?_
    refine lv_iload hx hb dL_law_1283 (lv_at hl 1 rfl) ?_
    refine lv_iconst (v := 1) hx hb dL_law_1285 (by decide) ?_
    refine lv_iadd hx hb dL_law_1286 ?_
    refine z_sld hx hb hX hbl hw.2 (nI_add (7 * n) 1) (by omega) hL ep0 dL_law_1287 ?_
    refine z_ci0 (z_runV (As := [.int p0]) (rest := []) M hw ht128 zc_L_138 hRf hw.1 rfl rfl ⟨Nat.le_of_ble_eq_true rfl, Nat.le_of_ble_eq_true rfl⟩ ⟨(by show 40 + 13 * (n + 1) + 0 ≤ 601024; omega), (by show 700 + 84 * (n + 1) + 0 ≤ 7293034; omega)⟩ hl.1 (Nat.le_of_ble_eq_true rfl) dL_law_1288) hw (fun H locs hw => ?_)
    refine lv_istore (lv' := [(6, .int 0), (5, .int (nI t)), (4, .int (nI (7 * n))), (3, .ref (ad2 160)), (2, .ref (ad2 128)), (1, .ref (ad2 0)), (0, .ref b)]) hx hb dL_law_1291 hl (by decide) rfl (fun ls hl => ?_)
    refine lv_aload_n hx hb dL_law_1293 rfl (lv_at hl 4 rfl) ?_
    refine z_ci0 (z_runV (As := []) (rest := []) M hw ht128 zc_L_83 (c_X7_thrown l s.heap.size D cA ad2 ty T3 L P hR) hw.1 rfl rfl ⟨Nat.le_of_ble_eq_true rfl, Nat.le_of_ble_eq_true rfl⟩ ⟨(by show 40 + 13 * (n + 1) + 0 ≤ 601024; omega), (by show 700 + 84 * (n + 1) + 0 ≤ 7293034; omega)⟩ hl.1 (Nat.le_of_ble_eq_true rfl) dL_law_1294) hw (fun H locs hw => ?_)
    refine z_topi (y := nI t) hT0 ?_
    refine lv_iload hx hb dL_law_1297 (lv_at hl 1 rfl) ?_
    refine lv_icmp_eq (tgt := 1304) hx hb dL_law_1299 (by decide) (fun c1 => ?_) (fun c1 => absurd rfl c1)
    refine lv_iload hx hb dL_law_1304 (lv_at hl 1 rfl) ?_
    refine lv_if_ne (tgt := 1321) hx hb dL_law_1306 (by decide) (fun c2 => ?_) (fun c2 => absurd c2 hnt)
    refine lv_goto (tgt := 1324) hx hb dL_law_1321 (by decide) ?_
    exact kk _ _ _ _ _ _ _ _ hLI2 hw (lv_sub hl [2, 3, 4, 5, 6] rfl)
end ZLW
