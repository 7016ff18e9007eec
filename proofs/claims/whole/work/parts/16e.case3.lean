/-! THE LAW'S CASES (laid by m_law3.py) -/
section ZLW
variable {p : Program} {l : Launch} {e : Env} {s : State} {m : MethodId} {below : List Frame} {meth : Method} {c : Code} {H : Heap} {locs : List Loc} {Q : State → Prop} {b Ln : Nat} {xs : Nat → Int32} {D : va_G} {cA : Nat → ClassId} {ad : Nat → Nat} {ty : zTyp} {I : zIt} {L : zLt} {P : zPt} {ls : Array Slot} {n : Nat}
set_option maxHeartbeats 4000000 in
set_option maxRecDepth 100000 in
theorem z_case_pass (hl0 : l.stackTraces = false) (M : zM p s m c cL_law RL 8 s.heap.size D cA) (hN : zNcs s) (hX : va_X b Ln xs s s.heap) (hbl : b < s.heap.size) (hL : Ln ≤ 4000) (hn7 : 7 * n + 7 ≤ Ln) (hn5 : n < 512) (hLI : zLI n ty I L P) (hw : zH s.heap.size D cA s H locs ad ty I L P) (hl : lv_has ls 8 [(4, .int (nI (7 * n))), (3, .ref (ad 160)), (2, .ref (ad 128)), (1, .ref (ad 0)), (0, .ref b)])
    (kk : ∀ (H : Heap) (locs : List Loc) (ls : Array Slot) (ad : Nat → Nat) (ty : zTyp) (I : zIt) (L : zLt) (P : zPt), zLI (n + 1) ty I L P → zH s.heap.size D cA s H locs ad ty I L P → lv_has ls 8 [(4, .int (nI (7 * n))), (3, .ref (ad 160)), (2, .ref (ad 128)), (1, .ref (ad 0)), (0, .ref b)] → W p l e room_1 s m #[Value.ref b] below meth c H locs (40 + 13 * (n + 1)) (700 + 84 * (n + 1)) Q (F0 m 1324 ls [])) :
    W p l e room_1 s m #[Value.ref b] below meth c H locs (40 + 13 * n) (700 + 84 * n) Q (F0 m 766 ls []) := by
  obtain ⟨hx, hb, -⟩ := id M
  obtain ⟨ni, nc, ns, nt, hrs, hT, hR0, hh⟩ := hLI
  obtain ⟨hC, hR, h160, hF⟩ := id hT
  have hbd := zREL_bd hR0
  obtain ⟨hb1, hb2, hb3, hb4⟩ := id hbd
  have hI := zREL_inv hR0
  have ht0 := zc_t0 hC
  have ht128 : ty 128 = some (7, 0) := zr_t hR 128 7 0 (by decide)
  obtain ⟨p0, ep0⟩ : ∃ y : Int32, y = xs (7 * n + 1) := ⟨_, rfl⟩
  refine lv_aload_n hx hb dL_law_766 rfl (lv_at hl 3 rfl) ?_
  refine lv_aload_n hx hb dL_law_767 rfl (lv_at hl 4 rfl) ?_
  refine lv_iload hx hb dL_law_768 (lv_at hl 0 rfl) ?_
  refine lv_iconst (v := 1) hx hb dL_law_770 (by decide) ?_
  refine lv_iadd hx hb dL_law_771 ?_
  refine z_sld hx hb hX hbl hw.2 (nI_add (7 * n) 1) (by omega) hL ep0 dL_law_772 ?_
  refine lv_aload_n hx hb dL_law_773 rfl (lv_at hl 1 rfl) ?_
  obtain ⟨oc, eo⟩ : ∃ o : Nat, o = (zo2 p0 1 500) := ⟨_, rfl⟩
  obtain ⟨t, et⟩ : ∃ o : Nat, o = (if zin p0 1 500 then 0 else 1) := ⟨_, rfl⟩
  obtain ⟨r0, er⟩ : ∃ r : Int32, r = ((zHrs nc ns nt (I, L) p0.toNatClampNeg).1 0 8) := ⟨_, rfl⟩
  have hz : (oc = 0 ∧ t = 0 ∧ (zin p0 1 500)) ∨ (oc = 2 ∧ t = 1) := by
    rw [eo, et]
    exact zt_pass p0
  have hz2 : (oc = 0 ∧ (zin p0 1 500)) ∨ (¬ oc = 0 ∧ ¬ t = 0 ∧ t ≤ 3 ∧ ((if oc = 2 then 1 else 0) : Int32) = nI t) := by
    rcases hz with ⟨q, -, cs⟩ | ⟨q, qt⟩
    · exact Or.inl ⟨q, cs⟩
    · exact Or.inr ⟨by rw [q]; decide, by rw [qt]; decide, by rw [qt]; decide, by rw [q, qt]; rfl⟩
  have hoc : oc = 0 ∨ oc = 2 := by
    rcases hz with ⟨q, -⟩ | ⟨q, -⟩
    · exact Or.inl q
    · exact Or.inr (q)
  obtain ⟨I2, e1⟩ : ∃ X : zIt, X = (zHrs nc ns nt (I, L) p0.toNatClampNeg).1 := ⟨_, rfl⟩
  obtain ⟨L2, e2⟩ : ∃ X : zLt, X = (zHrs nc ns nt (I, L) p0.toNatClampNeg).2 := ⟨_, rfl⟩
  have hM : zXi l s.heap.size D cA yX6_pass cX6_pass 3 .int 7 138 1 6 [.ref (ad 0), .int p0] (zW s.heap.size D cA ad ty I L P) oc r0 (zW s.heap.size D cA ad ty I2 L2 P) := by
    rw [eo, er, e1, e2]
    exact c_X6_pass l s.heap.size D cA ad ty I L P hl0 ni nc ns nt hC hI (zFin_ok nc) p0
  have hh0 := c_L_pass l s.heap.size D cA ad ty I L P 0 ht0 h160 p0 hM hoc (fun H z => ⟨ad, fun _ _ _ => rfl, z⟩) h160
  refine z_ci (z_runH (As := [.ref (ad 0), .int p0, .ref (ad 160)]) (rest := []) M hN hw.2 zh_pass hh0 hw.1 rfl rfl ⟨Nat.le_of_ble_eq_true rfl, Nat.le_of_ble_eq_true rfl⟩ ⟨(by show 40 + 13 * n + 1 ≤ 601024; omega), (by show 700 + 84 * n + 6 ≤ 7293034; omega)⟩ hl.1 (Nat.le_of_ble_eq_true rfl) dL_law_774) hw.2 (fun H locs hw1 hS => ?_)
  obtain ⟨ad2, hag, hw1⟩ := hw1
  refine W.widen (k := 40 + 13 * (n + 1)) (n := 700 + 84 * (n + 1)) (by omega) (by omega) ?_
  rw [← hag _ _ ht0, ← hag _ _ ht128, ← hag _ _ h160] at hl
  rcases hz2 with ⟨hoc0, h1⟩ | ⟨hne, htn, ht3, hk⟩
  · skip
    rw [if_pos hoc0] at hw1
    obtain ⟨K, eK⟩ : ∃ X : zLt, X = zu L2 160 0 r0.toInt64 := ⟨_, rfl⟩
    rw [← eK] at hw1
    have hw : zH s.heap.size D cA s H locs ad2 ty I2 K P := ⟨hw1, hS⟩
    rw [er] at eK
    have z3 := s3_pass hT hR0 hh hn5 (eo.symm.trans hoc0) h1 e1 e2  eK
    obtain ⟨ht, hV2, hT0, hK0, hRB, hLI2, hR2⟩ := z3
    obtain ⟨T3, eT⟩ : ∃ X : zIt, X = (zRhrs ni nc ns nt ((zu I2 128 0 0), K) p0.toNatClampNeg).1 := ⟨_, rfl⟩
    obtain ⟨K3, eK3⟩ : ∃ X : zLt, X = (zRhrs ni nc ns nt ((zu I2 128 0 0), K) p0.toNatClampNeg).2 := ⟨_, rfl⟩
    obtain ⟨bv, ebv⟩ : ∃ X : Int32, X = (zRhrs ni nc ns nt ((zu I2 128 0 0), K) p0.toNatClampNeg).1 128 1 := ⟨_, rfl⟩
    have hRf : zMi l s.heap.size D cA yX7_pass cX7_pass 4 .int 3 76 0 0 [.ref (ad2 128), .int p0] (zW s.heap.size D cA ad2 ty I2 K P) bv (zW s.heap.size D cA ad2 ty T3 K3 P) := by
      have z := c_X7_pass l s.heap.size D cA ad2 ty I2 K P hR2 ni nc ns nt hbd hV2 p0
      rw [if_pos ht, if_pos ht, if_pos ht] at z
      rw [eT, eK3, ebv]
      exact z
    have hT0 : T3 128 0 = 0 := by rw [eT]; exact hT0
    have hKb : K3 160 0 = bv.toInt64 := by rw [eK3, ebv]; exact hK0.trans hRB
    have hLI2 : zLI (n + 1) ty T3 K3 P := by rw [eT, eK3]; exact hLI2
    have hty128 : ty 128 = some (7, 0) := zr_t hR2 128 7 0 (by decide)
    have hty160 : ty 160 = some (9, 1) := by obtain ⟨_, _, _, _, _, hq, -⟩ := hLI2; exact hq.2.2.1
    refine z_topi (y := 0) (by rw [hoc0]; rfl) ?_
    refine lv_istore (lv' := [(5, .int 0), (4, .int (nI (7 * n))), (3, .ref (ad2 160)), (2, .ref (ad2 128)), (1, .ref (ad2 0)), (0, .ref b)]) hx hb dL_law_777 hl (by decide) rfl (fun ls hl => ?_)
    refine lv_aload_n hx hb dL_law_779 rfl (lv_at hl 3 rfl) ?_
    refine lv_aload_n hx hb dL_law_780 rfl (lv_at hl 5 rfl) ?_
    refine lv_iload hx hb dL_law_781 (lv_at hl 1 rfl) ?_
    refine lv_iconst (v := 1) hx hb dL_law_783 (by decide) ?_
    refine lv_iadd hx hb dL_law_784 ?_
    refine z_sld hx hb hX hbl hw.2 (nI_add (7 * n) 1) (by omega) hL ep0 dL_law_785 ?_
    refine z_ci0 (z_runV (As := [.int p0]) (rest := []) M hw hty128 zc_L_114 hRf hw.1 rfl rfl ⟨Nat.le_of_ble_eq_true rfl, Nat.le_of_ble_eq_true rfl⟩ ⟨(by show 40 + 13 * (n + 1) + 0 ≤ 601024; omega), (by show 700 + 84 * (n + 1) + 0 ≤ 7293034; omega)⟩ hl.1 (Nat.le_of_ble_eq_true rfl) dL_law_786) hw (fun H locs hw => ?_)
    refine lv_istore (lv' := [(6, .int bv), (5, .int 0), (4, .int (nI (7 * n))), (3, .ref (ad2 160)), (2, .ref (ad2 128)), (1, .ref (ad2 0)), (0, .ref b)]) hx hb dL_law_789 hl (by decide) rfl (fun ls hl => ?_)
    refine lv_aload_n hx hb dL_law_791 rfl (lv_at hl 4 rfl) ?_
    refine z_ci0 (z_runV (As := []) (rest := []) M hw hty128 zc_L_83 (c_X7_thrown l s.heap.size D cA ad2 ty T3 K3 P hR2) hw.1 rfl rfl ⟨Nat.le_of_ble_eq_true rfl, Nat.le_of_ble_eq_true rfl⟩ ⟨(by show 40 + 13 * (n + 1) + 0 ≤ 601024; omega), (by show 700 + 84 * (n + 1) + 0 ≤ 7293034; omega)⟩ hl.1 (Nat.le_of_ble_eq_true rfl) dL_law_792) hw (fun H locs hw => ?_)
    refine z_topi (y := 0) hT0 ?_
    refine lv_iload hx hb dL_law_795 (lv_at hl 1 rfl) ?_
    refine lv_icmp_eq (tgt := 802) hx hb dL_law_797 (by decide) (fun c1 => ?_) (fun c1 => absurd rfl c1)
    refine lv_iload hx hb dL_law_802 (lv_at hl 1 rfl) ?_
    refine lv_if_ne (tgt := 819) hx hb dL_law_804 (by decide) (fun c2 => absurd rfl c2) (fun c2 => ?_)
    refine lv_aload_n hx hb dL_law_807 rfl (lv_at hl 3 rfl) ?_
    refine lv_iconst (v := 0) hx hb dL_law_808 (by decide) ?_
    refine z_lald M hw hty160 (z_ix (i := 0) (k := 0) rfl ⟨by omega, by omega⟩).1 dL_law_809 ?_
    refine z_topl (y := bv.toInt64) (show K3 160 (0 : Int32).toNatClampNeg = _ from hKb) ?_
    refine lv_iload hx hb dL_law_810 (lv_at hl 0 rfl) ?_
    refine lv_i2l hx hb dL_law_812 rfl ?_
    refine W.lcmp hx hb dL_law_813 ?_
    refine lv_if_eq (tgt := 819) hx hb dL_law_814 (by decide) (fun c3 => ?_) (fun c3 => absurd ((lg_cmp_eq _ _).mpr rfl) c3)
    refine lv_goto (tgt := 1324) hx hb dL_law_819 (by decide) ?_
    exact kk _ _ _ _ _ _ _ _ hLI2 hw (lv_sub hl [2, 3, 4, 5, 6] rfl)
  · skip
    rw [if_neg hne] at hw1
    have hw : zH s.heap.size D cA s H locs ad2 ty I L P := ⟨hw1, hS⟩
    have htn2 : ¬ (if zin p0 1 500 then 0 else 1) = 0 := by rw [← et]; exact htn
    obtain ⟨T3, eT⟩ : ∃ X : zIt, X = zu I 128 0 (nI t) := ⟨_, rfl⟩
    have hRf : zMi l s.heap.size D cA yX7_pass cX7_pass 4 .int 3 76 0 0 [.ref (ad2 128), .int p0] (zW s.heap.size D cA ad2 ty I L P) 0 (zW s.heap.size D cA ad2 ty T3 L P) := by
      have z := c_X7_pass l s.heap.size D cA ad2 ty I L P hR ni nc ns nt hbd (zREL_rv hR0) p0
      rw [if_neg htn2, if_neg htn2, if_neg htn2] at z
      have h1 : t = 1 := by
        rcases hz with ⟨q, -⟩ | ⟨-, q⟩
        · exact absurd q hne
        · exact q
      rw [eT, h1]
      exact z
    have hT0 : T3 128 0 = nI t := by rw [eT, zu_self]
    have hLI2 : zLI (n + 1) ty T3 L P := by rw [eT]; exact zLI_throw hT hR0 hh _
    have hnt : ¬ nI t = 0 := nI_ne0 (by omega) (by omega)
    refine z_topi (y := nI t) hk ?_
    refine lv_istore (lv' := [(5, .int (nI t)), (4, .int (nI (7 * n))), (3, .ref (ad2 160)), (2, .ref (ad2 128)), (1, .ref (ad2 0)), (0, .ref b)]) hx hb dL_law_777 hl (by decide) rfl (fun ls hl => ?_)
    refine lv_aload_n hx hb dL_law_779 rfl (lv_at hl 3 rfl) ?_
    refine lv_aload_n hx hb dL_law_780 rfl (lv_at hl 5 rfl) ?_
    refine lv_iload hx hb dL_law_781 (lv_at hl 1 rfl) ?_
    refine lv_iconst (v := 1) hx hb dL_law_783 (by decide) ?_
    refine lv_iadd hx hb dL_law_784 ?_
    refine z_sld hx hb hX hbl hw.2 (nI_add (7 * n) 1) (by omega) hL ep0 dL_law_785 ?_
    refine z_ci0 (z_runV (As := [.int p0]) (rest := []) M hw ht128 zc_L_114 hRf hw.1 rfl rfl ⟨Nat.le_of_ble_eq_true rfl, Nat.le_of_ble_eq_true rfl⟩ ⟨(by show 40 + 13 * (n + 1) + 0 ≤ 601024; omega), (by show 700 + 84 * (n + 1) + 0 ≤ 7293034; omega)⟩ hl.1 (Nat.le_of_ble_eq_true rfl) dL_law_786) hw (fun H locs hw => ?_)
    refine lv_istore (lv' := [(6, .int 0), (5, .int (nI t)), (4, .int (nI (7 * n))), (3, .ref (ad2 160)), (2, .ref (ad2 128)), (1, .ref (ad2 0)), (0, .ref b)]) hx hb dL_law_789 hl (by decide) rfl (fun ls hl => ?_)
    refine lv_aload_n hx hb dL_law_791 rfl (lv_at hl 4 rfl) ?_
    refine z_ci0 (z_runV (As := []) (rest := []) M hw ht128 zc_L_83 (c_X7_thrown l s.heap.size D cA ad2 ty T3 L P hR) hw.1 rfl rfl ⟨Nat.le_of_ble_eq_true rfl, Nat.le_of_ble_eq_true rfl⟩ ⟨(by show 40 + 13 * (n + 1) + 0 ≤ 601024; omega), (by show 700 + 84 * (n + 1) + 0 ≤ 7293034; omega)⟩ hl.1 (Nat.le_of_ble_eq_true rfl) dL_law_792) hw (fun H locs hw => ?_)
    refine z_topi (y := nI t) hT0 ?_
    refine lv_iload hx hb dL_law_795 (lv_at hl 1 rfl) ?_
    refine lv_icmp_eq (tgt := 802) hx hb dL_law_797 (by decide) (fun c1 => ?_) (fun c1 => absurd rfl c1)
    refine lv_iload hx hb dL_law_802 (lv_at hl 1 rfl) ?_
    refine lv_if_ne (tgt := 819) hx hb dL_law_804 (by decide) (fun c2 => ?_) (fun c2 => absurd c2 hnt)
    refine lv_goto (tgt := 1324) hx hb dL_law_819 (by decide) ?_
    exact kk _ _ _ _ _ _ _ _ hLI2 hw (lv_sub hl [2, 3, 4, 5, 6] rfl)
set_option maxHeartbeats 4000000 in
set_option maxRecDepth 100000 in
theorem z_case_works (hl0 : l.stackTraces = false) (M : zM p s m c cL_law RL 8 s.heap.size D cA) (hN : zNcs s) (hX : va_X b Ln xs s s.heap) (hbl : b < s.heap.size) (hL : Ln ≤ 4000) (hn7 : 7 * n + 7 ≤ Ln) (hn5 : n < 512) (hLI : zLI n ty I L P) (hw : zH s.heap.size D cA s H locs ad ty I L P) (hl : lv_has ls 8 [(4, .int (nI (7 * n))), (3, .ref (ad 160)), (2, .ref (ad 128)), (1, .ref (ad 0)), (0, .ref b)])
    (kk : ∀ (H : Heap) (locs : List Loc) (ls : Array Slot) (ad : Nat → Nat) (ty : zTyp) (I : zIt) (L : zLt) (P : zPt), zLI (n + 1) ty I L P → zH s.heap.size D cA s H locs ad ty I L P → lv_has ls 8 [(4, .int (nI (7 * n))), (3, .ref (ad 160)), (2, .ref (ad 128)), (1, .ref (ad 0)), (0, .ref b)] → W p l e room_1 s m #[Value.ref b] below meth c H locs (40 + 13 * (n + 1)) (700 + 84 * (n + 1)) Q (F0 m 1324 ls [])) :
    W p l e room_1 s m #[Value.ref b] below meth c H locs (40 + 13 * n) (700 + 84 * n) Q (F0 m 822 ls []) := by
  obtain ⟨hx, hb, -⟩ := id M
  obtain ⟨ni, nc, ns, nt, hrs, hT, hR0, hh⟩ := hLI
  obtain ⟨hC, hR, h160, hF⟩ := id hT
  have hbd := zREL_bd hR0
  obtain ⟨hb1, hb2, hb3, hb4⟩ := id hbd
  have hI := zREL_inv hR0
  have ht0 := zc_t0 hC
  have ht128 : ty 128 = some (7, 0) := zr_t hR 128 7 0 (by decide)
  obtain ⟨p0, ep0⟩ : ∃ y : Int32, y = xs (7 * n + 1) := ⟨_, rfl⟩
  refine lv_aload_n hx hb dL_law_822 rfl (lv_at hl 3 rfl) ?_
  refine lv_aload_n hx hb dL_law_823 rfl (lv_at hl 4 rfl) ?_
  refine lv_iload hx hb dL_law_824 (lv_at hl 0 rfl) ?_
  refine lv_iconst (v := 1) hx hb dL_law_826 (by decide) ?_
  refine lv_iadd hx hb dL_law_827 ?_
  refine z_sld hx hb hX hbl hw.2 (nI_add (7 * n) 1) (by omega) hL ep0 dL_law_828 ?_
  refine lv_aload_n hx hb dL_law_829 rfl (lv_at hl 1 rfl) ?_
  obtain ⟨oc, eo⟩ : ∃ o : Nat, o = (zo1 p0 nc) := ⟨_, rfl⟩
  obtain ⟨t, et⟩ : ∃ o : Nat, o = (if zlt p0 nc then 0 else 1) := ⟨_, rfl⟩
  obtain ⟨r0, er⟩ : ∃ r : Int32, r = (zb (I (32 + p0.toNatClampNeg) 5 = 0)) := ⟨_, rfl⟩
  have hz : (oc = 0 ∧ t = 0 ∧ (zlt p0 nc)) ∨ (oc = 1 ∧ t = 1) := by
    rw [eo, et]
    exact zt_1 p0
  have hz2 : (oc = 0 ∧ (zlt p0 nc)) ∨ (¬ oc = 0 ∧ ¬ t = 0 ∧ t ≤ 3 ∧ ((if oc = 1 then 1 else 0) : Int32) = nI t) := by
    rcases hz with ⟨q, -, cs⟩ | ⟨q, qt⟩
    · exact Or.inl ⟨q, cs⟩
    · exact Or.inr ⟨by rw [q]; decide, by rw [qt]; decide, by rw [qt]; decide, by rw [q, qt]; rfl⟩
  have hoc : oc = 0 ∨ oc = 1 := by
    rcases hz with ⟨q, -⟩ | ⟨q, -⟩
    · exact Or.inl q
    · exact Or.inr (q)
  have hM : zXi l s.heap.size D cA yX6_works cX6_works 2 .boolean 7 111 1 6 [.ref (ad 0), .int p0] (zW s.heap.size D cA ad ty I L P) oc r0 (zW s.heap.size D cA ad ty I L P) := by
    rw [eo, er]
    exact c_X6_works l s.heap.size D cA ad ty I L P hl0 ni nc ns nt hC hI p0
  have hh0 := c_L_works l s.heap.size D cA ad ty I L P 0 ht0 h160 p0 hM hoc (fun H z => ⟨ad, fun _ _ _ => rfl, z⟩) h160
  refine z_ci (z_runH (As := [.ref (ad 0), .int p0, .ref (ad 160)]) (rest := []) M hN hw.2 zh_works hh0 hw.1 rfl rfl ⟨Nat.le_of_ble_eq_true rfl, Nat.le_of_ble_eq_true rfl⟩ ⟨(by show 40 + 13 * n + 1 ≤ 601024; omega), (by show 700 + 84 * n + 6 ≤ 7293034; omega)⟩ hl.1 (Nat.le_of_ble_eq_true rfl) dL_law_830) hw.2 (fun H locs hw1 hS => ?_)
  obtain ⟨ad2, hag, hw1⟩ := hw1
  refine W.widen (k := 40 + 13 * (n + 1)) (n := 700 + 84 * (n + 1)) (by omega) (by omega) ?_
  rw [← hag _ _ ht0, ← hag _ _ ht128, ← hag _ _ h160] at hl
  rcases hz2 with ⟨hoc0, h1⟩ | ⟨hne, htn, ht3, hk⟩
  · skip
    rw [if_pos hoc0] at hw1
    obtain ⟨K, eK⟩ : ∃ X : zLt, X = zu L 160 0 (if r0 = 0 then 0 else 1 : Int64) := ⟨_, rfl⟩
    rw [← eK] at hw1
    have hw : zH s.heap.size D cA s H locs ad2 ty I K P := ⟨hw1, hS⟩
    rw [er] at eK
    have z3 := s3_works hT hR0 hh hn5 (eo.symm.trans hoc0) h1   eK
    obtain ⟨ht, hV2, hT0, hK0, hRB, hLI2, hR2⟩ := z3
    obtain ⟨T3, eT⟩ : ∃ X : zIt, X = (zu I 128 0 0) := ⟨_, rfl⟩
    obtain ⟨K3, eK3⟩ : ∃ X : zLt, X = K := ⟨_, rfl⟩
    obtain ⟨bv, ebv⟩ : ∃ X : Int32, X = zb (zDwb (zu I 128 0 0) (nI p0.toNatClampNeg) = true) := ⟨_, rfl⟩
    have hRf : zMi l s.heap.size D cA yX7_works cX7_works 2 .boolean 2 43 0 0 [.ref (ad2 128), .int p0] (zW s.heap.size D cA ad2 ty I K P) bv (zW s.heap.size D cA ad2 ty T3 K3 P) := by
      have z := c_X7_works l s.heap.size D cA ad2 ty I K P hR2 ni nc ns nt hbd hV2 p0
      rw [if_pos ht, if_pos ht] at z
      rw [eT, eK3, ebv]
      exact z
    have hT0 : T3 128 0 = 0 := by rw [eT]; exact hT0
    have hKb : K3 160 0 = (if bv = 0 then 0 else 1 : Int64) := by rw [eK3, ebv]; exact hK0.trans hRB
    have hLI2 : zLI (n + 1) ty T3 K3 P := by rw [eT, eK3]; exact hLI2
    have hty128 : ty 128 = some (7, 0) := zr_t hR2 128 7 0 (by decide)
    have hty160 : ty 160 = some (9, 1) := by obtain ⟨_, _, _, _, _, hq, -⟩ := hLI2; exact hq.2.2.1
    refine z_topi (y := 0) (by rw [hoc0]; rfl) ?_
    refine lv_istore (lv' := [(5, .int 0), (4, .int (nI (7 * n))), (3, .ref (ad2 160)), (2, .ref (ad2 128)), (1, .ref (ad2 0)), (0, .ref b)]) hx hb dL_law_833 hl (by decide) rfl (fun ls hl => ?_)
    refine lv_aload_n hx hb dL_law_835 rfl (lv_at hl 3 rfl) ?_
    refine lv_aload_n hx hb dL_law_836 rfl (lv_at hl 5 rfl) ?_
    refine lv_iload hx hb dL_law_837 (lv_at hl 1 rfl) ?_
    refine lv_iconst (v := 1) hx hb dL_law_839 (by decide) ?_
    refine lv_iadd hx hb dL_law_840 ?_
    refine z_sld hx hb hX hbl hw.2 (nI_add (7 * n) 1) (by omega) hL ep0 dL_law_841 ?_
    refine z_ci0 (z_runV (As := [.int p0]) (rest := []) M hw hty128 zc_L_117 hRf hw.1 rfl rfl ⟨Nat.le_of_ble_eq_true rfl, Nat.le_of_ble_eq_true rfl⟩ ⟨(by show 40 + 13 * (n + 1) + 0 ≤ 601024; omega), (by show 700 + 84 * (n + 1) + 0 ≤ 7293034; omega)⟩ hl.1 (Nat.le_of_ble_eq_true rfl) dL_law_842) hw (fun H locs hw => ?_)
    refine lv_istore (lv' := [(6, .int bv), (5, .int 0), (4, .int (nI (7 * n))), (3, .ref (ad2 160)), (2, .ref (ad2 128)), (1, .ref (ad2 0)), (0, .ref b)]) hx hb dL_law_845 hl (by decide) rfl (fun ls hl => ?_)
    refine lv_aload_n hx hb dL_law_847 rfl (lv_at hl 4 rfl) ?_
    refine z_ci0 (z_runV (As := []) (rest := []) M hw hty128 zc_L_83 (c_X7_thrown l s.heap.size D cA ad2 ty T3 K3 P hR2) hw.1 rfl rfl ⟨Nat.le_of_ble_eq_true rfl, Nat.le_of_ble_eq_true rfl⟩ ⟨(by show 40 + 13 * (n + 1) + 0 ≤ 601024; omega), (by show 700 + 84 * (n + 1) + 0 ≤ 7293034; omega)⟩ hl.1 (Nat.le_of_ble_eq_true rfl) dL_law_848) hw (fun H locs hw => ?_)
    refine z_topi (y := 0) hT0 ?_
    refine lv_iload hx hb dL_law_851 (lv_at hl 1 rfl) ?_
    refine lv_icmp_eq (tgt := 858) hx hb dL_law_853 (by decide) (fun c1 => ?_) (fun c1 => absurd rfl c1)
    refine lv_iload hx hb dL_law_858 (lv_at hl 1 rfl) ?_
    refine lv_if_ne (tgt := 882) hx hb dL_law_860 (by decide) (fun c2 => absurd rfl c2) (fun c2 => ?_)
    refine lv_aload_n hx hb dL_law_863 rfl (lv_at hl 3 rfl) ?_
    refine lv_iconst (v := 0) hx hb dL_law_864 (by decide) ?_
    refine z_lald M hw hty160 (z_ix (i := 0) (k := 0) rfl ⟨by omega, by omega⟩).1 dL_law_865 ?_
    refine z_topl (y := (if bv = 0 then 0 else 1 : Int64)) (show K3 160 (0 : Int32).toNatClampNeg = _ from hKb) ?_
    refine lv_iload hx hb dL_law_866 (lv_at hl 0 rfl) ?_
    refine lv_if_eq (tgt := 875) hx hb dL_law_868 (by decide) (fun c4 => ?_) (fun c4 => ?_)
    · skip
      refine lv_lconst (v := 0) hx hb dL_law_875 (by decide) ?_
      rw [if_pos c4]
      refine W.lcmp hx hb dL_law_876 ?_
      refine lv_if_eq (tgt := 882) hx hb dL_law_877 (by decide) (fun c3 => ?_) (fun c3 => absurd ((lg_cmp_eq _ _).mpr rfl) c3)
      refine lv_goto (tgt := 1324) hx hb dL_law_882 (by decide) ?_
      exact kk _ _ _ _ _ _ _ _ hLI2 hw (lv_sub hl [2, 3, 4, 5, 6] rfl)
    · skip
      refine lv_lconst (v := 1) hx hb dL_law_871 (by decide) ?_
      refine lv_goto (tgt := 876) hx hb dL_law_872 (by decide) ?_
      rw [if_neg c4]
      refine W.lcmp hx hb dL_law_876 ?_
      refine lv_if_eq (tgt := 882) hx hb dL_law_877 (by decide) (fun c3 => ?_) (fun c3 => absurd ((lg_cmp_eq _ _).mpr rfl) c3)
      refine lv_goto (tgt := 1324) hx hb dL_law_882 (by decide) ?_
      exact kk _ _ _ _ _ _ _ _ hLI2 hw (lv_sub hl [2, 3, 4, 5, 6] rfl)
  · skip
    rw [if_neg hne] at hw1
    have hw : zH s.heap.size D cA s H locs ad2 ty I L P := ⟨hw1, hS⟩
    have htn2 : ¬ (if zlt p0 nc then 0 else 1) = 0 := by rw [← et]; exact htn
    obtain ⟨T3, eT⟩ : ∃ X : zIt, X = zu I 128 0 (nI t) := ⟨_, rfl⟩
    have hRf : zMi l s.heap.size D cA yX7_works cX7_works 2 .boolean 2 43 0 0 [.ref (ad2 128), .int p0] (zW s.heap.size D cA ad2 ty I L P) 0 (zW s.heap.size D cA ad2 ty T3 L P) := by
      have z := c_X7_works l s.heap.size D cA ad2 ty I L P hR ni nc ns nt hbd (zREL_rv hR0) p0
      rw [if_neg htn2, if_neg htn2] at z
      rw [eT, et]
      exact z
    have hT0 : T3 128 0 = nI t := by rw [eT, zu_self]
    have hLI2 : zLI (n + 1) ty T3 L P := by rw [eT]; exact zLI_throw hT hR0 hh _
    have hnt : ¬ nI t = 0 := nI_ne0 (by omega) (by omega)
    refine z_topi (y := nI t) hk ?_
    refine lv_istore (lv' := [(5, .int (nI t)), (4, .int (nI (7 * n))), (3, .ref (ad2 160)), (2, .ref (ad2 128)), (1, .ref (ad2 0)), (0, .ref b)]) hx hb dL_law_833 hl (by decide) rfl (fun ls hl => ?_)
    refine lv_aload_n hx hb dL_law_835 rfl (lv_at hl 3 rfl) ?_
    refine lv_aload_n hx hb dL_law_836 rfl (lv_at hl 5 rfl) ?_
    refine lv_iload hx hb dL_law_837 (lv_at hl 1 rfl) ?_
    refine lv_iconst (v := 1) hx hb dL_law_839 (by decide) ?_
    refine lv_iadd hx hb dL_law_840 ?_
    refine z_sld hx hb hX hbl hw.2 (nI_add (7 * n) 1) (by omega) hL ep0 dL_law_841 ?_
    refine z_ci0 (z_runV (As := [.int p0]) (rest := []) M hw ht128 zc_L_117 hRf hw.1 rfl rfl ⟨Nat.le_of_ble_eq_true rfl, Nat.le_of_ble_eq_true rfl⟩ ⟨(by show 40 + 13 * (n + 1) + 0 ≤ 601024; omega), (by show 700 + 84 * (n + 1) + 0 ≤ 7293034; omega)⟩ hl.1 (Nat.le_of_ble_eq_true rfl) dL_law_842) hw (fun H locs hw => ?_)
    refine lv_istore (lv' := [(6, .int 0), (5, .int (nI t)), (4, .int (nI (7 * n))), (3, .ref (ad2 160)), (2, .ref (ad2 128)), (1, .ref (ad2 0)), (0, .ref b)]) hx hb dL_law_845 hl (by decide) rfl (fun ls hl => ?_)
    refine lv_aload_n hx hb dL_law_847 rfl (lv_at hl 4 rfl) ?_
    refine z_ci0 (z_runV (As := []) (rest := []) M hw ht128 zc_L_83 (c_X7_thrown l s.heap.size D cA ad2 ty T3 L P hR) hw.1 rfl rfl ⟨Nat.le_of_ble_eq_true rfl, Nat.le_of_ble_eq_true rfl⟩ ⟨(by show 40 + 13 * (n + 1) + 0 ≤ 601024; omega), (by show 700 + 84 * (n + 1) + 0 ≤ 7293034; omega)⟩ hl.1 (Nat.le_of_ble_eq_true rfl) dL_law_848) hw (fun H locs hw => ?_)
    refine z_topi (y := nI t) hT0 ?_
    refine lv_iload hx hb dL_law_851 (lv_at hl 1 rfl) ?_
    refine lv_icmp_eq (tgt := 858) hx hb dL_law_853 (by decide) (fun c1 => ?_) (fun c1 => absurd rfl c1)
    refine lv_iload hx hb dL_law_858 (lv_at hl 1 rfl) ?_
    refine lv_if_ne (tgt := 882) hx hb dL_law_860 (by decide) (fun c2 => ?_) (fun c2 => absurd c2 hnt)
    refine lv_goto (tgt := 1324) hx hb dL_law_882 (by decide) ?_
    exact kk _ _ _ _ _ _ _ _ hLI2 hw (lv_sub hl [2, 3, 4, 5, 6] rfl)
set_option maxHeartbeats 4000000 in
set_option maxRecDepth 100000 in
theorem z_case_faultAt (hl0 : l.stackTraces = false) (M : zM p s m c cL_law RL 8 s.heap.size D cA) (hN : zNcs s) (hX : va_X b Ln xs s s.heap) (hbl : b < s.heap.size) (hL : Ln ≤ 4000) (hn7 : 7 * n + 7 ≤ Ln) (hn5 : n < 512) (hLI : zLI n ty I L P) (hw : zH s.heap.size D cA s H locs ad ty I L P) (hl : lv_has ls 8 [(4, .int (nI (7 * n))), (3, .ref (ad 160)), (2, .ref (ad 128)), (1, .ref (ad 0)), (0, .ref b)])
    (kk : ∀ (H : Heap) (locs : List Loc) (ls : Array Slot) (ad : Nat → Nat) (ty : zTyp) (I : zIt) (L : zLt) (P : zPt), zLI (n + 1) ty I L P → zH s.heap.size D cA s H locs ad ty I L P → lv_has ls 8 [(4, .int (nI (7 * n))), (3, .ref (ad 160)), (2, .ref (ad 128)), (1, .ref (ad 0)), (0, .ref b)] → W p l e room_1 s m #[Value.ref b] below meth c H locs (40 + 13 * (n + 1)) (700 + 84 * (n + 1)) Q (F0 m 1324 ls [])) :
    W p l e room_1 s m #[Value.ref b] below meth c H locs (40 + 13 * n) (700 + 84 * n) Q (F0 m 885 ls []) := by
  obtain ⟨hx, hb, -⟩ := id M
  obtain ⟨ni, nc, ns, nt, hrs, hT, hR0, hh⟩ := hLI
  obtain ⟨hC, hR, h160, hF⟩ := id hT
  have hbd := zREL_bd hR0
  obtain ⟨hb1, hb2, hb3, hb4⟩ := id hbd
  have hI := zREL_inv hR0
  have ht0 := zc_t0 hC
  have ht128 : ty 128 = some (7, 0) := zr_t hR 128 7 0 (by decide)
  obtain ⟨p0, ep0⟩ : ∃ y : Int32, y = xs (7 * n + 1) := ⟨_, rfl⟩
  refine lv_aload_n hx hb dL_law_885 rfl (lv_at hl 3 rfl) ?_
  refine lv_aload_n hx hb dL_law_886 rfl (lv_at hl 4 rfl) ?_
  refine lv_iload hx hb dL_law_887 (lv_at hl 0 rfl) ?_
  refine lv_iconst (v := 1) hx hb dL_law_889 (by decide) ?_
  refine lv_iadd hx hb dL_law_890 ?_
  refine z_sld hx hb hX hbl hw.2 (nI_add (7 * n) 1) (by omega) hL ep0 dL_law_891 ?_
  refine lv_aload_n hx hb dL_law_892 rfl (lv_at hl 1 rfl) ?_
  obtain ⟨oc, eo⟩ : ∃ o : Nat, o = (if p0 < 0 then 1 else 0) := ⟨_, rfl⟩
  obtain ⟨t, et⟩ : ∃ o : Nat, o = (if p0 < 0 then 1 else 0) := ⟨_, rfl⟩
  obtain ⟨r0, er⟩ : ∃ r : Int32, r = (if p0.toNatClampNeg < zNf I then I 6 p0.toNatClampNeg else -1) := ⟨_, rfl⟩
  have hz : (oc = 0 ∧ t = 0 ∧ (¬ p0 < 0)) ∨ (oc = 1 ∧ t = 1) := by
    rw [eo, et]
    exact zt_neg p0
  have hz2 : (oc = 0 ∧ (¬ p0 < 0)) ∨ (¬ oc = 0 ∧ ¬ t = 0 ∧ t ≤ 3 ∧ ((if oc = 1 then 1 else 0) : Int32) = nI t) := by
    rcases hz with ⟨q, -, cs⟩ | ⟨q, qt⟩
    · exact Or.inl ⟨q, cs⟩
    · exact Or.inr ⟨by rw [q]; decide, by rw [qt]; decide, by rw [qt]; decide, by rw [q, qt]; rfl⟩
  have hoc : oc = 0 ∨ oc = 1 := by
    rcases hz with ⟨q, -⟩ | ⟨q, -⟩
    · exact Or.inl q
    · exact Or.inr (q)
  have hM : zXi l s.heap.size D cA yX6_faultAt cX6_faultAt 2 .int 6 90 1 6 [.ref (ad 0), .int p0] (zW s.heap.size D cA ad ty I L P) oc r0 (zW s.heap.size D cA ad ty I L P) := by
    rw [eo, er]
    exact c_X6_faultAt l s.heap.size D cA ad ty I L P hl0 ni nc ns nt hC hI p0
  have hh0 := c_L_faultAt l s.heap.size D cA ad ty I L P 0 ht0 h160 p0 hM hoc (fun H z => ⟨ad, fun _ _ _ => rfl, z⟩) h160
  refine z_ci (z_runH (As := [.ref (ad 0), .int p0, .ref (ad 160)]) (rest := []) M hN hw.2 zh_faultAt hh0 hw.1 rfl rfl ⟨Nat.le_of_ble_eq_true rfl, Nat.le_of_ble_eq_true rfl⟩ ⟨(by show 40 + 13 * n + 1 ≤ 601024; omega), (by show 700 + 84 * n + 6 ≤ 7293034; omega)⟩ hl.1 (Nat.le_of_ble_eq_true rfl) dL_law_893) hw.2 (fun H locs hw1 hS => ?_)
  obtain ⟨ad2, hag, hw1⟩ := hw1
  refine W.widen (k := 40 + 13 * (n + 1)) (n := 700 + 84 * (n + 1)) (by omega) (by omega) ?_
  rw [← hag _ _ ht0, ← hag _ _ ht128, ← hag _ _ h160] at hl
  rcases hz2 with ⟨hoc0, h1⟩ | ⟨hne, htn, ht3, hk⟩
  · skip
    rw [if_pos hoc0] at hw1
    obtain ⟨K, eK⟩ : ∃ X : zLt, X = zu L 160 0 r0.toInt64 := ⟨_, rfl⟩
    rw [← eK] at hw1
    have hw : zH s.heap.size D cA s H locs ad2 ty I K P := ⟨hw1, hS⟩
    rw [er] at eK
    have z3 := s3_faultAt hT hR0 hh hn5 (eo.symm.trans hoc0) h1   eK
    obtain ⟨ht, hV2, hT0, hK0, hRB, hLI2, hR2⟩ := z3
    obtain ⟨T3, eT⟩ : ∃ X : zIt, X = (zu I 128 0 0) := ⟨_, rfl⟩
    obtain ⟨K3, eK3⟩ : ∃ X : zLt, X = K := ⟨_, rfl⟩
    obtain ⟨bv, ebv⟩ : ∃ X : Int32, X = (if p0.toNatClampNeg < zRn I then I 140 p0.toNatClampNeg else -1) := ⟨_, rfl⟩
    have hRf : zMi l s.heap.size D cA yX7_faultAt cX7_faultAt 2 .int 1 21 0 0 [.ref (ad2 128), .int p0] (zW s.heap.size D cA ad2 ty I K P) bv (zW s.heap.size D cA ad2 ty T3 K3 P) := by
      have z := c_X7_faultAt l s.heap.size D cA ad2 ty I K P hR2 ni nc ns nt hbd hV2 p0
      rw [if_pos ht, if_pos ht] at z
      rw [eT, eK3, ebv]
      exact z
    have hT0 : T3 128 0 = 0 := by rw [eT]; exact hT0
    have hKb : K3 160 0 = bv.toInt64 := by rw [eK3, ebv]; exact hK0.trans hRB
    have hLI2 : zLI (n + 1) ty T3 K3 P := by rw [eT, eK3]; exact hLI2
    have hty128 : ty 128 = some (7, 0) := zr_t hR2 128 7 0 (by decide)
    have hty160 : ty 160 = some (9, 1) := by obtain ⟨_, _, _, _, _, hq, -⟩ := hLI2; exact hq.2.2.1
    refine z_topi (y := 0) (by rw [hoc0]; rfl) ?_
    refine lv_istore (lv' := [(5, .int 0), (4, .int (nI (7 * n))), (3, .ref (ad2 160)), (2, .ref (ad2 128)), (1, .ref (ad2 0)), (0, .ref b)]) hx hb dL_law_896 hl (by decide) rfl (fun ls hl => ?_)
    refine lv_aload_n hx hb dL_law_898 rfl (lv_at hl 3 rfl) ?_
    refine lv_aload_n hx hb dL_law_899 rfl (lv_at hl 5 rfl) ?_
    refine lv_iload hx hb dL_law_900 (lv_at hl 1 rfl) ?_
    refine lv_iconst (v := 1) hx hb dL_law_902 (by decide) ?_
    refine lv_iadd hx hb dL_law_903 ?_
    refine z_sld hx hb hX hbl hw.2 (nI_add (7 * n) 1) (by omega) hL ep0 dL_law_904 ?_
    refine z_ci0 (z_runV (As := [.int p0]) (rest := []) M hw hty128 zc_L_120 hRf hw.1 rfl rfl ⟨Nat.le_of_ble_eq_true rfl, Nat.le_of_ble_eq_true rfl⟩ ⟨(by show 40 + 13 * (n + 1) + 0 ≤ 601024; omega), (by show 700 + 84 * (n + 1) + 0 ≤ 7293034; omega)⟩ hl.1 (Nat.le_of_ble_eq_true rfl) dL_law_905) hw (fun H locs hw => ?_)
    refine lv_istore (lv' := [(6, .int bv), (5, .int 0), (4, .int (nI (7 * n))), (3, .ref (ad2 160)), (2, .ref (ad2 128)), (1, .ref (ad2 0)), (0, .ref b)]) hx hb dL_law_908 hl (by decide) rfl (fun ls hl => ?_)
    refine lv_aload_n hx hb dL_law_910 rfl (lv_at hl 4 rfl) ?_
    refine z_ci0 (z_runV (As := []) (rest := []) M hw hty128 zc_L_83 (c_X7_thrown l s.heap.size D cA ad2 ty T3 K3 P hR2) hw.1 rfl rfl ⟨Nat.le_of_ble_eq_true rfl, Nat.le_of_ble_eq_true rfl⟩ ⟨(by show 40 + 13 * (n + 1) + 0 ≤ 601024; omega), (by show 700 + 84 * (n + 1) + 0 ≤ 7293034; omega)⟩ hl.1 (Nat.le_of_ble_eq_true rfl) dL_law_911) hw (fun H locs hw => ?_)
    refine z_topi (y := 0) hT0 ?_
    refine lv_iload hx hb dL_law_914 (lv_at hl 1 rfl) ?_
    refine lv_icmp_eq (tgt := 921) hx hb dL_law_916 (by decide) (fun c1 => ?_) (fun c1 => absurd rfl c1)
    refine lv_iload hx hb dL_law_921 (lv_at hl 1 rfl) ?_
    refine lv_if_ne (tgt := 938) hx hb dL_law_923 (by decide) (fun c2 => absurd rfl c2) (fun c2 => ?_)
    refine lv_aload_n hx hb dL_law_926 rfl (lv_at hl 3 rfl) ?_
    refine lv_iconst (v := 0) hx hb dL_law_927 (by decide) ?_
    refine z_lald M hw hty160 (z_ix (i := 0) (k := 0) rfl ⟨by omega, by omega⟩).1 dL_law_928 ?_
    refine z_topl (y := bv.toInt64) (show K3 160 (0 : Int32).toNatClampNeg = _ from hKb) ?_
    refine lv_iload hx hb dL_law_929 (lv_at hl 0 rfl) ?_
    refine lv_i2l hx hb dL_law_931 rfl ?_
    refine W.lcmp hx hb dL_law_932 ?_
    refine lv_if_eq (tgt := 938) hx hb dL_law_933 (by decide) (fun c3 => ?_) (fun c3 => absurd ((lg_cmp_eq _ _).mpr rfl) c3)
    refine lv_goto (tgt := 1324) hx hb dL_law_938 (by decide) ?_
    exact kk _ _ _ _ _ _ _ _ hLI2 hw (lv_sub hl [2, 3, 4, 5, 6] rfl)
  · skip
    rw [if_neg hne] at hw1
    have hw : zH s.heap.size D cA s H locs ad2 ty I L P := ⟨hw1, hS⟩
    have htn2 : ¬ (if p0 < 0 then 1 else 0) = 0 := by rw [← et]; exact htn
    obtain ⟨T3, eT⟩ : ∃ X : zIt, X = zu I 128 0 (nI t) := ⟨_, rfl⟩
    have hRf : zMi l s.heap.size D cA yX7_faultAt cX7_faultAt 2 .int 1 21 0 0 [.ref (ad2 128), .int p0] (zW s.heap.size D cA ad2 ty I L P) 0 (zW s.heap.size D cA ad2 ty T3 L P) := by
      have z := c_X7_faultAt l s.heap.size D cA ad2 ty I L P hR ni nc ns nt hbd (zREL_rv hR0) p0
      rw [if_neg htn2, if_neg htn2] at z
      rw [eT, et]
      exact z
    have hT0 : T3 128 0 = nI t := by rw [eT, zu_self]
    have hLI2 : zLI (n + 1) ty T3 L P := by rw [eT]; exact zLI_throw hT hR0 hh _
    have hnt : ¬ nI t = 0 := nI_ne0 (by omega) (by omega)
    refine z_topi (y := nI t) hk ?_
    refine lv_istore (lv' := [(5, .int (nI t)), (4, .int (nI (7 * n))), (3, .ref (ad2 160)), (2, .ref (ad2 128)), (1, .ref (ad2 0)), (0, .ref b)]) hx hb dL_law_896 hl (by decide) rfl (fun ls hl => ?_)
    refine lv_aload_n hx hb dL_law_898 rfl (lv_at hl 3 rfl) ?_
    refine lv_aload_n hx hb dL_law_899 rfl (lv_at hl 5 rfl) ?_
    refine lv_iload hx hb dL_law_900 (lv_at hl 1 rfl) ?_
    refine lv_iconst (v := 1) hx hb dL_law_902 (by decide) ?_
    refine lv_iadd hx hb dL_law_903 ?_
    refine z_sld hx hb hX hbl hw.2 (nI_add (7 * n) 1) (by omega) hL ep0 dL_law_904 ?_
    refine z_ci0 (z_runV (As := [.int p0]) (rest := []) M hw ht128 zc_L_120 hRf hw.1 rfl rfl ⟨Nat.le_of_ble_eq_true rfl, Nat.le_of_ble_eq_true rfl⟩ ⟨(by show 40 + 13 * (n + 1) + 0 ≤ 601024; omega), (by show 700 + 84 * (n + 1) + 0 ≤ 7293034; omega)⟩ hl.1 (Nat.le_of_ble_eq_true rfl) dL_law_905) hw (fun H locs hw => ?_)
    refine lv_istore (lv' := [(6, .int 0), (5, .int (nI t)), (4, .int (nI (7 * n))), (3, .ref (ad2 160)), (2, .ref (ad2 128)), (1, .ref (ad2 0)), (0, .ref b)]) hx hb dL_law_908 hl (by decide) rfl (fun ls hl => ?_)
    refine lv_aload_n hx hb dL_law_910 rfl (lv_at hl 4 rfl) ?_
    refine z_ci0 (z_runV (As := []) (rest := []) M hw ht128 zc_L_83 (c_X7_thrown l s.heap.size D cA ad2 ty T3 L P hR) hw.1 rfl rfl ⟨Nat.le_of_ble_eq_true rfl, Nat.le_of_ble_eq_true rfl⟩ ⟨(by show 40 + 13 * (n + 1) + 0 ≤ 601024; omega), (by show 700 + 84 * (n + 1) + 0 ≤ 7293034; omega)⟩ hl.1 (Nat.le_of_ble_eq_true rfl) dL_law_911) hw (fun H locs hw => ?_)
    refine z_topi (y := nI t) hT0 ?_
    refine lv_iload hx hb dL_law_914 (lv_at hl 1 rfl) ?_
    refine lv_icmp_eq (tgt := 921) hx hb dL_law_916 (by decide) (fun c1 => ?_) (fun c1 => absurd rfl c1)
    refine lv_iload hx hb dL_law_921 (lv_at hl 1 rfl) ?_
    refine lv_if_ne (tgt := 938) hx hb dL_law_923 (by decide) (fun c2 => ?_) (fun c2 => absurd c2 hnt)
    refine lv_goto (tgt := 1324) hx hb dL_law_938 (by decide) ?_
    exact kk _ _ _ _ _ _ _ _ hLI2 hw (lv_sub hl [2, 3, 4, 5, 6] rfl)
set_option maxHeartbeats 4000000 in
set_option maxRecDepth 100000 in
theorem z_case_shipOf (hl0 : l.stackTraces = false) (M : zM p s m c cL_law RL 8 s.heap.size D cA) (hN : zNcs s) (hX : va_X b Ln xs s s.heap) (hbl : b < s.heap.size) (hL : Ln ≤ 4000) (hn7 : 7 * n + 7 ≤ Ln) (hn5 : n < 512) (hLI : zLI n ty I L P) (hw : zH s.heap.size D cA s H locs ad ty I L P) (hl : lv_has ls 8 [(4, .int (nI (7 * n))), (3, .ref (ad 160)), (2, .ref (ad 128)), (1, .ref (ad 0)), (0, .ref b)])
    (kk : ∀ (H : Heap) (locs : List Loc) (ls : Array Slot) (ad : Nat → Nat) (ty : zTyp) (I : zIt) (L : zLt) (P : zPt), zLI (n + 1) ty I L P → zH s.heap.size D cA s H locs ad ty I L P → lv_has ls 8 [(4, .int (nI (7 * n))), (3, .ref (ad 160)), (2, .ref (ad 128)), (1, .ref (ad 0)), (0, .ref b)] → W p l e room_1 s m #[Value.ref b] below meth c H locs (40 + 13 * (n + 1)) (700 + 84 * (n + 1)) Q (F0 m 1324 ls [])) :
    W p l e room_1 s m #[Value.ref b] below meth c H locs (40 + 13 * n) (700 + 84 * n) Q (F0 m 941 ls []) := by
  obtain ⟨hx, hb, -⟩ := id M
  obtain ⟨ni, nc, ns, nt, hrs, hT, hR0, hh⟩ := hLI
  obtain ⟨hC, hR, h160, hF⟩ := id hT
  have hbd := zREL_bd hR0
  obtain ⟨hb1, hb2, hb3, hb4⟩ := id hbd
  have hI := zREL_inv hR0
  have ht0 := zc_t0 hC
  have ht128 : ty 128 = some (7, 0) := zr_t hR 128 7 0 (by decide)
  obtain ⟨p0, ep0⟩ : ∃ y : Int32, y = xs (7 * n + 1) := ⟨_, rfl⟩
  obtain ⟨p1, ep1⟩ : ∃ y : Int32, y = xs (7 * n + 2) := ⟨_, rfl⟩
  refine lv_aload_n hx hb dL_law_941 rfl (lv_at hl 3 rfl) ?_
  refine lv_aload_n hx hb dL_law_942 rfl (lv_at hl 4 rfl) ?_
  refine lv_iload hx hb dL_law_943 (lv_at hl 0 rfl) ?_
  refine lv_iconst (v := 1) hx hb dL_law_945 (by decide) ?_
  refine lv_iadd hx hb dL_law_946 ?_
  refine z_sld hx hb hX hbl hw.2 (nI_add (7 * n) 1) (by omega) hL ep0 dL_law_947 ?_
  refine lv_aload_n hx hb dL_law_948 rfl (lv_at hl 4 rfl) ?_
  refine lv_iload hx hb dL_law_949 (lv_at hl 0 rfl) ?_
  refine lv_iconst (v := 2) hx hb dL_law_951 (by decide) ?_
  refine lv_iadd hx hb dL_law_952 ?_
  refine z_sld hx hb hX hbl hw.2 (nI_add (7 * n) 2) (by omega) hL ep1 dL_law_953 ?_
  refine lv_aload_n hx hb dL_law_954 rfl (lv_at hl 1 rfl) ?_
  obtain ⟨oc, eo⟩ : ∃ o : Nat, o = (zsq (zo1 p0 ns) (zo2 p1 0 4)) := ⟨_, rfl⟩
  obtain ⟨t, et⟩ : ∃ o : Nat, o = (if zlt p0 ns then (if zin p1 0 4 then 0 else 2) else 1) := ⟨_, rfl⟩
  obtain ⟨r0, er⟩ : ∃ r : Int32, r = (if p1 = 0 then I (48 + p0.toNatClampNeg) 3 else if p1 = 1 then I (48 + p0.toNatClampNeg) 1 else if p1 = 2 then I (48 + p0.toNatClampNeg) 2 else if p1 = 3 then I (48 + p0.toNatClampNeg) 4 else I (48 + p0.toNatClampNeg) 7) := ⟨_, rfl⟩
  have hz : (oc = 0 ∧ t = 0 ∧ (zlt p0 ns) ∧ (zin p1 0 4)) ∨ (oc = 1 ∧ t = 1) ∨ (oc = 2 ∧ t = 2) := by
    rw [eo, et]
    exact zt_12 p0 p1
  have hz2 : (oc = 0 ∧ (zlt p0 ns) ∧ (zin p1 0 4)) ∨ (¬ oc = 0 ∧ ¬ t = 0 ∧ t ≤ 3 ∧ ((if oc = 1 then 1 else (if oc = 2 then 2 else 0)) : Int32) = nI t) := by
    rcases hz with ⟨q, -, cs⟩ | ⟨q, qt⟩ | ⟨q, qt⟩
    · exact Or.inl ⟨q, cs⟩
    · exact Or.inr ⟨by rw [q]; decide, by rw [qt]; decide, by rw [qt]; decide, by rw [q, qt]; rfl⟩
    · exact Or.inr ⟨by rw [q]; decide, by rw [qt]; decide, by rw [qt]; decide, by rw [q, qt]; rfl⟩
  have hoc : oc = 0 ∨ oc = 1 ∨ oc = 2 := by
    rcases hz with ⟨q, -⟩ | ⟨q, -⟩ | ⟨q, -⟩
    · exact Or.inl q
    · exact Or.inr (Or.inl q)
    · exact Or.inr (Or.inr (q))
  have hM : zXi l s.heap.size D cA yX6_shipOf cX6_shipOf 4 .int 7 112 2 12 [.ref (ad 0), .int p0, .int p1] (zW s.heap.size D cA ad ty I L P) oc r0 (zW s.heap.size D cA ad ty I L P) := by
    rw [eo, er]
    exact c_X6_shipOf l s.heap.size D cA ad ty I L P hl0 ni nc ns nt hC hI p0 p1
  have hh0 := c_L_shipOf l s.heap.size D cA ad ty I L P 0 ht0 h160 p0 p1 hM hoc (fun H z => ⟨ad, fun _ _ _ => rfl, z⟩) h160
  refine z_ci (z_runH (As := [.ref (ad 0), .int p0, .int p1, .ref (ad 160)]) (rest := []) M hN hw.2 zh_shipOf hh0 hw.1 rfl rfl ⟨Nat.le_of_ble_eq_true rfl, Nat.le_of_ble_eq_true rfl⟩ ⟨(by show 40 + 13 * n + 2 ≤ 601024; omega), (by show 700 + 84 * n + 12 ≤ 7293034; omega)⟩ hl.1 (Nat.le_of_ble_eq_true rfl) dL_law_955) hw.2 (fun H locs hw1 hS => ?_)
  obtain ⟨ad2, hag, hw1⟩ := hw1
  refine W.widen (k := 40 + 13 * (n + 1)) (n := 700 + 84 * (n + 1)) (by omega) (by omega) ?_
  rw [← hag _ _ ht0, ← hag _ _ ht128, ← hag _ _ h160] at hl
  rcases hz2 with ⟨hoc0, h1, h2⟩ | ⟨hne, htn, ht3, hk⟩
  · skip
    rw [if_pos hoc0] at hw1
    obtain ⟨K, eK⟩ : ∃ X : zLt, X = zu L 160 0 r0.toInt64 := ⟨_, rfl⟩
    rw [← eK] at hw1
    have hw : zH s.heap.size D cA s H locs ad2 ty I K P := ⟨hw1, hS⟩
    rw [er] at eK
    have z3 := s3_shipOf hT hR0 hh hn5 (eo.symm.trans hoc0) h1 h2   eK
    obtain ⟨ht, hV2, hT0, hK0, hRB, hLI2, hR2⟩ := z3
    obtain ⟨T3, eT⟩ : ∃ X : zIt, X = (zu I 128 0 0) := ⟨_, rfl⟩
    obtain ⟨K3, eK3⟩ : ∃ X : zLt, X = K := ⟨_, rfl⟩
    obtain ⟨bv, ebv⟩ : ∃ X : Int32, X = (if p1 = 0 then I 143 p0.toNatClampNeg else if p1 = 1 then I 144 p0.toNatClampNeg else if p1 = 2 then I 145 p0.toNatClampNeg else if p1 = 3 then I 146 p0.toNatClampNeg else I 148 p0.toNatClampNeg) := ⟨_, rfl⟩
    have hRf : zMi l s.heap.size D cA yX7_shipOf cX7_shipOf 4 .int 2 43 0 0 [.ref (ad2 128), .int p0, .int p1] (zW s.heap.size D cA ad2 ty I K P) bv (zW s.heap.size D cA ad2 ty T3 K3 P) := by
      have z := c_X7_shipOf l s.heap.size D cA ad2 ty I K P hR2 ni nc ns nt hbd hV2 p0 p1
      rw [if_pos ht, if_pos ht] at z
      rw [eT, eK3, ebv]
      exact z
    have hT0 : T3 128 0 = 0 := by rw [eT]; exact hT0
    have hKb : K3 160 0 = bv.toInt64 := by rw [eK3, ebv]; exact hK0.trans hRB
    have hLI2 : zLI (n + 1) ty T3 K3 P := by rw [eT, eK3]; exact hLI2
    have hty128 : ty 128 = some (7, 0) := zr_t hR2 128 7 0 (by decide)
    have hty160 : ty 160 = some (9, 1) := by obtain ⟨_, _, _, _, _, hq, -⟩ := hLI2; exact hq.2.2.1
    refine z_topi (y := 0) (by rw [hoc0]; rfl) ?_
    refine lv_istore (lv' := [(5, .int 0), (4, .int (nI (7 * n))), (3, .ref (ad2 160)), (2, .ref (ad2 128)), (1, .ref (ad2 0)), (0, .ref b)]) hx hb dL_law_958 hl (by decide) rfl (fun ls hl => ?_)
    refine lv_aload_n hx hb dL_law_960 rfl (lv_at hl 3 rfl) ?_
    refine lv_aload_n hx hb dL_law_961 rfl (lv_at hl 5 rfl) ?_
    refine lv_iload hx hb dL_law_962 (lv_at hl 1 rfl) ?_
    refine lv_iconst (v := 1) hx hb dL_law_964 (by decide) ?_
    refine lv_iadd hx hb dL_law_965 ?_
    refine z_sld hx hb hX hbl hw.2 (nI_add (7 * n) 1) (by omega) hL ep0 dL_law_966 ?_
    refine lv_aload_n hx hb dL_law_967 rfl (lv_at hl 5 rfl) ?_
    refine lv_iload hx hb dL_law_968 (lv_at hl 1 rfl) ?_
    refine lv_iconst (v := 2) hx hb dL_law_970 (by decide) ?_
    refine lv_iadd hx hb dL_law_971 ?_
    refine z_sld hx hb hX hbl hw.2 (nI_add (7 * n) 2) (by omega) hL ep1 dL_law_972 ?_
    refine z_ci0 (z_runV (As := [.int p0, .int p1]) (rest := []) M hw hty128 zc_L_123 hRf hw.1 rfl rfl ⟨Nat.le_of_ble_eq_true rfl, Nat.le_of_ble_eq_true rfl⟩ ⟨(by show 40 + 13 * (n + 1) + 0 ≤ 601024; omega), (by show 700 + 84 * (n + 1) + 0 ≤ 7293034; omega)⟩ hl.1 (Nat.le_of_ble_eq_true rfl) dL_law_973) hw (fun H locs hw => ?_)
    refine lv_istore (lv' := [(6, .int bv), (5, .int 0), (4, .int (nI (7 * n))), (3, .ref (ad2 160)), (2, .ref (ad2 128)), (1, .ref (ad2 0)), (0, .ref b)]) hx hb dL_law_976 hl (by decide) rfl (fun ls hl => ?_)
    refine lv_aload_n hx hb dL_law_978 rfl (lv_at hl 4 rfl) ?_
    refine z_ci0 (z_runV (As := []) (rest := []) M hw hty128 zc_L_83 (c_X7_thrown l s.heap.size D cA ad2 ty T3 K3 P hR2) hw.1 rfl rfl ⟨Nat.le_of_ble_eq_true rfl, Nat.le_of_ble_eq_true rfl⟩ ⟨(by show 40 + 13 * (n + 1) + 0 ≤ 601024; omega), (by show 700 + 84 * (n + 1) + 0 ≤ 7293034; omega)⟩ hl.1 (Nat.le_of_ble_eq_true rfl) dL_law_979) hw (fun H locs hw => ?_)
    refine z_topi (y := 0) hT0 ?_
    refine lv_iload hx hb dL_law_982 (lv_at hl 1 rfl) ?_
    refine lv_icmp_eq (tgt := 989) hx hb dL_law_984 (by decide) (fun c1 => ?_) (fun c1 => absurd rfl c1)
    refine lv_iload hx hb dL_law_989 (lv_at hl 1 rfl) ?_
    refine lv_if_ne (tgt := 1006) hx hb dL_law_991 (by decide) (fun c2 => absurd rfl c2) (fun c2 => ?_)
    refine lv_aload_n hx hb dL_law_994 rfl (lv_at hl 3 rfl) ?_
    refine lv_iconst (v := 0) hx hb dL_law_995 (by decide) ?_
    refine z_lald M hw hty160 (z_ix (i := 0) (k := 0) rfl ⟨by omega, by omega⟩).1 dL_law_996 ?_
    refine z_topl (y := bv.toInt64) (show K3 160 (0 : Int32).toNatClampNeg = _ from hKb) ?_
    refine lv_iload hx hb dL_law_997 (lv_at hl 0 rfl) ?_
    refine lv_i2l hx hb dL_law_999 rfl ?_
    refine W.lcmp hx hb dL_law_1000 ?_
    refine lv_if_eq (tgt := 1006) hx hb dL_law_1001 (by decide) (fun c3 => ?_) (fun c3 => absurd ((lg_cmp_eq _ _).mpr rfl) c3)
    refine lv_goto (tgt := 1324) hx hb dL_law_1006 (by decide) ?_
    exact kk _ _ _ _ _ _ _ _ hLI2 hw (lv_sub hl [2, 3, 4, 5, 6] rfl)
  · skip
    rw [if_neg hne] at hw1
    have hw : zH s.heap.size D cA s H locs ad2 ty I L P := ⟨hw1, hS⟩
    have htn2 : ¬ (if zlt p0 ns then (if zin p1 0 4 then 0 else 2) else 1) = 0 := by rw [← et]; exact htn
    obtain ⟨T3, eT⟩ : ∃ X : zIt, X = zu I 128 0 (nI t) := ⟨_, rfl⟩
    have hRf : zMi l s.heap.size D cA yX7_shipOf cX7_shipOf 4 .int 2 43 0 0 [.ref (ad2 128), .int p0, .int p1] (zW s.heap.size D cA ad2 ty I L P) 0 (zW s.heap.size D cA ad2 ty T3 L P) := by
      have z := c_X7_shipOf l s.heap.size D cA ad2 ty I L P hR ni nc ns nt hbd (zREL_rv hR0) p0 p1
      rw [if_neg htn2, if_neg htn2] at z
      rw [eT, et]
      exact z
    have hT0 : T3 128 0 = nI t := by rw [eT, zu_self]
    have hLI2 : zLI (n + 1) ty T3 L P := by rw [eT]; exact zLI_throw hT hR0 hh _
    have hnt : ¬ nI t = 0 := nI_ne0 (by omega) (by omega)
    refine z_topi (y := nI t) hk ?_
    refine lv_istore (lv' := [(5, .int (nI t)), (4, .int (nI (7 * n))), (3, .ref (ad2 160)), (2, .ref (ad2 128)), (1, .ref (ad2 0)), (0, .ref b)]) hx hb dL_law_958 hl (by decide) rfl (fun ls hl => ?_)
    refine lv_aload_n hx hb dL_law_960 rfl (lv_at hl 3 rfl) ?_
    refine lv_aload_n hx hb dL_law_961 rfl (lv_at hl 5 rfl) ?_
    refine lv_iload hx hb dL_law_962 (lv_at hl 1 rfl) ?_
    refine lv_iconst (v := 1) hx hb dL_law_964 (by decide) ?_
    refine lv_iadd hx hb dL_law_965 ?_
    refine z_sld hx hb hX hbl hw.2 (nI_add (7 * n) 1) (by omega) hL ep0 dL_law_966 ?_
    refine lv_aload_n hx hb dL_law_967 rfl (lv_at hl 5 rfl) ?_
    refine lv_iload hx hb dL_law_968 (lv_at hl 1 rfl) ?_
    refine lv_iconst (v := 2) hx hb dL_law_970 (by decide) ?_
    refine lv_iadd hx hb dL_law_971 ?_
    refine z_sld hx hb hX hbl hw.2 (nI_add (7 * n) 2) (by omega) hL ep1 dL_law_972 ?_
    refine z_ci0 (z_runV (As := [.int p0, .int p1]) (rest := []) M hw ht128 zc_L_123 hRf hw.1 rfl rfl ⟨Nat.le_of_ble_eq_true rfl, Nat.le_of_ble_eq_true rfl⟩ ⟨(by show 40 + 13 * (n + 1) + 0 ≤ 601024; omega), (by show 700 + 84 * (n + 1) + 0 ≤ 7293034; omega)⟩ hl.1 (Nat.le_of_ble_eq_true rfl) dL_law_973) hw (fun H locs hw => ?_)
    refine lv_istore (lv' := [(6, .int 0), (5, .int (nI t)), (4, .int (nI (7 * n))), (3, .ref (ad2 160)), (2, .ref (ad2 128)), (1, .ref (ad2 0)), (0, .ref b)]) hx hb dL_law_976 hl (by decide) rfl (fun ls hl => ?_)
    refine lv_aload_n hx hb dL_law_978 rfl (lv_at hl 4 rfl) ?_
    refine z_ci0 (z_runV (As := []) (rest := []) M hw ht128 zc_L_83 (c_X7_thrown l s.heap.size D cA ad2 ty T3 L P hR) hw.1 rfl rfl ⟨Nat.le_of_ble_eq_true rfl, Nat.le_of_ble_eq_true rfl⟩ ⟨(by show 40 + 13 * (n + 1) + 0 ≤ 601024; omega), (by show 700 + 84 * (n + 1) + 0 ≤ 7293034; omega)⟩ hl.1 (Nat.le_of_ble_eq_true rfl) dL_law_979) hw (fun H locs hw => ?_)
    refine z_topi (y := nI t) hT0 ?_
    refine lv_iload hx hb dL_law_982 (lv_at hl 1 rfl) ?_
    refine lv_icmp_eq (tgt := 989) hx hb dL_law_984 (by decide) (fun c1 => ?_) (fun c1 => absurd rfl c1)
    refine lv_iload hx hb dL_law_989 (lv_at hl 1 rfl) ?_
    refine lv_if_ne (tgt := 1006) hx hb dL_law_991 (by decide) (fun c2 => ?_) (fun c2 => absurd c2 hnt)
    refine lv_goto (tgt := 1324) hx hb dL_law_1006 (by decide) ?_
    exact kk _ _ _ _ _ _ _ _ hLI2 hw (lv_sub hl [2, 3, 4, 5, 6] rfl)
end ZLW
