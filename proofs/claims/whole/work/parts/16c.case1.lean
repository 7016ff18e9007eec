/-! THE LAW'S CASES (laid by m_law3.py) -/
section ZLW
variable {p : Program} {l : Launch} {e : Env} {s : State} {m : MethodId} {below : List Frame} {meth : Method} {c : Code} {H : Heap} {locs : List Loc} {Q : State → Prop} {b Ln : Nat} {xs : Nat → Int32} {D : va_G} {cA : Nat → ClassId} {ad : Nat → Nat} {ty : zTyp} {I : zIt} {L : zLt} {P : zPt} {ls : Array Slot} {n : Nat}
/-- a number of the script -/
theorem z_sld {R : Room} {args : Array Value} {cells slots pc k : Nat} {rest : List Value} {cc : ByteArray} (hx : p.tables.exec = Jvm.exec) (hb : c.code = cc) (hX : va_X b Ln xs s s.heap) (hbl : b < s.heap.size) (hS : va_S (fun q => s.heap.size ≤ q) s.heap H locs) {i v : Int32} (hi : i = nI k) (hk : k < Ln) (hL : Ln ≤ 4000) (hv : v = xs k) (hdg : decode cc pc = .ok (.iaload, 1))
    (kk : W p l e R s m args below meth c H locs cells slots Q (F0 m (pc + 1) ls (.int v :: rest))) : W p l e R s m args below meth c H locs cells slots Q (F0 m pc ls (.int i :: .ref b :: rest)) := by
  have hbA : ¬ (fun q : Nat => s.heap.size ≤ q) b := Nat.not_le.mpr hbl
  subst hi
  refine va_sld hx hb hX hbl hbA hS (vp_in_nI hk (by omega)) hdg ?_
  rw [nI_clamp (by omega), ← hv]
  exact kk
set_option maxHeartbeats 4000000 in
set_option maxRecDepth 100000 in
theorem z_case_island (hl0 : l.stackTraces = false) (M : zM p s m c cL_law RL 8 s.heap.size D cA) (hN : zNcs s) (hX : va_X b Ln xs s s.heap) (hbl : b < s.heap.size) (hL : Ln ≤ 4000) (hn7 : 7 * n + 7 ≤ Ln) (hn5 : n < 512) (hLI : zLI n ty I L P) (hw : zH s.heap.size D cA s H locs ad ty I L P) (hl : lv_has ls 8 [(4, .int (nI (7 * n))), (3, .ref (ad 160)), (2, .ref (ad 128)), (1, .ref (ad 0)), (0, .ref b)])
    (kk : ∀ (H : Heap) (locs : List Loc) (ls : Array Slot) (ad : Nat → Nat) (ty : zTyp) (I : zIt) (L : zLt) (P : zPt), zLI (n + 1) ty I L P → zH s.heap.size D cA s H locs ad ty I L P → lv_has ls 8 [(4, .int (nI (7 * n))), (3, .ref (ad 160)), (2, .ref (ad 128)), (1, .ref (ad 0)), (0, .ref b)] → W p l e room_1 s m #[Value.ref b] below meth c H locs (40 + 13 * (n + 1)) (700 + 84 * (n + 1)) Q (F0 m 1324 ls [])) :
    W p l e room_1 s m #[Value.ref b] below meth c H locs (40 + 13 * n) (700 + 84 * n) Q (F0 m 124 ls []) := by
  obtain ⟨hx, hb, -⟩ := id M
  obtain ⟨ni, nc, ns, nt, hrs, hT, hR0, hh⟩ := hLI
  obtain ⟨hC, hR, h160, hF⟩ := id hT
  have hbd := zREL_bd hR0
  obtain ⟨hb1, hb2, hb3, hb4⟩ := id hbd
  have hI := zREL_inv hR0
  have ht0 := zc_t0 hC
  have ht128 : ty 128 = some (7, 0) := zr_t hR 128 7 0 (by decide)
  obtain ⟨p0, ep0⟩ : ∃ y : Int32, y = xs (7 * n + 1) := ⟨_, rfl⟩
  obtain ⟨p1, ep1⟩ : ∃ y : Int32, y = xs (7 * n + 2) := ⟨_, rfl⟩
  refine lv_aload_n hx hb dL_law_124 rfl (lv_at hl 3 rfl) ?_
  refine lv_aload_n hx hb dL_law_125 rfl (lv_at hl 4 rfl) ?_
  refine lv_iload hx hb dL_law_126 (lv_at hl 0 rfl) ?_
  refine lv_iconst (v := 1) hx hb dL_law_128 (by decide) ?_
  refine lv_iadd hx hb dL_law_129 ?_
  refine z_sld hx hb hX hbl hw.2 (nI_add (7 * n) 1) (by omega) hL ep0 dL_law_130 ?_
  refine lv_aload_n hx hb dL_law_131 rfl (lv_at hl 4 rfl) ?_
  refine lv_iload hx hb dL_law_132 (lv_at hl 0 rfl) ?_
  refine lv_iconst (v := 2) hx hb dL_law_134 (by decide) ?_
  refine lv_iadd hx hb dL_law_135 ?_
  refine z_sld hx hb hX hbl hw.2 (nI_add (7 * n) 2) (by omega) hL ep1 dL_law_136 ?_
  refine lv_aload_n hx hb dL_law_137 rfl (lv_at hl 1 rfl) ?_
  obtain ⟨oc, eo⟩ : ∃ o : Nat, o = (zsq (zo2 p0 0 99) (zsq (zo2 p1 0 99) (zo3 (nI ni) 10))) := ⟨_, rfl⟩
  obtain ⟨t, et⟩ : ∃ o : Nat, o = (if zin p0 0 99 then (if zin p1 0 99 then (if nI ni = 10 then 2 else 0) else 1) else 1) := ⟨_, rfl⟩
  obtain ⟨r0, er⟩ : ∃ r : Int32, r = (nI ni) := ⟨_, rfl⟩
  have hz : (oc = 0 ∧ t = 0 ∧ (zin p0 0 99) ∧ (zin p1 0 99) ∧ (ni < 10)) ∨ (oc = 2 ∧ t = 1) ∨ (oc = 3 ∧ t = 2) := by
    rw [eo, et]
    exact zt_island hbd.1 p0 p1
  have hz2 : (oc = 0 ∧ (zin p0 0 99) ∧ (zin p1 0 99) ∧ (ni < 10)) ∨ (¬ oc = 0 ∧ ¬ t = 0 ∧ t ≤ 3 ∧ ((if oc = 2 then 1 else (if oc = 3 then 2 else 0)) : Int32) = nI t) := by
    rcases hz with ⟨q, -, cs⟩ | ⟨q, qt⟩ | ⟨q, qt⟩
    · exact Or.inl ⟨q, cs⟩
    · exact Or.inr ⟨by rw [q]; decide, by rw [qt]; decide, by rw [qt]; decide, by rw [q, qt]; rfl⟩
    · exact Or.inr ⟨by rw [q]; decide, by rw [qt]; decide, by rw [qt]; decide, by rw [q, qt]; rfl⟩
  have hoc : oc = 0 ∨ oc = 2 ∨ oc = 3 := by
    rcases hz with ⟨q, -⟩ | ⟨q, -⟩ | ⟨q, -⟩
    · exact Or.inl q
    · exact Or.inr (Or.inl q)
    · exact Or.inr (Or.inr (q))
  obtain ⟨I2, e1⟩ : ∃ X : zIt, X = (zu (zu (zu (zs I (16 + ni) (fun _ => 0)) (16 + ni) 0 p0) (16 + ni) 1 p1) 0 1 (nI (ni + 1))) := ⟨_, rfl⟩
  obtain ⟨L2, e2⟩ : ∃ X : zLt, X = (zs L (16 + ni) (fun _ => 0)) := ⟨_, rfl⟩
  obtain ⟨ty2, e3⟩ : ∃ X : zTyp, X = (zs ty (16 + ni) (some (1, 0))) := ⟨_, rfl⟩
  obtain ⟨P2, e4⟩ : ∃ X : zPt, X = (zu (zs P (16 + ni) (fun _ => none)) 2 ni (some (16 + ni))) := ⟨_, rfl⟩
  have hM : zXi l s.heap.size D cA yX6_island cX6_island 3 .int 7 112 4 20 [.ref (ad 0), .int p0, .int p1] (zW s.heap.size D cA ad ty I L P) oc r0 (fun H => ∃ ad3, (∀ κ t, ty κ = some t → ad3 κ = ad κ) ∧ zW s.heap.size D cA ad3 ty2 I2 L2 P2 H) := by
    rw [eo, er, e1, e2, e3, e4]
    exact c_X6_island l s.heap.size D cA ad ty I L P hl0 ni nc ns nt hC hI (fun z => hF.1 ni (Nat.le_refl _) z) p0 p1
  have hh0 := c_L_island l s.heap.size D cA ad ty I L P 0 ht0 h160 p0 p1 hM hoc (fun H z => z) (by rw [e3]; rw [zs_ne _ _ (by omega)]; exact h160)
  refine z_ci (z_runH (As := [.ref (ad 0), .int p0, .int p1, .ref (ad 160)]) (rest := []) M hN hw.2 zh_island hh0 hw.1 rfl rfl ⟨Nat.le_of_ble_eq_true rfl, Nat.le_of_ble_eq_true rfl⟩ ⟨(by show 40 + 13 * n + 4 ≤ 601024; omega), (by show 700 + 84 * n + 20 ≤ 7293034; omega)⟩ hl.1 (Nat.le_of_ble_eq_true rfl) dL_law_138) hw.2 (fun H locs hw1 hS => ?_)
  obtain ⟨ad2, hag, hw1⟩ := hw1
  refine W.widen (k := 40 + 13 * (n + 1)) (n := 700 + 84 * (n + 1)) (by omega) (by omega) ?_
  rw [← hag _ _ ht0, ← hag _ _ ht128, ← hag _ _ h160] at hl
  rcases hz2 with ⟨hoc0, h1, h2, h3⟩ | ⟨hne, htn, ht3, hk⟩
  · skip
    rw [if_pos hoc0] at hw1
    obtain ⟨K, eK⟩ : ∃ X : zLt, X = zu L2 160 0 r0.toInt64 := ⟨_, rfl⟩
    rw [← eK] at hw1
    have hw : zH s.heap.size D cA s H locs ad2 ty2 I2 K P2 := ⟨hw1, hS⟩
    rw [er] at eK
    have z3 := s3_island hT hR0 hh hn5 (eo.symm.trans hoc0) h1 h2 h3 e1 e2 e3 e4 eK
    obtain ⟨ht, hV2, hT0, hK0, hRB, hLI2, hR2⟩ := z3
    obtain ⟨T3, eT⟩ : ∃ X : zIt, X = (zu (zu (zu (zu I2 128 0 0) 131 ni p0) 132 ni p1) 128 2 (nI (ni + 1))) := ⟨_, rfl⟩
    obtain ⟨K3, eK3⟩ : ∃ X : zLt, X = K := ⟨_, rfl⟩
    obtain ⟨bv, ebv⟩ : ∃ X : Int32, X = nI ni := ⟨_, rfl⟩
    have hRf : zMi l s.heap.size D cA yX7_island cX7_island 4 .int 1 22 0 0 [.ref (ad2 128), .int p0, .int p1] (zW s.heap.size D cA ad2 ty2 I2 K P2) bv (zW s.heap.size D cA ad2 ty2 T3 K3 P2) := by
      have z := c_X7_island l s.heap.size D cA ad2 ty2 I2 K P2 hR2 ni nc ns nt hbd hV2 p0 p1
      rw [if_pos ht, if_pos ht] at z
      rw [eT, eK3, ebv]
      exact z
    have hT0 : T3 128 0 = 0 := by rw [eT]; exact hT0
    have hKb : K3 160 0 = bv.toInt64 := by rw [eK3, ebv]; exact hK0.trans hRB
    have hLI2 : zLI (n + 1) ty2 T3 K3 P2 := by rw [eT, eK3]; exact hLI2
    have hty128 : ty2 128 = some (7, 0) := zr_t hR2 128 7 0 (by decide)
    have hty160 : ty2 160 = some (9, 1) := by obtain ⟨_, _, _, _, _, hq, -⟩ := hLI2; exact hq.2.2.1
    refine z_topi (y := 0) (by rw [hoc0]; rfl) ?_
    refine lv_istore (lv' := [(5, .int 0), (4, .int (nI (7 * n))), (3, .ref (ad2 160)), (2, .ref (ad2 128)), (1, .ref (ad2 0)), (0, .ref b)]) hx hb dL_law_141 hl (by decide) rfl (fun ls hl => ?_)
    refine lv_aload_n hx hb dL_law_143 rfl (lv_at hl 3 rfl) ?_
    refine lv_aload_n hx hb dL_law_144 rfl (lv_at hl 5 rfl) ?_
    refine lv_iload hx hb dL_law_145 (lv_at hl 1 rfl) ?_
    refine lv_iconst (v := 1) hx hb dL_law_147 (by decide) ?_
    refine lv_iadd hx hb dL_law_148 ?_
    refine z_sld hx hb hX hbl hw.2 (nI_add (7 * n) 1) (by omega) hL ep0 dL_law_149 ?_
    refine lv_aload_n hx hb dL_law_150 rfl (lv_at hl 5 rfl) ?_
    refine lv_iload hx hb dL_law_151 (lv_at hl 1 rfl) ?_
    refine lv_iconst (v := 2) hx hb dL_law_153 (by decide) ?_
    refine lv_iadd hx hb dL_law_154 ?_
    refine z_sld hx hb hX hbl hw.2 (nI_add (7 * n) 2) (by omega) hL ep1 dL_law_155 ?_
    refine z_ci0 (z_runV (As := [.int p0, .int p1]) (rest := []) M hw hty128 zc_L_82 hRf hw.1 rfl rfl ⟨Nat.le_of_ble_eq_true rfl, Nat.le_of_ble_eq_true rfl⟩ ⟨(by show 40 + 13 * (n + 1) + 0 ≤ 601024; omega), (by show 700 + 84 * (n + 1) + 0 ≤ 7293034; omega)⟩ hl.1 (Nat.le_of_ble_eq_true rfl) dL_law_156) hw (fun H locs hw => ?_)
    refine lv_istore (lv' := [(6, .int bv), (5, .int 0), (4, .int (nI (7 * n))), (3, .ref (ad2 160)), (2, .ref (ad2 128)), (1, .ref (ad2 0)), (0, .ref b)]) hx hb dL_law_159 hl (by decide) rfl (fun ls hl => ?_)
    refine lv_aload_n hx hb dL_law_161 rfl (lv_at hl 4 rfl) ?_
    refine z_ci0 (z_runV (As := []) (rest := []) M hw hty128 zc_L_83 (c_X7_thrown l s.heap.size D cA ad2 ty2 T3 K3 P2 hR2) hw.1 rfl rfl ⟨Nat.le_of_ble_eq_true rfl, Nat.le_of_ble_eq_true rfl⟩ ⟨(by show 40 + 13 * (n + 1) + 0 ≤ 601024; omega), (by show 700 + 84 * (n + 1) + 0 ≤ 7293034; omega)⟩ hl.1 (Nat.le_of_ble_eq_true rfl) dL_law_162) hw (fun H locs hw => ?_)
    refine z_topi (y := 0) hT0 ?_
    refine lv_iload hx hb dL_law_165 (lv_at hl 1 rfl) ?_
    refine lv_icmp_eq (tgt := 172) hx hb dL_law_167 (by decide) (fun c1 => ?_) (fun c1 => absurd rfl c1)
    refine lv_iload hx hb dL_law_172 (lv_at hl 1 rfl) ?_
    refine lv_if_ne (tgt := 189) hx hb dL_law_174 (by decide) (fun c2 => absurd rfl c2) (fun c2 => ?_)
    refine lv_aload_n hx hb dL_law_177 rfl (lv_at hl 3 rfl) ?_
    refine lv_iconst (v := 0) hx hb dL_law_178 (by decide) ?_
    refine z_lald M hw hty160 (z_ix (i := 0) (k := 0) rfl ⟨by omega, by omega⟩).1 dL_law_179 ?_
    refine z_topl (y := bv.toInt64) (show K3 160 (0 : Int32).toNatClampNeg = _ from hKb) ?_
    refine lv_iload hx hb dL_law_180 (lv_at hl 0 rfl) ?_
    refine lv_i2l hx hb dL_law_182 rfl ?_
    refine W.lcmp hx hb dL_law_183 ?_
    refine lv_if_eq (tgt := 189) hx hb dL_law_184 (by decide) (fun c3 => ?_) (fun c3 => absurd ((lg_cmp_eq _ _).mpr rfl) c3)
    refine lv_goto (tgt := 1324) hx hb dL_law_189 (by decide) ?_
    exact kk _ _ _ _ _ _ _ _ hLI2 hw (lv_sub hl [2, 3, 4, 5, 6] rfl)
  · skip
    rw [if_neg hne] at hw1
    have hw : zH s.heap.size D cA s H locs ad2 ty I L P := ⟨hw1, hS⟩
    have htn2 : ¬ (if zin p0 0 99 then (if zin p1 0 99 then (if nI ni = 10 then 2 else 0) else 1) else 1) = 0 := by rw [← et]; exact htn
    obtain ⟨T3, eT⟩ : ∃ X : zIt, X = zu I 128 0 (nI t) := ⟨_, rfl⟩
    have hRf : zMi l s.heap.size D cA yX7_island cX7_island 4 .int 1 22 0 0 [.ref (ad2 128), .int p0, .int p1] (zW s.heap.size D cA ad2 ty I L P) 0 (zW s.heap.size D cA ad2 ty T3 L P) := by
      have z := c_X7_island l s.heap.size D cA ad2 ty I L P hR ni nc ns nt hbd (zREL_rv hR0) p0 p1
      rw [if_neg htn2, if_neg htn2] at z
      rw [eT, et]
      exact z
    have hT0 : T3 128 0 = nI t := by rw [eT, zu_self]
    have hLI2 : zLI (n + 1) ty T3 L P := by rw [eT]; exact zLI_throw hT hR0 hh _
    have hnt : ¬ nI t = 0 := nI_ne0 (by omega) (by omega)
    refine z_topi (y := nI t) hk ?_
    refine lv_istore (lv' := [(5, .int (nI t)), (4, .int (nI (7 * n))), (3, .ref (ad2 160)), (2, .ref (ad2 128)), (1, .ref (ad2 0)), (0, .ref b)]) hx hb dL_law_141 hl (by decide) rfl (fun ls hl => ?_)
    refine lv_aload_n hx hb dL_law_143 rfl (lv_at hl 3 rfl) ?_
    refine lv_aload_n hx hb dL_law_144 rfl (lv_at hl 5 rfl) ?_
    refine lv_iload hx hb dL_law_145 (lv_at hl 1 rfl) ?_
    refine lv_iconst (v := 1) hx hb dL_law_147 (by decide) ?_
    refine lv_iadd hx hb dL_law_148 ?_
    refine z_sld hx hb hX hbl hw.2 (nI_add (7 * n) 1) (by omega) hL ep0 dL_law_149 ?_
    refine lv_aload_n hx hb dL_law_150 rfl (lv_at hl 5 rfl) ?_
    refine lv_iload hx hb dL_law_151 (lv_at hl 1 rfl) ?_
    refine lv_iconst (v := 2) hx hb dL_law_153 (by decide) ?_
    refine lv_iadd hx hb dL_law_154 ?_
    refine z_sld hx hb hX hbl hw.2 (nI_add (7 * n) 2) (by omega) hL ep1 dL_law_155 ?_
    refine z_ci0 (z_runV (As := [.int p0, .int p1]) (rest := []) M hw ht128 zc_L_82 hRf hw.1 rfl rfl ⟨Nat.le_of_ble_eq_true rfl, Nat.le_of_ble_eq_true rfl⟩ ⟨(by show 40 + 13 * (n + 1) + 0 ≤ 601024; omega), (by show 700 + 84 * (n + 1) + 0 ≤ 7293034; omega)⟩ hl.1 (Nat.le_of_ble_eq_true rfl) dL_law_156) hw (fun H locs hw => ?_)
    refine lv_istore (lv' := [(6, .int 0), (5, .int (nI t)), (4, .int (nI (7 * n))), (3, .ref (ad2 160)), (2, .ref (ad2 128)), (1, .ref (ad2 0)), (0, .ref b)]) hx hb dL_law_159 hl (by decide) rfl (fun ls hl => ?_)
    refine lv_aload_n hx hb dL_law_161 rfl (lv_at hl 4 rfl) ?_
    refine z_ci0 (z_runV (As := []) (rest := []) M hw ht128 zc_L_83 (c_X7_thrown l s.heap.size D cA ad2 ty T3 L P hR) hw.1 rfl rfl ⟨Nat.le_of_ble_eq_true rfl, Nat.le_of_ble_eq_true rfl⟩ ⟨(by show 40 + 13 * (n + 1) + 0 ≤ 601024; omega), (by show 700 + 84 * (n + 1) + 0 ≤ 7293034; omega)⟩ hl.1 (Nat.le_of_ble_eq_true rfl) dL_law_162) hw (fun H locs hw => ?_)
    refine z_topi (y := nI t) hT0 ?_
    refine lv_iload hx hb dL_law_165 (lv_at hl 1 rfl) ?_
    refine lv_icmp_eq (tgt := 172) hx hb dL_law_167 (by decide) (fun c1 => ?_) (fun c1 => absurd rfl c1)
    refine lv_iload hx hb dL_law_172 (lv_at hl 1 rfl) ?_
    refine lv_if_ne (tgt := 189) hx hb dL_law_174 (by decide) (fun c2 => ?_) (fun c2 => absurd c2 hnt)
    refine lv_goto (tgt := 1324) hx hb dL_law_189 (by decide) ?_
    exact kk _ _ _ _ _ _ _ _ hLI2 hw (lv_sub hl [2, 3, 4, 5, 6] rfl)
set_option maxHeartbeats 4000000 in
set_option maxRecDepth 100000 in
theorem z_case_cable (hl0 : l.stackTraces = false) (M : zM p s m c cL_law RL 8 s.heap.size D cA) (hN : zNcs s) (hX : va_X b Ln xs s s.heap) (hbl : b < s.heap.size) (hL : Ln ≤ 4000) (hn7 : 7 * n + 7 ≤ Ln) (hn5 : n < 512) (hLI : zLI n ty I L P) (hw : zH s.heap.size D cA s H locs ad ty I L P) (hl : lv_has ls 8 [(4, .int (nI (7 * n))), (3, .ref (ad 160)), (2, .ref (ad 128)), (1, .ref (ad 0)), (0, .ref b)])
    (kk : ∀ (H : Heap) (locs : List Loc) (ls : Array Slot) (ad : Nat → Nat) (ty : zTyp) (I : zIt) (L : zLt) (P : zPt), zLI (n + 1) ty I L P → zH s.heap.size D cA s H locs ad ty I L P → lv_has ls 8 [(4, .int (nI (7 * n))), (3, .ref (ad 160)), (2, .ref (ad 128)), (1, .ref (ad 0)), (0, .ref b)] → W p l e room_1 s m #[Value.ref b] below meth c H locs (40 + 13 * (n + 1)) (700 + 84 * (n + 1)) Q (F0 m 1324 ls [])) :
    W p l e room_1 s m #[Value.ref b] below meth c H locs (40 + 13 * n) (700 + 84 * n) Q (F0 m 192 ls []) := by
  obtain ⟨hx, hb, -⟩ := id M
  obtain ⟨ni, nc, ns, nt, hrs, hT, hR0, hh⟩ := hLI
  obtain ⟨hC, hR, h160, hF⟩ := id hT
  have hbd := zREL_bd hR0
  obtain ⟨hb1, hb2, hb3, hb4⟩ := id hbd
  have hI := zREL_inv hR0
  have ht0 := zc_t0 hC
  have ht128 : ty 128 = some (7, 0) := zr_t hR 128 7 0 (by decide)
  obtain ⟨p0, ep0⟩ : ∃ y : Int32, y = xs (7 * n + 1) := ⟨_, rfl⟩
  obtain ⟨p1, ep1⟩ : ∃ y : Int32, y = xs (7 * n + 2) := ⟨_, rfl⟩
  obtain ⟨p2, ep2⟩ : ∃ y : Int32, y = xs (7 * n + 3) := ⟨_, rfl⟩
  obtain ⟨p3, ep3⟩ : ∃ y : Int32, y = xs (7 * n + 4) := ⟨_, rfl⟩
  obtain ⟨p4, ep4⟩ : ∃ y : Int32, y = xs (7 * n + 5) := ⟨_, rfl⟩
  refine lv_aload_n hx hb dL_law_192 rfl (lv_at hl 3 rfl) ?_
  refine lv_aload_n hx hb dL_law_193 rfl (lv_at hl 4 rfl) ?_
  refine lv_iload hx hb dL_law_194 (lv_at hl 0 rfl) ?_
  refine lv_iconst (v := 1) hx hb dL_law_196 (by decide) ?_
  refine lv_iadd hx hb dL_law_197 ?_
  refine z_sld hx hb hX hbl hw.2 (nI_add (7 * n) 1) (by omega) hL ep0 dL_law_198 ?_
  refine lv_aload_n hx hb dL_law_199 rfl (lv_at hl 4 rfl) ?_
  refine lv_iload hx hb dL_law_200 (lv_at hl 0 rfl) ?_
  refine lv_iconst (v := 2) hx hb dL_law_202 (by decide) ?_
  refine lv_iadd hx hb dL_law_203 ?_
  refine z_sld hx hb hX hbl hw.2 (nI_add (7 * n) 2) (by omega) hL ep1 dL_law_204 ?_
  refine lv_aload_n hx hb dL_law_205 rfl (lv_at hl 4 rfl) ?_
  refine lv_iload hx hb dL_law_206 (lv_at hl 0 rfl) ?_
  refine lv_iconst (v := 3) hx hb dL_law_208 (by decide) ?_
  refine lv_iadd hx hb dL_law_209 ?_
  refine z_sld hx hb hX hbl hw.2 (nI_add (7 * n) 3) (by omega) hL ep2 dL_law_210 ?_
  refine lv_aload_n hx hb dL_law_211 rfl (lv_at hl 4 rfl) ?_
  refine lv_iload hx hb dL_law_212 (lv_at hl 0 rfl) ?_
  refine lv_iconst (v := 4) hx hb dL_law_214 (by decide) ?_
  refine lv_iadd hx hb dL_law_215 ?_
  refine z_sld hx hb hX hbl hw.2 (nI_add (7 * n) 4) (by omega) hL ep3 dL_law_216 ?_
  refine lv_aload_n hx hb dL_law_217 rfl (lv_at hl 4 rfl) ?_
  refine lv_iload hx hb dL_law_218 (lv_at hl 0 rfl) ?_
  refine lv_iconst (v := 5) hx hb dL_law_220 (by decide) ?_
  refine lv_iadd hx hb dL_law_221 ?_
  refine z_sld hx hb hX hbl hw.2 (nI_add (7 * n) 5) (by omega) hL ep4 dL_law_222 ?_
  refine lv_aload_n hx hb dL_law_223 rfl (lv_at hl 1 rfl) ?_
  obtain ⟨oc, eo⟩ : ∃ o : Nat, o = (zsq (zo1 p0 ni) (zsq (zo1 p1 ni) (zsq (zoU p0 p1) (zsq (zo2 p2 1 8) (zsq (zo2 p3 1 500) (zsq (zo2 p4 0 9999) (zo3 (nI nc) 16))))))) := ⟨_, rfl⟩
  obtain ⟨t, et⟩ : ∃ o : Nat, o = (if zlt p0 ni then (if zlt p1 ni then (if p0 = p1 then 2 else if zin p2 1 8 then (if zin p3 1 500 then (if zin p4 0 9999 then (if nI nc = 16 then 3 else 0) else 2) else 2) else 2) else 1) else 1) := ⟨_, rfl⟩
  obtain ⟨r0, er⟩ : ∃ r : Int32, r = (nI nc) := ⟨_, rfl⟩
  have hz : (oc = 0 ∧ t = 0 ∧ (zlt p0 ni) ∧ (zlt p1 ni) ∧ (¬ p0 = p1) ∧ (zin p2 1 8) ∧ (zin p3 1 500) ∧ (zin p4 0 9999) ∧ (nc < 16)) ∨ (oc = 1 ∧ t = 1) ∨ (oc = 2 ∧ t = 2) ∨ (oc = 3 ∧ t = 3) := by
    rw [eo, et]
    exact zt_cable hbd.2.1 p0 p1 p2 p3 p4
  have hz2 : (oc = 0 ∧ (zlt p0 ni) ∧ (zlt p1 ni) ∧ (¬ p0 = p1) ∧ (zin p2 1 8) ∧ (zin p3 1 500) ∧ (zin p4 0 9999) ∧ (nc < 16)) ∨ (¬ oc = 0 ∧ ¬ t = 0 ∧ t ≤ 3 ∧ ((if oc = 1 then 1 else (if oc = 2 then 2 else (if oc = 3 then 3 else 0))) : Int32) = nI t) := by
    rcases hz with ⟨q, -, cs⟩ | ⟨q, qt⟩ | ⟨q, qt⟩ | ⟨q, qt⟩
    · exact Or.inl ⟨q, cs⟩
    · exact Or.inr ⟨by rw [q]; decide, by rw [qt]; decide, by rw [qt]; decide, by rw [q, qt]; rfl⟩
    · exact Or.inr ⟨by rw [q]; decide, by rw [qt]; decide, by rw [qt]; decide, by rw [q, qt]; rfl⟩
    · exact Or.inr ⟨by rw [q]; decide, by rw [qt]; decide, by rw [qt]; decide, by rw [q, qt]; rfl⟩
  have hoc : oc = 0 ∨ oc = 1 ∨ oc = 2 ∨ oc = 3 := by
    rcases hz with ⟨q, -⟩ | ⟨q, -⟩ | ⟨q, -⟩ | ⟨q, -⟩
    · exact Or.inl q
    · exact Or.inr (Or.inl q)
    · exact Or.inr (Or.inr (Or.inl q))
    · exact Or.inr (Or.inr (Or.inr (q)))
  obtain ⟨I2, e1⟩ : ∃ X : zIt, X = (zu (zu (zu (zu (zu (zu (zu (zs (zu I 0 7 1) (32 + nc) (fun _ => 0)) (32 + nc) 5 0) (32 + nc) 0 (nI p0.toNatClampNeg)) (32 + nc) 1 (nI p1.toNatClampNeg)) (32 + nc) 2 p2) (32 + nc) 3 p3) (32 + nc) 4 p4) 1 1 (nI (nc + 1))) := ⟨_, rfl⟩
  obtain ⟨L2, e2⟩ : ∃ X : zLt, X = (zs L (32 + nc) (fun _ => 0)) := ⟨_, rfl⟩
  obtain ⟨ty2, e3⟩ : ∃ X : zTyp, X = (zs ty (32 + nc) (some (0, 0))) := ⟨_, rfl⟩
  obtain ⟨P2, e4⟩ : ∃ X : zPt, X = (zu (zs P (32 + nc) (fun _ => none)) 3 nc (some (32 + nc))) := ⟨_, rfl⟩
  have hM : zXi l s.heap.size D cA yX6_cable cX6_cable 6 .int 7 112 8 48 [.ref (ad 0), .int p0, .int p1, .int p2, .int p3, .int p4] (zW s.heap.size D cA ad ty I L P) oc r0 (fun H => ∃ ad3, (∀ κ t, ty κ = some t → ad3 κ = ad κ) ∧ zW s.heap.size D cA ad3 ty2 I2 L2 P2 H) := by
    rw [eo, er, e1, e2, e3, e4]
    exact c_X6_cable l s.heap.size D cA ad ty I L P hl0 ni nc ns nt hC hI (fun z => hF.2.1 nc (Nat.le_refl _) z) p0 p1 p2 p3 p4
  have hh0 := c_L_cable l s.heap.size D cA ad ty I L P 0 ht0 h160 p0 p1 p2 p3 p4 hM hoc (fun H z => z) (by rw [e3]; rw [zs_ne _ _ (by omega)]; exact h160)
  refine z_ci (z_runH (As := [.ref (ad 0), .int p0, .int p1, .int p2, .int p3, .int p4, .ref (ad 160)]) (rest := []) M hN hw.2 zh_cable hh0 hw.1 rfl rfl ⟨Nat.le_of_ble_eq_true rfl, Nat.le_of_ble_eq_true rfl⟩ ⟨(by show 40 + 13 * n + 8 ≤ 601024; omega), (by show 700 + 84 * n + 48 ≤ 7293034; omega)⟩ hl.1 (Nat.le_of_ble_eq_true rfl) dL_law_224) hw.2 (fun H locs hw1 hS => ?_)
  obtain ⟨ad2, hag, hw1⟩ := hw1
  refine W.widen (k := 40 + 13 * (n + 1)) (n := 700 + 84 * (n + 1)) (by omega) (by omega) ?_
  rw [← hag _ _ ht0, ← hag _ _ ht128, ← hag _ _ h160] at hl
  rcases hz2 with ⟨hoc0, h1, h2, h3, h4, h5, h6, h7⟩ | ⟨hne, htn, ht3, hk⟩
  · skip
    rw [if_pos hoc0] at hw1
    obtain ⟨K, eK⟩ : ∃ X : zLt, X = zu L2 160 0 r0.toInt64 := ⟨_, rfl⟩
    rw [← eK] at hw1
    have hw : zH s.heap.size D cA s H locs ad2 ty2 I2 K P2 := ⟨hw1, hS⟩
    rw [er] at eK
    have z3 := s3_cable hT hR0 hh hn5 (eo.symm.trans hoc0) h1 h2 h3 h4 h5 h6 h7 e1 e2 e3 e4 eK
    obtain ⟨ht, hV2, hT0, hK0, hRB, hLI2, hR2⟩ := z3
    obtain ⟨T3, eT⟩ : ∃ X : zIt, X = (zu (zu (zu (zu (zu (zu (zu I2 128 0 0) 134 nc p0) 135 nc p1) 136 nc p2) 137 nc p3) 138 nc p4) 128 5 (nI (nc + 1))) := ⟨_, rfl⟩
    obtain ⟨K3, eK3⟩ : ∃ X : zLt, X = K := ⟨_, rfl⟩
    obtain ⟨bv, ebv⟩ : ∃ X : Int32, X = nI nc := ⟨_, rfl⟩
    have hRf : zMi l s.heap.size D cA yX7_cable cX7_cable 8 .int 2 43 0 0 [.ref (ad2 128), .int p0, .int p1, .int p2, .int p3, .int p4] (zW s.heap.size D cA ad2 ty2 I2 K P2) bv (zW s.heap.size D cA ad2 ty2 T3 K3 P2) := by
      have z := c_X7_cable l s.heap.size D cA ad2 ty2 I2 K P2 hR2 ni nc ns nt hbd hV2 p0 p1 p2 p3 p4
      rw [if_pos ht, if_pos ht] at z
      rw [eT, eK3, ebv]
      exact z
    have hT0 : T3 128 0 = 0 := by rw [eT]; exact hT0
    have hKb : K3 160 0 = bv.toInt64 := by rw [eK3, ebv]; exact hK0.trans hRB
    have hLI2 : zLI (n + 1) ty2 T3 K3 P2 := by rw [eT, eK3]; exact hLI2
    have hty128 : ty2 128 = some (7, 0) := zr_t hR2 128 7 0 (by decide)
    have hty160 : ty2 160 = some (9, 1) := by obtain ⟨_, _, _, _, _, hq, -⟩ := hLI2; exact hq.2.2.1
    refine z_topi (y := 0) (by rw [hoc0]; rfl) ?_
    refine lv_istore (lv' := [(5, .int 0), (4, .int (nI (7 * n))), (3, .ref (ad2 160)), (2, .ref (ad2 128)), (1, .ref (ad2 0)), (0, .ref b)]) hx hb dL_law_227 hl (by decide) rfl (fun ls hl => ?_)
    refine lv_aload_n hx hb dL_law_229 rfl (lv_at hl 3 rfl) ?_
    refine lv_aload_n hx hb dL_law_230 rfl (lv_at hl 5 rfl) ?_
    refine lv_iload hx hb dL_law_231 (lv_at hl 1 rfl) ?_
    refine lv_iconst (v := 1) hx hb dL_law_233 (by decide) ?_
    refine lv_iadd hx hb dL_law_234 ?_
    refine z_sld hx hb hX hbl hw.2 (nI_add (7 * n) 1) (by omega) hL ep0 dL_law_235 ?_
    refine lv_aload_n hx hb dL_law_236 rfl (lv_at hl 5 rfl) ?_
    refine lv_iload hx hb dL_law_237 (lv_at hl 1 rfl) ?_
    refine lv_iconst (v := 2) hx hb dL_law_239 (by decide) ?_
    refine lv_iadd hx hb dL_law_240 ?_
    refine z_sld hx hb hX hbl hw.2 (nI_add (7 * n) 2) (by omega) hL ep1 dL_law_241 ?_
    refine lv_aload_n hx hb dL_law_242 rfl (lv_at hl 5 rfl) ?_
    refine lv_iload hx hb dL_law_243 (lv_at hl 1 rfl) ?_
    refine lv_iconst (v := 3) hx hb dL_law_245 (by decide) ?_
    refine lv_iadd hx hb dL_law_246 ?_
    refine z_sld hx hb hX hbl hw.2 (nI_add (7 * n) 3) (by omega) hL ep2 dL_law_247 ?_
    refine lv_aload_n hx hb dL_law_248 rfl (lv_at hl 5 rfl) ?_
    refine lv_iload hx hb dL_law_249 (lv_at hl 1 rfl) ?_
    refine lv_iconst (v := 4) hx hb dL_law_251 (by decide) ?_
    refine lv_iadd hx hb dL_law_252 ?_
    refine z_sld hx hb hX hbl hw.2 (nI_add (7 * n) 4) (by omega) hL ep3 dL_law_253 ?_
    refine lv_aload_n hx hb dL_law_254 rfl (lv_at hl 5 rfl) ?_
    refine lv_iload hx hb dL_law_255 (lv_at hl 1 rfl) ?_
    refine lv_iconst (v := 5) hx hb dL_law_257 (by decide) ?_
    refine lv_iadd hx hb dL_law_258 ?_
    refine z_sld hx hb hX hbl hw.2 (nI_add (7 * n) 5) (by omega) hL ep4 dL_law_259 ?_
    refine z_ci0 (z_runV (As := [.int p0, .int p1, .int p2, .int p3, .int p4]) (rest := []) M hw hty128 zc_L_90 hRf hw.1 rfl rfl ⟨Nat.le_of_ble_eq_true rfl, Nat.le_of_ble_eq_true rfl⟩ ⟨(by show 40 + 13 * (n + 1) + 0 ≤ 601024; omega), (by show 700 + 84 * (n + 1) + 0 ≤ 7293034; omega)⟩ hl.1 (Nat.le_of_ble_eq_true rfl) dL_law_260) hw (fun H locs hw => ?_)
    refine lv_istore (lv' := [(6, .int bv), (5, .int 0), (4, .int (nI (7 * n))), (3, .ref (ad2 160)), (2, .ref (ad2 128)), (1, .ref (ad2 0)), (0, .ref b)]) hx hb dL_law_263 hl (by decide) rfl (fun ls hl => ?_)
    refine lv_aload_n hx hb dL_law_265 rfl (lv_at hl 4 rfl) ?_
    refine z_ci0 (z_runV (As := []) (rest := []) M hw hty128 zc_L_83 (c_X7_thrown l s.heap.size D cA ad2 ty2 T3 K3 P2 hR2) hw.1 rfl rfl ⟨Nat.le_of_ble_eq_true rfl, Nat.le_of_ble_eq_true rfl⟩ ⟨(by show 40 + 13 * (n + 1) + 0 ≤ 601024; omega), (by show 700 + 84 * (n + 1) + 0 ≤ 7293034; omega)⟩ hl.1 (Nat.le_of_ble_eq_true rfl) dL_law_266) hw (fun H locs hw => ?_)
    refine z_topi (y := 0) hT0 ?_
    refine lv_iload hx hb dL_law_269 (lv_at hl 1 rfl) ?_
    refine lv_icmp_eq (tgt := 276) hx hb dL_law_271 (by decide) (fun c1 => ?_) (fun c1 => absurd rfl c1)
    refine lv_iload hx hb dL_law_276 (lv_at hl 1 rfl) ?_
    refine lv_if_ne (tgt := 293) hx hb dL_law_278 (by decide) (fun c2 => absurd rfl c2) (fun c2 => ?_)
    refine lv_aload_n hx hb dL_law_281 rfl (lv_at hl 3 rfl) ?_
    refine lv_iconst (v := 0) hx hb dL_law_282 (by decide) ?_
    refine z_lald M hw hty160 (z_ix (i := 0) (k := 0) rfl ⟨by omega, by omega⟩).1 dL_law_283 ?_
    refine z_topl (y := bv.toInt64) (show K3 160 (0 : Int32).toNatClampNeg = _ from hKb) ?_
    refine lv_iload hx hb dL_law_284 (lv_at hl 0 rfl) ?_
    refine lv_i2l hx hb dL_law_286 rfl ?_
    refine W.lcmp hx hb dL_law_287 ?_
    refine lv_if_eq (tgt := 293) hx hb dL_law_288 (by decide) (fun c3 => ?_) (fun c3 => absurd ((lg_cmp_eq _ _).mpr rfl) c3)
    refine lv_goto (tgt := 1324) hx hb dL_law_293 (by decide) ?_
    exact kk _ _ _ _ _ _ _ _ hLI2 hw (lv_sub hl [2, 3, 4, 5, 6] rfl)
  · skip
    rw [if_neg hne] at hw1
    have hw : zH s.heap.size D cA s H locs ad2 ty I L P := ⟨hw1, hS⟩
    have htn2 : ¬ (if zlt p0 ni then (if zlt p1 ni then (if p0 = p1 then 2 else if zin p2 1 8 then (if zin p3 1 500 then (if zin p4 0 9999 then (if nI nc = 16 then 3 else 0) else 2) else 2) else 2) else 1) else 1) = 0 := by rw [← et]; exact htn
    obtain ⟨T3, eT⟩ : ∃ X : zIt, X = zu I 128 0 (nI t) := ⟨_, rfl⟩
    have hRf : zMi l s.heap.size D cA yX7_cable cX7_cable 8 .int 2 43 0 0 [.ref (ad2 128), .int p0, .int p1, .int p2, .int p3, .int p4] (zW s.heap.size D cA ad2 ty I L P) 0 (zW s.heap.size D cA ad2 ty T3 L P) := by
      have z := c_X7_cable l s.heap.size D cA ad2 ty I L P hR ni nc ns nt hbd (zREL_rv hR0) p0 p1 p2 p3 p4
      rw [if_neg htn2, if_neg htn2] at z
      rw [eT, et]
      exact z
    have hT0 : T3 128 0 = nI t := by rw [eT, zu_self]
    have hLI2 : zLI (n + 1) ty T3 L P := by rw [eT]; exact zLI_throw hT hR0 hh _
    have hnt : ¬ nI t = 0 := nI_ne0 (by omega) (by omega)
    refine z_topi (y := nI t) hk ?_
    refine lv_istore (lv' := [(5, .int (nI t)), (4, .int (nI (7 * n))), (3, .ref (ad2 160)), (2, .ref (ad2 128)), (1, .ref (ad2 0)), (0, .ref b)]) hx hb dL_law_227 hl (by decide) rfl (fun ls hl => ?_)
    refine lv_aload_n hx hb dL_law_229 rfl (lv_at hl 3 rfl) ?_
    refine lv_aload_n hx hb dL_law_230 rfl (lv_at hl 5 rfl) ?_
    refine lv_iload hx hb dL_law_231 (lv_at hl 1 rfl) ?_
    refine lv_iconst (v := 1) hx hb dL_law_233 (by decide) ?_
    refine lv_iadd hx hb dL_law_234 ?_
    refine z_sld hx hb hX hbl hw.2 (nI_add (7 * n) 1) (by omega) hL ep0 dL_law_235 ?_
    refine lv_aload_n hx hb dL_law_236 rfl (lv_at hl 5 rfl) ?_
    refine lv_iload hx hb dL_law_237 (lv_at hl 1 rfl) ?_
    refine lv_iconst (v := 2) hx hb dL_law_239 (by decide) ?_
    refine lv_iadd hx hb dL_law_240 ?_
    refine z_sld hx hb hX hbl hw.2 (nI_add (7 * n) 2) (by omega) hL ep1 dL_law_241 ?_
    refine lv_aload_n hx hb dL_law_242 rfl (lv_at hl 5 rfl) ?_
    refine lv_iload hx hb dL_law_243 (lv_at hl 1 rfl) ?_
    refine lv_iconst (v := 3) hx hb dL_law_245 (by decide) ?_
    refine lv_iadd hx hb dL_law_246 ?_
    refine z_sld hx hb hX hbl hw.2 (nI_add (7 * n) 3) (by omega) hL ep2 dL_law_247 ?_
    refine lv_aload_n hx hb dL_law_248 rfl (lv_at hl 5 rfl) ?_
    refine lv_iload hx hb dL_law_249 (lv_at hl 1 rfl) ?_
    refine lv_iconst (v := 4) hx hb dL_law_251 (by decide) ?_
    refine lv_iadd hx hb dL_law_252 ?_
    refine z_sld hx hb hX hbl hw.2 (nI_add (7 * n) 4) (by omega) hL ep3 dL_law_253 ?_
    refine lv_aload_n hx hb dL_law_254 rfl (lv_at hl 5 rfl) ?_
    refine lv_iload hx hb dL_law_255 (lv_at hl 1 rfl) ?_
    refine lv_iconst (v := 5) hx hb dL_law_257 (by decide) ?_
    refine lv_iadd hx hb dL_law_258 ?_
    refine z_sld hx hb hX hbl hw.2 (nI_add (7 * n) 5) (by omega) hL ep4 dL_law_259 ?_
    refine z_ci0 (z_runV (As := [.int p0, .int p1, .int p2, .int p3, .int p4]) (rest := []) M hw ht128 zc_L_90 hRf hw.1 rfl rfl ⟨Nat.le_of_ble_eq_true rfl, Nat.le_of_ble_eq_true rfl⟩ ⟨(by show 40 + 13 * (n + 1) + 0 ≤ 601024; omega), (by show 700 + 84 * (n + 1) + 0 ≤ 7293034; omega)⟩ hl.1 (Nat.le_of_ble_eq_true rfl) dL_law_260) hw (fun H locs hw => ?_)
    refine lv_istore (lv' := [(6, .int 0), (5, .int (nI t)), (4, .int (nI (7 * n))), (3, .ref (ad2 160)), (2, .ref (ad2 128)), (1, .ref (ad2 0)), (0, .ref b)]) hx hb dL_law_263 hl (by decide) rfl (fun ls hl => ?_)
    refine lv_aload_n hx hb dL_law_265 rfl (lv_at hl 4 rfl) ?_
    refine z_ci0 (z_runV (As := []) (rest := []) M hw ht128 zc_L_83 (c_X7_thrown l s.heap.size D cA ad2 ty T3 L P hR) hw.1 rfl rfl ⟨Nat.le_of_ble_eq_true rfl, Nat.le_of_ble_eq_true rfl⟩ ⟨(by show 40 + 13 * (n + 1) + 0 ≤ 601024; omega), (by show 700 + 84 * (n + 1) + 0 ≤ 7293034; omega)⟩ hl.1 (Nat.le_of_ble_eq_true rfl) dL_law_266) hw (fun H locs hw => ?_)
    refine z_topi (y := nI t) hT0 ?_
    refine lv_iload hx hb dL_law_269 (lv_at hl 1 rfl) ?_
    refine lv_icmp_eq (tgt := 276) hx hb dL_law_271 (by decide) (fun c1 => ?_) (fun c1 => absurd rfl c1)
    refine lv_iload hx hb dL_law_276 (lv_at hl 1 rfl) ?_
    refine lv_if_ne (tgt := 293) hx hb dL_law_278 (by decide) (fun c2 => ?_) (fun c2 => absurd c2 hnt)
    refine lv_goto (tgt := 1324) hx hb dL_law_293 (by decide) ?_
    exact kk _ _ _ _ _ _ _ _ hLI2 hw (lv_sub hl [2, 3, 4, 5, 6] rfl)
set_option maxHeartbeats 4000000 in
set_option maxRecDepth 100000 in
theorem z_case_price (hl0 : l.stackTraces = false) (M : zM p s m c cL_law RL 8 s.heap.size D cA) (hN : zNcs s) (hX : va_X b Ln xs s s.heap) (hbl : b < s.heap.size) (hL : Ln ≤ 4000) (hn7 : 7 * n + 7 ≤ Ln) (hn5 : n < 512) (hLI : zLI n ty I L P) (hw : zH s.heap.size D cA s H locs ad ty I L P) (hl : lv_has ls 8 [(4, .int (nI (7 * n))), (3, .ref (ad 160)), (2, .ref (ad 128)), (1, .ref (ad 0)), (0, .ref b)])
    (kk : ∀ (H : Heap) (locs : List Loc) (ls : Array Slot) (ad : Nat → Nat) (ty : zTyp) (I : zIt) (L : zLt) (P : zPt), zLI (n + 1) ty I L P → zH s.heap.size D cA s H locs ad ty I L P → lv_has ls 8 [(4, .int (nI (7 * n))), (3, .ref (ad 160)), (2, .ref (ad 128)), (1, .ref (ad 0)), (0, .ref b)] → W p l e room_1 s m #[Value.ref b] below meth c H locs (40 + 13 * (n + 1)) (700 + 84 * (n + 1)) Q (F0 m 1324 ls [])) :
    W p l e room_1 s m #[Value.ref b] below meth c H locs (40 + 13 * n) (700 + 84 * n) Q (F0 m 296 ls []) := by
  obtain ⟨hx, hb, -⟩ := id M
  obtain ⟨ni, nc, ns, nt, hrs, hT, hR0, hh⟩ := hLI
  obtain ⟨hC, hR, h160, hF⟩ := id hT
  have hbd := zREL_bd hR0
  obtain ⟨hb1, hb2, hb3, hb4⟩ := id hbd
  have hI := zREL_inv hR0
  have ht0 := zc_t0 hC
  have ht128 : ty 128 = some (7, 0) := zr_t hR 128 7 0 (by decide)
  obtain ⟨p0, ep0⟩ : ∃ y : Int32, y = xs (7 * n + 1) := ⟨_, rfl⟩
  obtain ⟨p1, ep1⟩ : ∃ y : Int32, y = xs (7 * n + 2) := ⟨_, rfl⟩
  refine lv_aload_n hx hb dL_law_296 rfl (lv_at hl 3 rfl) ?_
  refine lv_aload_n hx hb dL_law_297 rfl (lv_at hl 4 rfl) ?_
  refine lv_iload hx hb dL_law_298 (lv_at hl 0 rfl) ?_
  refine lv_iconst (v := 1) hx hb dL_law_300 (by decide) ?_
  refine lv_iadd hx hb dL_law_301 ?_
  refine z_sld hx hb hX hbl hw.2 (nI_add (7 * n) 1) (by omega) hL ep0 dL_law_302 ?_
  refine lv_aload_n hx hb dL_law_303 rfl (lv_at hl 4 rfl) ?_
  refine lv_iload hx hb dL_law_304 (lv_at hl 0 rfl) ?_
  refine lv_iconst (v := 2) hx hb dL_law_306 (by decide) ?_
  refine lv_iadd hx hb dL_law_307 ?_
  refine z_sld hx hb hX hbl hw.2 (nI_add (7 * n) 2) (by omega) hL ep1 dL_law_308 ?_
  refine lv_aload_n hx hb dL_law_309 rfl (lv_at hl 1 rfl) ?_
  obtain ⟨oc, eo⟩ : ∃ o : Nat, o = (zsq (zo1 p0 nc) (zo2 p1 0 9999)) := ⟨_, rfl⟩
  obtain ⟨t, et⟩ : ∃ o : Nat, o = (if zlt p0 nc then (if zin p1 0 9999 then 0 else 2) else 1) := ⟨_, rfl⟩
  obtain ⟨r0, er⟩ : ∃ r : Int32, r = (I (32 + p0.toNatClampNeg) 4) := ⟨_, rfl⟩
  have hz : (oc = 0 ∧ t = 0 ∧ (zlt p0 nc) ∧ (zin p1 0 9999)) ∨ (oc = 1 ∧ t = 1) ∨ (oc = 2 ∧ t = 2) := by
    rw [eo, et]
    exact zt_price p0 p1
  have hz2 : (oc = 0 ∧ (zlt p0 nc) ∧ (zin p1 0 9999)) ∨ (¬ oc = 0 ∧ ¬ t = 0 ∧ t ≤ 3 ∧ ((if oc = 1 then 1 else (if oc = 2 then 2 else 0)) : Int32) = nI t) := by
    rcases hz with ⟨q, -, cs⟩ | ⟨q, qt⟩ | ⟨q, qt⟩
    · exact Or.inl ⟨q, cs⟩
    · exact Or.inr ⟨by rw [q]; decide, by rw [qt]; decide, by rw [qt]; decide, by rw [q, qt]; rfl⟩
    · exact Or.inr ⟨by rw [q]; decide, by rw [qt]; decide, by rw [qt]; decide, by rw [q, qt]; rfl⟩
  have hoc : oc = 0 ∨ oc = 1 ∨ oc = 2 := by
    rcases hz with ⟨q, -⟩ | ⟨q, -⟩ | ⟨q, -⟩
    · exact Or.inl q
    · exact Or.inr (Or.inl q)
    · exact Or.inr (Or.inr (q))
  obtain ⟨I2, e1⟩ : ∃ X : zIt, X = (zu (zu I (32 + p0.toNatClampNeg) 4 p1) 0 7 1) := ⟨_, rfl⟩
  have hM : zXi l s.heap.size D cA yX6_price cX6_price 4 .int 7 112 2 12 [.ref (ad 0), .int p0, .int p1] (zW s.heap.size D cA ad ty I L P) oc r0 (zW s.heap.size D cA ad ty I2 L P) := by
    rw [eo, er, e1]
    exact c_X6_price l s.heap.size D cA ad ty I L P hl0 ni nc ns nt hC hI p0 p1
  have hh0 := c_L_price l s.heap.size D cA ad ty I L P 0 ht0 h160 p0 p1 hM hoc (fun H z => ⟨ad, fun _ _ _ => rfl, z⟩) h160
  refine z_ci (z_runH (As := [.ref (ad 0), .int p0, .int p1, .ref (ad 160)]) (rest := []) M hN hw.2 zh_price hh0 hw.1 rfl rfl ⟨Nat.le_of_ble_eq_true rfl, Nat.le_of_ble_eq_true rfl⟩ ⟨(by show 40 + 13 * n + 2 ≤ 601024; omega), (by show 700 + 84 * n + 12 ≤ 7293034; omega)⟩ hl.1 (Nat.le_of_ble_eq_true rfl) dL_law_310) hw.2 (fun H locs hw1 hS => ?_)
  obtain ⟨ad2, hag, hw1⟩ := hw1
  refine W.widen (k := 40 + 13 * (n + 1)) (n := 700 + 84 * (n + 1)) (by omega) (by omega) ?_
  rw [← hag _ _ ht0, ← hag _ _ ht128, ← hag _ _ h160] at hl
  rcases hz2 with ⟨hoc0, h1, h2⟩ | ⟨hne, htn, ht3, hk⟩
  · skip
    rw [if_pos hoc0] at hw1
    obtain ⟨K, eK⟩ : ∃ X : zLt, X = zu L 160 0 r0.toInt64 := ⟨_, rfl⟩
    rw [← eK] at hw1
    have hw : zH s.heap.size D cA s H locs ad2 ty I2 K P := ⟨hw1, hS⟩
    rw [er] at eK
    have z3 := s3_price hT hR0 hh hn5 (eo.symm.trans hoc0) h1 h2 e1  eK
    obtain ⟨ht, hV2, hT0, hK0, hRB, hLI2, hR2⟩ := z3
    obtain ⟨T3, eT⟩ : ∃ X : zIt, X = (zu (zu I2 128 0 0) 138 p0.toNatClampNeg p1) := ⟨_, rfl⟩
    obtain ⟨K3, eK3⟩ : ∃ X : zLt, X = K := ⟨_, rfl⟩
    obtain ⟨bv, ebv⟩ : ∃ X : Int32, X = I2 138 p0.toNatClampNeg := ⟨_, rfl⟩
    have hRf : zMi l s.heap.size D cA yX7_price cX7_price 5 .int 2 43 0 0 [.ref (ad2 128), .int p0, .int p1] (zW s.heap.size D cA ad2 ty I2 K P) bv (zW s.heap.size D cA ad2 ty T3 K3 P) := by
      have z := c_X7_price l s.heap.size D cA ad2 ty I2 K P hR2 ni nc ns nt hbd hV2 p0 p1
      rw [if_pos ht, if_pos ht] at z
      rw [eT, eK3, ebv]
      exact z
    have hT0 : T3 128 0 = 0 := by rw [eT]; exact hT0
    have hKb : K3 160 0 = bv.toInt64 := by rw [eK3, ebv]; exact hK0.trans hRB
    have hLI2 : zLI (n + 1) ty T3 K3 P := by rw [eT, eK3]; exact hLI2
    have hty128 : ty 128 = some (7, 0) := zr_t hR2 128 7 0 (by decide)
    have hty160 : ty 160 = some (9, 1) := by obtain ⟨_, _, _, _, _, hq, -⟩ := hLI2; exact hq.2.2.1
    refine z_topi (y := 0) (by rw [hoc0]; rfl) ?_
    refine lv_istore (lv' := [(5, .int 0), (4, .int (nI (7 * n))), (3, .ref (ad2 160)), (2, .ref (ad2 128)), (1, .ref (ad2 0)), (0, .ref b)]) hx hb dL_law_313 hl (by decide) rfl (fun ls hl => ?_)
    refine lv_aload_n hx hb dL_law_315 rfl (lv_at hl 3 rfl) ?_
    refine lv_aload_n hx hb dL_law_316 rfl (lv_at hl 5 rfl) ?_
    refine lv_iload hx hb dL_law_317 (lv_at hl 1 rfl) ?_
    refine lv_iconst (v := 1) hx hb dL_law_319 (by decide) ?_
    refine lv_iadd hx hb dL_law_320 ?_
    refine z_sld hx hb hX hbl hw.2 (nI_add (7 * n) 1) (by omega) hL ep0 dL_law_321 ?_
    refine lv_aload_n hx hb dL_law_322 rfl (lv_at hl 5 rfl) ?_
    refine lv_iload hx hb dL_law_323 (lv_at hl 1 rfl) ?_
    refine lv_iconst (v := 2) hx hb dL_law_325 (by decide) ?_
    refine lv_iadd hx hb dL_law_326 ?_
    refine z_sld hx hb hX hbl hw.2 (nI_add (7 * n) 2) (by omega) hL ep1 dL_law_327 ?_
    refine z_ci0 (z_runV (As := [.int p0, .int p1]) (rest := []) M hw hty128 zc_L_93 hRf hw.1 rfl rfl ⟨Nat.le_of_ble_eq_true rfl, Nat.le_of_ble_eq_true rfl⟩ ⟨(by show 40 + 13 * (n + 1) + 0 ≤ 601024; omega), (by show 700 + 84 * (n + 1) + 0 ≤ 7293034; omega)⟩ hl.1 (Nat.le_of_ble_eq_true rfl) dL_law_328) hw (fun H locs hw => ?_)
    refine lv_istore (lv' := [(6, .int bv), (5, .int 0), (4, .int (nI (7 * n))), (3, .ref (ad2 160)), (2, .ref (ad2 128)), (1, .ref (ad2 0)), (0, .ref b)]) hx hb dL_law_331 hl (by decide) rfl (fun ls hl => ?_)
    refine lv_aload_n hx hb dL_law_333 rfl (lv_at hl 4 rfl) ?_
    refine z_ci0 (z_runV (As := []) (rest := []) M hw hty128 zc_L_83 (c_X7_thrown l s.heap.size D cA ad2 ty T3 K3 P hR2) hw.1 rfl rfl ⟨Nat.le_of_ble_eq_true rfl, Nat.le_of_ble_eq_true rfl⟩ ⟨(by show 40 + 13 * (n + 1) + 0 ≤ 601024; omega), (by show 700 + 84 * (n + 1) + 0 ≤ 7293034; omega)⟩ hl.1 (Nat.le_of_ble_eq_true rfl) dL_law_334) hw (fun H locs hw => ?_)
    refine z_topi (y := 0) hT0 ?_
    refine lv_iload hx hb dL_law_337 (lv_at hl 1 rfl) ?_
    refine lv_icmp_eq (tgt := 344) hx hb dL_law_339 (by decide) (fun c1 => ?_) (fun c1 => absurd rfl c1)
    refine lv_iload hx hb dL_law_344 (lv_at hl 1 rfl) ?_
    refine lv_if_ne (tgt := 361) hx hb dL_law_346 (by decide) (fun c2 => absurd rfl c2) (fun c2 => ?_)
    refine lv_aload_n hx hb dL_law_349 rfl (lv_at hl 3 rfl) ?_
    refine lv_iconst (v := 0) hx hb dL_law_350 (by decide) ?_
    refine z_lald M hw hty160 (z_ix (i := 0) (k := 0) rfl ⟨by omega, by omega⟩).1 dL_law_351 ?_
    refine z_topl (y := bv.toInt64) (show K3 160 (0 : Int32).toNatClampNeg = _ from hKb) ?_
    refine lv_iload hx hb dL_law_352 (lv_at hl 0 rfl) ?_
    refine lv_i2l hx hb dL_law_354 rfl ?_
    refine W.lcmp hx hb dL_law_355 ?_
    refine lv_if_eq (tgt := 361) hx hb dL_law_356 (by decide) (fun c3 => ?_) (fun c3 => absurd ((lg_cmp_eq _ _).mpr rfl) c3)
    refine lv_goto (tgt := 1324) hx hb dL_law_361 (by decide) ?_
    exact kk _ _ _ _ _ _ _ _ hLI2 hw (lv_sub hl [2, 3, 4, 5, 6] rfl)
  · skip
    rw [if_neg hne] at hw1
    have hw : zH s.heap.size D cA s H locs ad2 ty I L P := ⟨hw1, hS⟩
    have htn2 : ¬ (if zlt p0 nc then (if zin p1 0 9999 then 0 else 2) else 1) = 0 := by rw [← et]; exact htn
    obtain ⟨T3, eT⟩ : ∃ X : zIt, X = zu I 128 0 (nI t) := ⟨_, rfl⟩
    have hRf : zMi l s.heap.size D cA yX7_price cX7_price 5 .int 2 43 0 0 [.ref (ad2 128), .int p0, .int p1] (zW s.heap.size D cA ad2 ty I L P) 0 (zW s.heap.size D cA ad2 ty T3 L P) := by
      have z := c_X7_price l s.heap.size D cA ad2 ty I L P hR ni nc ns nt hbd (zREL_rv hR0) p0 p1
      rw [if_neg htn2, if_neg htn2] at z
      rw [eT, et]
      exact z
    have hT0 : T3 128 0 = nI t := by rw [eT, zu_self]
    have hLI2 : zLI (n + 1) ty T3 L P := by rw [eT]; exact zLI_throw hT hR0 hh _
    have hnt : ¬ nI t = 0 := nI_ne0 (by omega) (by omega)
    refine z_topi (y := nI t) hk ?_
    refine lv_istore (lv' := [(5, .int (nI t)), (4, .int (nI (7 * n))), (3, .ref (ad2 160)), (2, .ref (ad2 128)), (1, .ref (ad2 0)), (0, .ref b)]) hx hb dL_law_313 hl (by decide) rfl (fun ls hl => ?_)
    refine lv_aload_n hx hb dL_law_315 rfl (lv_at hl 3 rfl) ?_
    refine lv_aload_n hx hb dL_law_316 rfl (lv_at hl 5 rfl) ?_
    refine lv_iload hx hb dL_law_317 (lv_at hl 1 rfl) ?_
    refine lv_iconst (v := 1) hx hb dL_law_319 (by decide) ?_
    refine lv_iadd hx hb dL_law_320 ?_
    refine z_sld hx hb hX hbl hw.2 (nI_add (7 * n) 1) (by omega) hL ep0 dL_law_321 ?_
    refine lv_aload_n hx hb dL_law_322 rfl (lv_at hl 5 rfl) ?_
    refine lv_iload hx hb dL_law_323 (lv_at hl 1 rfl) ?_
    refine lv_iconst (v := 2) hx hb dL_law_325 (by decide) ?_
    refine lv_iadd hx hb dL_law_326 ?_
    refine z_sld hx hb hX hbl hw.2 (nI_add (7 * n) 2) (by omega) hL ep1 dL_law_327 ?_
    refine z_ci0 (z_runV (As := [.int p0, .int p1]) (rest := []) M hw ht128 zc_L_93 hRf hw.1 rfl rfl ⟨Nat.le_of_ble_eq_true rfl, Nat.le_of_ble_eq_true rfl⟩ ⟨(by show 40 + 13 * (n + 1) + 0 ≤ 601024; omega), (by show 700 + 84 * (n + 1) + 0 ≤ 7293034; omega)⟩ hl.1 (Nat.le_of_ble_eq_true rfl) dL_law_328) hw (fun H locs hw => ?_)
    refine lv_istore (lv' := [(6, .int 0), (5, .int (nI t)), (4, .int (nI (7 * n))), (3, .ref (ad2 160)), (2, .ref (ad2 128)), (1, .ref (ad2 0)), (0, .ref b)]) hx hb dL_law_331 hl (by decide) rfl (fun ls hl => ?_)
    refine lv_aload_n hx hb dL_law_333 rfl (lv_at hl 4 rfl) ?_
    refine z_ci0 (z_runV (As := []) (rest := []) M hw ht128 zc_L_83 (c_X7_thrown l s.heap.size D cA ad2 ty T3 L P hR) hw.1 rfl rfl ⟨Nat.le_of_ble_eq_true rfl, Nat.le_of_ble_eq_true rfl⟩ ⟨(by show 40 + 13 * (n + 1) + 0 ≤ 601024; omega), (by show 700 + 84 * (n + 1) + 0 ≤ 7293034; omega)⟩ hl.1 (Nat.le_of_ble_eq_true rfl) dL_law_334) hw (fun H locs hw => ?_)
    refine z_topi (y := nI t) hT0 ?_
    refine lv_iload hx hb dL_law_337 (lv_at hl 1 rfl) ?_
    refine lv_icmp_eq (tgt := 344) hx hb dL_law_339 (by decide) (fun c1 => ?_) (fun c1 => absurd rfl c1)
    refine lv_iload hx hb dL_law_344 (lv_at hl 1 rfl) ?_
    refine lv_if_ne (tgt := 361) hx hb dL_law_346 (by decide) (fun c2 => ?_) (fun c2 => absurd c2 hnt)
    refine lv_goto (tgt := 1324) hx hb dL_law_361 (by decide) ?_
    exact kk _ _ _ _ _ _ _ _ hLI2 hw (lv_sub hl [2, 3, 4, 5, 6] rfl)
set_option maxHeartbeats 4000000 in
set_option maxRecDepth 100000 in
theorem z_case_fault (hl0 : l.stackTraces = false) (M : zM p s m c cL_law RL 8 s.heap.size D cA) (hN : zNcs s) (hX : va_X b Ln xs s s.heap) (hbl : b < s.heap.size) (hL : Ln ≤ 4000) (hn7 : 7 * n + 7 ≤ Ln) (hn5 : n < 512) (hLI : zLI n ty I L P) (hw : zH s.heap.size D cA s H locs ad ty I L P) (hl : lv_has ls 8 [(4, .int (nI (7 * n))), (3, .ref (ad 160)), (2, .ref (ad 128)), (1, .ref (ad 0)), (0, .ref b)])
    (kk : ∀ (H : Heap) (locs : List Loc) (ls : Array Slot) (ad : Nat → Nat) (ty : zTyp) (I : zIt) (L : zLt) (P : zPt), zLI (n + 1) ty I L P → zH s.heap.size D cA s H locs ad ty I L P → lv_has ls 8 [(4, .int (nI (7 * n))), (3, .ref (ad 160)), (2, .ref (ad 128)), (1, .ref (ad 0)), (0, .ref b)] → W p l e room_1 s m #[Value.ref b] below meth c H locs (40 + 13 * (n + 1)) (700 + 84 * (n + 1)) Q (F0 m 1324 ls [])) :
    W p l e room_1 s m #[Value.ref b] below meth c H locs (40 + 13 * n) (700 + 84 * n) Q (F0 m 364 ls []) := by
  obtain ⟨hx, hb, -⟩ := id M
  obtain ⟨ni, nc, ns, nt, hrs, hT, hR0, hh⟩ := hLI
  obtain ⟨hC, hR, h160, hF⟩ := id hT
  have hbd := zREL_bd hR0
  obtain ⟨hb1, hb2, hb3, hb4⟩ := id hbd
  have hI := zREL_inv hR0
  have ht0 := zc_t0 hC
  have ht128 : ty 128 = some (7, 0) := zr_t hR 128 7 0 (by decide)
  obtain ⟨p0, ep0⟩ : ∃ y : Int32, y = xs (7 * n + 1) := ⟨_, rfl⟩
  obtain ⟨p1, ep1⟩ : ∃ y : Int32, y = xs (7 * n + 2) := ⟨_, rfl⟩
  refine lv_aload_n hx hb dL_law_364 rfl (lv_at hl 3 rfl) ?_
  refine lv_aload_n hx hb dL_law_365 rfl (lv_at hl 4 rfl) ?_
  refine lv_iload hx hb dL_law_366 (lv_at hl 0 rfl) ?_
  refine lv_iconst (v := 1) hx hb dL_law_368 (by decide) ?_
  refine lv_iadd hx hb dL_law_369 ?_
  refine z_sld hx hb hX hbl hw.2 (nI_add (7 * n) 1) (by omega) hL ep0 dL_law_370 ?_
  refine lv_aload_n hx hb dL_law_371 rfl (lv_at hl 4 rfl) ?_
  refine lv_iload hx hb dL_law_372 (lv_at hl 0 rfl) ?_
  refine lv_iconst (v := 2) hx hb dL_law_374 (by decide) ?_
  refine lv_iadd hx hb dL_law_375 ?_
  refine z_sld hx hb hX hbl hw.2 (nI_add (7 * n) 2) (by omega) hL ep1 dL_law_376 ?_
  refine lv_aload_n hx hb dL_law_377 rfl (lv_at hl 1 rfl) ?_
  obtain ⟨oc, eo⟩ : ∃ o : Nat, o = (zsq (zoS I nc p0 p1) (if zHasF I (32 + p0.toNatClampNeg) p1 then 3 else 0)) := ⟨_, rfl⟩
  obtain ⟨t, et⟩ : ∃ o : Nat, o = (if zlt p0 nc ∧ zlt p1 (zRsp I p0) then (if zoi (zPl I (8 * p0 + p1)) = -1 then 0 else 2) else 1) := ⟨_, rfl⟩
  obtain ⟨r0, er⟩ : ∃ r : Int32, r = (nI (zNf I + 1)) := ⟨_, rfl⟩
  have hz : (oc = 0 ∧ t = 0 ∧ (zlt p0 nc) ∧ (zlt p1 (zSpn I p0)) ∧ (¬ zHasF I (32 + p0.toNatClampNeg) p1)) ∨ (oc = 1 ∧ t = 1) ∨ (oc = 3 ∧ t = 2) := by
    rw [eo, et]
    exact zt_fault hR0.2.2.2.2.2.1 hR0.2.2.2.2.1.2.1 p0 p1
  have hz2 : (oc = 0 ∧ (zlt p0 nc) ∧ (zlt p1 (zSpn I p0)) ∧ (¬ zHasF I (32 + p0.toNatClampNeg) p1)) ∨ (¬ oc = 0 ∧ ¬ t = 0 ∧ t ≤ 3 ∧ ((if oc = 1 then 1 else (if oc = 3 then 2 else 0)) : Int32) = nI t) := by
    rcases hz with ⟨q, -, cs⟩ | ⟨q, qt⟩ | ⟨q, qt⟩
    · exact Or.inl ⟨q, cs⟩
    · exact Or.inr ⟨by rw [q]; decide, by rw [qt]; decide, by rw [qt]; decide, by rw [q, qt]; rfl⟩
    · exact Or.inr ⟨by rw [q]; decide, by rw [qt]; decide, by rw [qt]; decide, by rw [q, qt]; rfl⟩
  have hoc : oc = 0 ∨ oc = 1 ∨ oc = 3 := by
    rcases hz with ⟨q, -⟩ | ⟨q, -⟩ | ⟨q, -⟩
    · exact Or.inl q
    · exact Or.inr (Or.inl q)
    · exact Or.inr (Or.inr (q))
  obtain ⟨I2, e1⟩ : ∃ X : zIt, X = (zAddF (zu I 0 7 1) p0.toNatClampNeg p1) := ⟨_, rfl⟩
  have hroom : zsq (zoS I nc p0 p1) (if zHasF I (32 + p0.toNatClampNeg) p1 then 3 else 0) = 0 → zNf I < 128 := by
    intro z
    rcases hz with ⟨-, -, h1, h2, h3⟩ | ⟨q, -⟩ | ⟨q, -⟩
    · exact (s2_fault hR0 h1 h2 h3).2.2
    · exact absurd (q.symm.trans (eo.trans z)) (by decide)
    · exact absurd (q.symm.trans (eo.trans z)) (by decide)
  have hM : zXi l s.heap.size D cA yX6_fault cX6_fault 3 .int 8 133 3 18 [.ref (ad 0), .int p0, .int p1] (zW s.heap.size D cA ad ty I L P) oc r0 (zW s.heap.size D cA ad ty I2 L P) := by
    rw [eo, er, e1]
    exact c_X6_fault l s.heap.size D cA ad ty I L P hl0 ni nc ns nt hC hI p0 p1 hroom
  have hh0 := c_L_fault l s.heap.size D cA ad ty I L P 0 ht0 h160 p0 p1 hM hoc (fun H z => ⟨ad, fun _ _ _ => rfl, z⟩) h160
  refine z_ci (z_runH (As := [.ref (ad 0), .int p0, .int p1, .ref (ad 160)]) (rest := []) M hN hw.2 zh_fault hh0 hw.1 rfl rfl ⟨Nat.le_of_ble_eq_true rfl, Nat.le_of_ble_eq_true rfl⟩ ⟨(by show 40 + 13 * n + 3 ≤ 601024; omega), (by show 700 + 84 * n + 18 ≤ 7293034; omega)⟩ hl.1 (Nat.le_of_ble_eq_true rfl) dL_law_378) hw.2 (fun H locs hw1 hS => ?_)
  obtain ⟨ad2, hag, hw1⟩ := hw1
  refine W.widen (k := 40 + 13 * (n + 1)) (n := 700 + 84 * (n + 1)) (by omega) (by omega) ?_
  rw [← hag _ _ ht0, ← hag _ _ ht128, ← hag _ _ h160] at hl
  rcases hz2 with ⟨hoc0, h1, h2, h3⟩ | ⟨hne, htn, ht3, hk⟩
  · skip
    rw [if_pos hoc0] at hw1
    obtain ⟨K, eK⟩ : ∃ X : zLt, X = zu L 160 0 r0.toInt64 := ⟨_, rfl⟩
    rw [← eK] at hw1
    have hw : zH s.heap.size D cA s H locs ad2 ty I2 K P := ⟨hw1, hS⟩
    rw [er] at eK
    have z3 := s3_fault hT hR0 hh hn5 (eo.symm.trans hoc0) h1 h2 h3 e1  eK
    obtain ⟨ht, hV2, hT0, hK0, hRB, hLI2, hR2, hex⟩ := z3
    obtain ⟨T3, eT⟩ : ∃ X : zIt, X = (zu (zu (zu I2 128 0 0) 140 (zRn I2) (8 * p0 + p1)) 128 11 (nI (zRn I2 + 1))) := ⟨_, rfl⟩
    obtain ⟨K3, eK3⟩ : ∃ X : zLt, X = K := ⟨_, rfl⟩
    obtain ⟨bv, ebv⟩ : ∃ X : Int32, X = nI (zRn I2 + 1) := ⟨_, rfl⟩
    have hRf : zMi l s.heap.size D cA yX7_fault cX7_fault 4 .int 3 65 0 0 [.ref (ad2 128), .int p0, .int p1] (zW s.heap.size D cA ad2 ty I2 K P) bv (zW s.heap.size D cA ad2 ty T3 K3 P) := by
      have z := c_X7_fault l s.heap.size D cA ad2 ty I2 K P hR2 ni nc ns nt hbd hV2 p0 p1 (fun _ => hex)
      rw [if_pos ht, if_pos ht] at z
      rw [eT, eK3, ebv]
      exact z
    have hT0 : T3 128 0 = 0 := by rw [eT]; exact hT0
    have hKb : K3 160 0 = bv.toInt64 := by rw [eK3, ebv]; exact hK0.trans hRB
    have hLI2 : zLI (n + 1) ty T3 K3 P := by rw [eT, eK3]; exact hLI2
    have hty128 : ty 128 = some (7, 0) := zr_t hR2 128 7 0 (by decide)
    have hty160 : ty 160 = some (9, 1) := by obtain ⟨_, _, _, _, _, hq, -⟩ := hLI2; exact hq.2.2.1
    refine z_topi (y := 0) (by rw [hoc0]; rfl) ?_
    refine lv_istore (lv' := [(5, .int 0), (4, .int (nI (7 * n))), (3, .ref (ad2 160)), (2, .ref (ad2 128)), (1, .ref (ad2 0)), (0, .ref b)]) hx hb dL_law_381 hl (by decide) rfl (fun ls hl => ?_)
    refine lv_aload_n hx hb dL_law_383 rfl (lv_at hl 3 rfl) ?_
    refine lv_aload_n hx hb dL_law_384 rfl (lv_at hl 5 rfl) ?_
    refine lv_iload hx hb dL_law_385 (lv_at hl 1 rfl) ?_
    refine lv_iconst (v := 1) hx hb dL_law_387 (by decide) ?_
    refine lv_iadd hx hb dL_law_388 ?_
    refine z_sld hx hb hX hbl hw.2 (nI_add (7 * n) 1) (by omega) hL ep0 dL_law_389 ?_
    refine lv_aload_n hx hb dL_law_390 rfl (lv_at hl 5 rfl) ?_
    refine lv_iload hx hb dL_law_391 (lv_at hl 1 rfl) ?_
    refine lv_iconst (v := 2) hx hb dL_law_393 (by decide) ?_
    refine lv_iadd hx hb dL_law_394 ?_
    refine z_sld hx hb hX hbl hw.2 (nI_add (7 * n) 2) (by omega) hL ep1 dL_law_395 ?_
    refine z_ci0 (z_runV (As := [.int p0, .int p1]) (rest := []) M hw hty128 zc_L_96 hRf hw.1 rfl rfl ⟨Nat.le_of_ble_eq_true rfl, Nat.le_of_ble_eq_true rfl⟩ ⟨(by show 40 + 13 * (n + 1) + 0 ≤ 601024; omega), (by show 700 + 84 * (n + 1) + 0 ≤ 7293034; omega)⟩ hl.1 (Nat.le_of_ble_eq_true rfl) dL_law_396) hw (fun H locs hw => ?_)
    refine lv_istore (lv' := [(6, .int bv), (5, .int 0), (4, .int (nI (7 * n))), (3, .ref (ad2 160)), (2, .ref (ad2 128)), (1, .ref (ad2 0)), (0, .ref b)]) hx hb dL_law_399 hl (by decide) rfl (fun ls hl => ?_)
    refine lv_aload_n hx hb dL_law_401 rfl (lv_at hl 4 rfl) ?_
    refine z_ci0 (z_runV (As := []) (rest := []) M hw hty128 zc_L_83 (c_X7_thrown l s.heap.size D cA ad2 ty T3 K3 P hR2) hw.1 rfl rfl ⟨Nat.le_of_ble_eq_true rfl, Nat.le_of_ble_eq_true rfl⟩ ⟨(by show 40 + 13 * (n + 1) + 0 ≤ 601024; omega), (by show 700 + 84 * (n + 1) + 0 ≤ 7293034; omega)⟩ hl.1 (Nat.le_of_ble_eq_true rfl) dL_law_402) hw (fun H locs hw => ?_)
    refine z_topi (y := 0) hT0 ?_
    refine lv_iload hx hb dL_law_405 (lv_at hl 1 rfl) ?_
    refine lv_icmp_eq (tgt := 412) hx hb dL_law_407 (by decide) (fun c1 => ?_) (fun c1 => absurd rfl c1)
    refine lv_iload hx hb dL_law_412 (lv_at hl 1 rfl) ?_
    refine lv_if_ne (tgt := 429) hx hb dL_law_414 (by decide) (fun c2 => absurd rfl c2) (fun c2 => ?_)
    refine lv_aload_n hx hb dL_law_417 rfl (lv_at hl 3 rfl) ?_
    refine lv_iconst (v := 0) hx hb dL_law_418 (by decide) ?_
    refine z_lald M hw hty160 (z_ix (i := 0) (k := 0) rfl ⟨by omega, by omega⟩).1 dL_law_419 ?_
    refine z_topl (y := bv.toInt64) (show K3 160 (0 : Int32).toNatClampNeg = _ from hKb) ?_
    refine lv_iload hx hb dL_law_420 (lv_at hl 0 rfl) ?_
    refine lv_i2l hx hb dL_law_422 rfl ?_
    refine W.lcmp hx hb dL_law_423 ?_
    refine lv_if_eq (tgt := 429) hx hb dL_law_424 (by decide) (fun c3 => ?_) (fun c3 => absurd ((lg_cmp_eq _ _).mpr rfl) c3)
    refine lv_goto (tgt := 1324) hx hb dL_law_429 (by decide) ?_
    exact kk _ _ _ _ _ _ _ _ hLI2 hw (lv_sub hl [2, 3, 4, 5, 6] rfl)
  · skip
    rw [if_neg hne] at hw1
    have hw : zH s.heap.size D cA s H locs ad2 ty I L P := ⟨hw1, hS⟩
    have htn2 : ¬ (if zlt p0 nc ∧ zlt p1 (zRsp I p0) then (if zoi (zPl I (8 * p0 + p1)) = -1 then 0 else 2) else 1) = 0 := by rw [← et]; exact htn
    obtain ⟨T3, eT⟩ : ∃ X : zIt, X = zu I 128 0 (nI t) := ⟨_, rfl⟩
    have hRf : zMi l s.heap.size D cA yX7_fault cX7_fault 4 .int 3 65 0 0 [.ref (ad2 128), .int p0, .int p1] (zW s.heap.size D cA ad2 ty I L P) 0 (zW s.heap.size D cA ad2 ty T3 L P) := by
      have z := c_X7_fault l s.heap.size D cA ad2 ty I L P hR ni nc ns nt hbd (zREL_rv hR0) p0 p1 (fun z => absurd z htn2)
      rw [if_neg htn2, if_neg htn2] at z
      rw [eT, et]
      exact z
    have hT0 : T3 128 0 = nI t := by rw [eT, zu_self]
    have hLI2 : zLI (n + 1) ty T3 L P := by rw [eT]; exact zLI_throw hT hR0 hh _
    have hnt : ¬ nI t = 0 := nI_ne0 (by omega) (by omega)
    refine z_topi (y := nI t) hk ?_
    refine lv_istore (lv' := [(5, .int (nI t)), (4, .int (nI (7 * n))), (3, .ref (ad2 160)), (2, .ref (ad2 128)), (1, .ref (ad2 0)), (0, .ref b)]) hx hb dL_law_381 hl (by decide) rfl (fun ls hl => ?_)
    refine lv_aload_n hx hb dL_law_383 rfl (lv_at hl 3 rfl) ?_
    refine lv_aload_n hx hb dL_law_384 rfl (lv_at hl 5 rfl) ?_
    refine lv_iload hx hb dL_law_385 (lv_at hl 1 rfl) ?_
    refine lv_iconst (v := 1) hx hb dL_law_387 (by decide) ?_
    refine lv_iadd hx hb dL_law_388 ?_
    refine z_sld hx hb hX hbl hw.2 (nI_add (7 * n) 1) (by omega) hL ep0 dL_law_389 ?_
    refine lv_aload_n hx hb dL_law_390 rfl (lv_at hl 5 rfl) ?_
    refine lv_iload hx hb dL_law_391 (lv_at hl 1 rfl) ?_
    refine lv_iconst (v := 2) hx hb dL_law_393 (by decide) ?_
    refine lv_iadd hx hb dL_law_394 ?_
    refine z_sld hx hb hX hbl hw.2 (nI_add (7 * n) 2) (by omega) hL ep1 dL_law_395 ?_
    refine z_ci0 (z_runV (As := [.int p0, .int p1]) (rest := []) M hw ht128 zc_L_96 hRf hw.1 rfl rfl ⟨Nat.le_of_ble_eq_true rfl, Nat.le_of_ble_eq_true rfl⟩ ⟨(by show 40 + 13 * (n + 1) + 0 ≤ 601024; omega), (by show 700 + 84 * (n + 1) + 0 ≤ 7293034; omega)⟩ hl.1 (Nat.le_of_ble_eq_true rfl) dL_law_396) hw (fun H locs hw => ?_)
    refine lv_istore (lv' := [(6, .int 0), (5, .int (nI t)), (4, .int (nI (7 * n))), (3, .ref (ad2 160)), (2, .ref (ad2 128)), (1, .ref (ad2 0)), (0, .ref b)]) hx hb dL_law_399 hl (by decide) rfl (fun ls hl => ?_)
    refine lv_aload_n hx hb dL_law_401 rfl (lv_at hl 4 rfl) ?_
    refine z_ci0 (z_runV (As := []) (rest := []) M hw ht128 zc_L_83 (c_X7_thrown l s.heap.size D cA ad2 ty T3 L P hR) hw.1 rfl rfl ⟨Nat.le_of_ble_eq_true rfl, Nat.le_of_ble_eq_true rfl⟩ ⟨(by show 40 + 13 * (n + 1) + 0 ≤ 601024; omega), (by show 700 + 84 * (n + 1) + 0 ≤ 7293034; omega)⟩ hl.1 (Nat.le_of_ble_eq_true rfl) dL_law_402) hw (fun H locs hw => ?_)
    refine z_topi (y := nI t) hT0 ?_
    refine lv_iload hx hb dL_law_405 (lv_at hl 1 rfl) ?_
    refine lv_icmp_eq (tgt := 412) hx hb dL_law_407 (by decide) (fun c1 => ?_) (fun c1 => absurd rfl c1)
    refine lv_iload hx hb dL_law_412 (lv_at hl 1 rfl) ?_
    refine lv_if_ne (tgt := 429) hx hb dL_law_414 (by decide) (fun c2 => ?_) (fun c2 => absurd c2 hnt)
    refine lv_goto (tgt := 1324) hx hb dL_law_429 (by decide) ?_
    exact kk _ _ _ _ _ _ _ _ hLI2 hw (lv_sub hl [2, 3, 4, 5, 6] rfl)
end ZLW
