set_option maxHeartbeats 4000000 in
set_option maxRecDepth 100000 in
theorem c_X7_hourOf (l : Launch) (base : Nat) (D : va_G) (cA : Nat → ClassId) (ad : Nat → Nat) (ty : zTyp) (I : zIt) (L : zLt) (P : zPt) (hR : zref ty P) (ni nc ns nt : Nat) (hbd : zRbd ni nc ns nt) (hV : zRv ni nc ns nt I) (q : Nat) (hq : q < nt) : zMv l base D cA yX7_hourOf cX7_hourOf 7 2 50 0 0 [.ref (ad 128), .int (nI q)] (zW base D cA ad ty I L P) (zW base D cA ad ty (zs I 158 (zGoes I nc)) (zHoL I L (zs L 157 (zFar I (L 157) ni nc (I 151 q))) q ((zFar I (L 157) ni nc (I 151 q)) (I 150 q).toNatClampNeg)) P) := by
  refine z_start (by decide +kernel) (Nat.le_of_ble_eq_true rfl) fun p e s m below meth c ls M hP hS hl hr hlocks hnm => ?_
  have M : zM p s m c cX7_hourOf RX7 7 base D cA := M
  have hw : zH base D cA s s.heap [] ad ty I L P := ⟨hP, hS⟩
  obtain ⟨hx, hb, -⟩ := id M
  have hl : lv_has ls 7 [(0, .ref (ad 128)), (1, .int (nI q))] := hl
  obtain ⟨hb1, hb2, hb3, hb4⟩ := id hbd
  obtain ⟨u, v, hu, hv, eu, ev⟩ := hV.2.2.2.2 q hq
  refine lv_aload_n hx hb dX7_hourOf_0 rfl (lv_at hl 0 rfl) ?_
  refine lv_aload_n hx hb dX7_hourOf_1 rfl (lv_at hl 0 rfl) ?_
  refine z_getr M hw (zr_t hR 128 7 0 (by decide)) zf_X7_58 (zr_p hR 23 (by decide)) dX7_hourOf_2 ?_
  refine lv_iload_n hx hb dX7_hourOf_5 rfl (lv_at hl 1 rfl) ?_
  refine z_iNald M hw (zr_t hR 151 8 12 (by decide)) rfl ⟨by omega, by omega⟩ dX7_hourOf_6 ?_
  refine z_cv0 (z_runV (As := [.int (I 151 q)]) (rest := []) M hw (zr_t hR 128 7 0 (by decide)) zc_X7_163 (c_X7_findWays l base D cA ad ty I L P hR ni nc ns nt hbd hV (I 151 q)) hw.1 rfl rfl ⟨Nat.le_of_ble_eq_true rfl, Nat.le_of_ble_eq_true rfl⟩ ⟨Nat.le_of_ble_eq_true rfl, Nat.le_of_ble_eq_true rfl⟩ hl.1 (Nat.le_of_ble_eq_true rfl) dX7_hourOf_7) hw (fun H locs hw => ?_)
  refine lv_aload_n hx hb dX7_hourOf_10 rfl (lv_at hl 0 rfl) ?_
  refine z_getr M hw (zr_t hR 128 7 0 (by decide)) zf_X7_77 (zr_p hR 29 (by decide)) dX7_hourOf_11 ?_
  refine lv_aload_n hx hb dX7_hourOf_14 rfl (lv_at hl 0 rfl) ?_
  refine z_getr M hw (zr_t hR 128 7 0 (by decide)) zf_X7_55 (zr_p hR 22 (by decide)) dX7_hourOf_15 ?_
  refine lv_iload_n hx hb dX7_hourOf_18 rfl (lv_at hl 1 rfl) ?_
  refine z_iNald M hw (zr_t hR 150 8 12 (by decide)) rfl ⟨by omega, by omega⟩ dX7_hourOf_19 ?_
  refine z_topi (y := I 150 q) (by rw [zs_ne _ _ (by omega)]) ?_
  refine z_topi (y := nI u) eu ?_
  refine z_lNald M hw (zr_t hR 157 9 10 (by decide)) rfl ⟨by omega, by omega⟩ dX7_hourOf_20 ?_
  refine z_topl (y := (zFar I (L 157) ni nc (I 151 q)) u) (by rw [zs_self]) ?_
  refine lv_lstore_n (lv' := [(2, .long ((zFar I (L 157) ni nc (I 151 q)) u)), (0, .ref (ad 128)), (1, .int (nI q))]) hx hb dX7_hourOf_21 rfl hl (by decide) rfl (fun ls hl => ?_)
  refine lv_lload_n hx hb dX7_hourOf_22 rfl (lv_at hl 0 rfl) ?_
  refine lv_ldc2 (v := 1000000000000000) hx hb M.2.2.2.1 (M.2.2.2.2.1.use (tb 850 (by decide +kernel)) rfl) dX7_hourOf_23 ?_
  refine W.lcmp hx hb dX7_hourOf_26 ?_
  refine lv_if_lt (tgt := 34) hx hb dX7_hourOf_27 (by decide) (fun c1 => ?_) (fun c1 => ?_)
  · skip
    refine lv_iconst (v := 0) hx hb dX7_hourOf_34 (by decide) ?_
    refine lv_istore (lv' := [(4, .int 0), (2, .long ((zFar I (L 157) ni nc (I 151 q)) u)), (0, .ref (ad 128)), (1, .int (nI q))]) hx hb dX7_hourOf_35 hl (by decide) rfl (fun ls hl => ?_)
    refine lv_iload hx hb dX7_hourOf_37 (lv_at hl 0 rfl) ?_
    refine lv_if_ne (tgt := 66) hx hb dX7_hourOf_39 (by decide) (fun c2 => ?_) (fun c2 => ?_)
    · exact absurd c2 (by decide)
    refine lv_lload_n hx hb dX7_hourOf_42 rfl (lv_at hl 1 rfl) ?_
    refine lv_ldc2 (v := 1000000) hx hb M.2.2.2.1 (M.2.2.2.2.1.use (tb 859 (by decide +kernel)) rfl) dX7_hourOf_43 ?_
    refine lv_lrem hx hb dX7_hourOf_46 (by decide) ?_
    refine lv_ldc2 (v := 100) hx hb M.2.2.2.1 (M.2.2.2.2.1.use (tb 860 (by decide +kernel)) rfl) dX7_hourOf_47 ?_
    refine lv_ldiv hx hb dX7_hourOf_50 (by decide) ?_
    refine lv_aload_n hx hb dX7_hourOf_51 rfl (lv_at hl 2 rfl) ?_
    refine z_getr M hw (zr_t hR 128 7 0 (by decide)) zf_X7_61 (zr_p hR 24 (by decide)) dX7_hourOf_52 ?_
    refine lv_iload_n hx hb dX7_hourOf_55 rfl (lv_at hl 3 rfl) ?_
    refine z_iNald M hw (zr_t hR 152 8 12 (by decide)) rfl ⟨by omega, by omega⟩ dX7_hourOf_56 ?_
    refine z_topi (y := I 152 q) (by rw [zs_ne _ _ (by omega)]) ?_
    refine lv_i2l hx hb dX7_hourOf_57 rfl ?_
    refine W.lcmp hx hb dX7_hourOf_58 ?_
    refine lv_if_le (tgt := 66) hx hb dX7_hourOf_59 (by decide) (fun c3 => ?_) (fun c3 => ?_)
    · skip
      refine lv_iconst (v := 0) hx hb dX7_hourOf_66 (by decide) ?_
      refine lv_istore (lv' := [(5, .int 0), (4, .int 0), (2, .long ((zFar I (L 157) ni nc (I 151 q)) u)), (0, .ref (ad 128)), (1, .int (nI q))]) hx hb dX7_hourOf_67 hl (by decide) rfl (fun ls hl => ?_)
      refine lv_aload_n hx hb dX7_hourOf_69 rfl (lv_at hl 3 rfl) ?_
      refine z_getr M hw (zr_t hR 128 7 0 (by decide)) zf_X7_73 (zr_p hR 28 (by decide)) dX7_hourOf_70 ?_
      refine lv_iconst (v := 4) hx hb dX7_hourOf_73 (by decide) ?_
      refine lv_iload_n hx hb dX7_hourOf_74 rfl (lv_at hl 4 rfl) ?_
      refine lv_imul hx hb dX7_hourOf_75 ?_
      refine lv_dup2_11 hx hb dX7_hourOf_76 rfl rfl ?_
      refine z_lNald M hw (zr_t hR 156 9 48 (by decide)) (z4k0 q (by omega)) ⟨by omega, by omega⟩ dX7_hourOf_77 ?_
      refine z_topl (y := L 156 (4 * q)) (by rw [zs_ne _ _ (by omega)]) ?_
      refine lv_iload hx hb dX7_hourOf_78 (lv_at hl 1 rfl) ?_
      refine lv_if_eq (tgt := 87) hx hb dX7_hourOf_80 (by decide) (fun c4 => ?_) (fun c4 => ?_)
      rotate_left
      · exact absurd c4 (by decide)
      refine lv_lload_n hx hb dX7_hourOf_87 rfl (lv_at hl 2 rfl) ?_
      refine lv_ldc2 (v := 1000000) hx hb M.2.2.2.1 (M.2.2.2.2.1.use (tb 859 (by decide +kernel)) rfl) dX7_hourOf_88 ?_
      refine lv_ldiv hx hb dX7_hourOf_91 (by decide) ?_
      refine lv_ladd hx hb dX7_hourOf_92 ?_
      refine z_lNast M hw (zr_t hR 156 9 48 (by decide)) (z4k0 q (by omega)) ⟨by omega, by omega⟩ dX7_hourOf_93 (fun H locs hw => ?_)
      refine lv_iload hx hb dX7_hourOf_94 (lv_at hl 1 rfl) ?_
      refine lv_if_eq (tgt := 108) hx hb dX7_hourOf_96 (by decide) (fun c5 => ?_) (fun c5 => ?_)
      rotate_left
      · exact absurd c5 (by decide)
      refine lv_iload hx hb dX7_hourOf_108 (lv_at hl 0 rfl) ?_
      refine lv_if_eq (tgt := 122) hx hb dX7_hourOf_110 (by decide) (fun c6 => ?_) (fun c6 => ?_)
      rotate_left
      · exact absurd c6 (by decide)
      refine lv_iconst (v := 0) hx hb dX7_hourOf_122 (by decide) ?_
      refine lv_istore (lv' := [(6, .int 0), (5, .int 0), (4, .int 0), (2, .long ((zFar I (L 157) ni nc (I 151 q)) u)), (0, .ref (ad 128)), (1, .int (nI q))]) hx hb dX7_hourOf_123 hl (by decide) rfl (fun ls hl => ?_)
      refine lv_aload_n hx hb dX7_hourOf_125 rfl (lv_at hl 4 rfl) ?_
      refine z_getr M hw (zr_t hR 128 7 0 (by decide)) zf_X7_73 (zr_p hR 28 (by decide)) dX7_hourOf_126 ?_
      refine lv_iconst (v := 4) hx hb dX7_hourOf_129 (by decide) ?_
      refine lv_iload_n hx hb dX7_hourOf_130 rfl (lv_at hl 5 rfl) ?_
      refine lv_imul hx hb dX7_hourOf_131 ?_
      refine lv_iconst (v := 1) hx hb dX7_hourOf_132 (by decide) ?_
      refine lv_iadd hx hb dX7_hourOf_133 ?_
      refine lv_aload_n hx hb dX7_hourOf_134 rfl (lv_at hl 4 rfl) ?_
      refine z_getr M hw (zr_t hR 128 7 0 (by decide)) zf_X7_73 (zr_p hR 28 (by decide)) dX7_hourOf_135 ?_
      refine lv_iconst (v := 4) hx hb dX7_hourOf_138 (by decide) ?_
      refine lv_iload_n hx hb dX7_hourOf_139 rfl (lv_at hl 5 rfl) ?_
      refine lv_imul hx hb dX7_hourOf_140 ?_
      refine lv_iconst (v := 1) hx hb dX7_hourOf_141 (by decide) ?_
      refine lv_iadd hx hb dX7_hourOf_142 ?_
      refine z_lNald M hw (zr_t hR 156 9 48 (by decide)) (z4k q (by omega) 1 (by omega)) ⟨by omega, by omega⟩ dX7_hourOf_143 ?_
      refine z_topl (y := L 156 (4 * q + 1)) (by rw [zu_ne _ _ (by omega), zs_ne _ _ (by omega)]) ?_
      refine lv_iload hx hb dX7_hourOf_144 (lv_at hl 0 rfl) ?_
      refine lv_i2l hx hb dX7_hourOf_146 rfl ?_
      refine lv_ladd hx hb dX7_hourOf_147 ?_
      refine lv_aload_n hx hb dX7_hourOf_148 rfl (lv_at hl 4 rfl) ?_
      refine z_getr M hw (zr_t hR 128 7 0 (by decide)) zf_X7_70 (zr_p hR 27 (by decide)) dX7_hourOf_149 ?_
      refine lv_iload_n hx hb dX7_hourOf_152 rfl (lv_at hl 5 rfl) ?_
      refine z_iNald M hw (zr_t hR 155 8 12 (by decide)) rfl ⟨by omega, by omega⟩ dX7_hourOf_153 ?_
      refine z_topi (y := I 155 q) (by rw [zs_ne _ _ (by omega)]) ?_
      refine lv_i2l hx hb dX7_hourOf_154 rfl ?_
      refine W.lcmp hx hb dX7_hourOf_155 ?_
      refine lv_if_le (tgt := 169) hx hb dX7_hourOf_156 (by decide) (fun c7 => ?_) (fun c7 => ?_)
      · skip
        refine lv_aload_n hx hb dX7_hourOf_169 rfl (lv_at hl 4 rfl) ?_
        refine z_getr M hw (zr_t hR 128 7 0 (by decide)) zf_X7_73 (zr_p hR 28 (by decide)) dX7_hourOf_170 ?_
        refine lv_iconst (v := 4) hx hb dX7_hourOf_173 (by decide) ?_
        refine lv_iload_n hx hb dX7_hourOf_174 rfl (lv_at hl 5 rfl) ?_
        refine lv_imul hx hb dX7_hourOf_175 ?_
        refine lv_iconst (v := 1) hx hb dX7_hourOf_176 (by decide) ?_
        refine lv_iadd hx hb dX7_hourOf_177 ?_
        refine z_lNald M hw (zr_t hR 156 9 48 (by decide)) (z4k q (by omega) 1 (by omega)) ⟨by omega, by omega⟩ dX7_hourOf_178 ?_
        refine z_topl (y := L 156 (4 * q + 1)) (by rw [zu_ne _ _ (by omega), zs_ne _ _ (by omega)]) ?_
        refine lv_iload hx hb dX7_hourOf_179 (lv_at hl 0 rfl) ?_
        refine lv_i2l hx hb dX7_hourOf_181 rfl ?_
        refine lv_ladd hx hb dX7_hourOf_182 ?_
        refine z_lNast M hw (zr_t hR 156 9 48 (by decide)) (z4k q (by omega) 1 (by omega)) ⟨by omega, by omega⟩ dX7_hourOf_183 (fun H locs hw => ?_)
        refine lv_aload_n hx hb dX7_hourOf_184 rfl (lv_at hl 4 rfl) ?_
        refine z_getr M hw (zr_t hR 128 7 0 (by decide)) zf_X7_73 (zr_p hR 28 (by decide)) dX7_hourOf_185 ?_
        refine lv_iconst (v := 4) hx hb dX7_hourOf_188 (by decide) ?_
        refine lv_iload_n hx hb dX7_hourOf_189 rfl (lv_at hl 5 rfl) ?_
        refine lv_imul hx hb dX7_hourOf_190 ?_
        refine lv_iconst (v := 2) hx hb dX7_hourOf_191 (by decide) ?_
        refine lv_iadd hx hb dX7_hourOf_192 ?_
        refine lv_dup2_11 hx hb dX7_hourOf_193 rfl rfl ?_
        refine z_lNald M hw (zr_t hR 156 9 48 (by decide)) (z4k q (by omega) 2 (by omega)) ⟨by omega, by omega⟩ dX7_hourOf_194 ?_
        refine z_topl (y := L 156 (4 * q + 2)) (by rw [zu_ne _ _ (by omega), zu_ne _ _ (by omega), zs_ne _ _ (by omega)]) ?_
        refine lv_iload hx hb dX7_hourOf_195 (lv_at hl 2 rfl) ?_
        refine lv_if_eq (tgt := 204) hx hb dX7_hourOf_197 (by decide) (fun c8 => ?_) (fun c8 => ?_)
        rotate_left
        · exact absurd c8 (by decide)
        refine lv_lconst (v := 0) hx hb dX7_hourOf_204 (by decide) ?_
        refine lv_ladd hx hb dX7_hourOf_205 ?_
        refine z_lNast M hw (zr_t hR 156 9 48 (by decide)) (z4k q (by omega) 2 (by omega)) ⟨by omega, by omega⟩ dX7_hourOf_206 (fun H locs hw => ?_)
        refine lv_aload_n hx hb dX7_hourOf_207 rfl (lv_at hl 4 rfl) ?_
        refine z_getr M hw (zr_t hR 128 7 0 (by decide)) zf_X7_73 (zr_p hR 28 (by decide)) dX7_hourOf_208 ?_
        refine lv_iconst (v := 4) hx hb dX7_hourOf_211 (by decide) ?_
        refine lv_iload_n hx hb dX7_hourOf_212 rfl (lv_at hl 5 rfl) ?_
        refine lv_imul hx hb dX7_hourOf_213 ?_
        refine lv_iconst (v := 3) hx hb dX7_hourOf_214 (by decide) ?_
        refine lv_iadd hx hb dX7_hourOf_215 ?_
        refine lv_dup2_11 hx hb dX7_hourOf_216 rfl rfl ?_
        refine z_lNald M hw (zr_t hR 156 9 48 (by decide)) (z4k q (by omega) 3 (by omega)) ⟨by omega, by omega⟩ dX7_hourOf_217 ?_
        refine z_topl (y := L 156 (4 * q + 3)) (by rw [zu_ne _ _ (by omega), zu_ne _ _ (by omega), zu_ne _ _ (by omega), zs_ne _ _ (by omega)]) ?_
        refine lv_iload hx hb dX7_hourOf_218 (lv_at hl 1 rfl) ?_
        refine lv_if_eq (tgt := 227) hx hb dX7_hourOf_220 (by decide) (fun c9 => ?_) (fun c9 => ?_)
        rotate_left
        · exact absurd c9 (by decide)
        refine lv_lconst (v := 0) hx hb dX7_hourOf_227 (by decide) ?_
        refine lv_ladd hx hb dX7_hourOf_228 ?_
        refine z_lNast M hw (zr_t hR 156 9 48 (by decide)) (z4k q (by omega) 3 (by omega)) ⟨by omega, by omega⟩ dX7_hourOf_229 (fun H locs hw => ?_)
        exact z_vret hx hb hr hw.2 (by unfold zHoL zCrd; simp only [eu, nI_clamp (show u < 2 ^ 31 by omega)]; simp only [if_neg (show ¬ zCut ((zFar I (L 157) ni nc (I 151 q)) u) from fun h => h c1), if_neg (show ¬ zLate I q ((zFar I (L 157) ni nc (I 151 q)) u) from fun h => h.2 c3)]; rw [if_pos c7]; exact hw.1) (Nat.le_of_ble_eq_true rfl) (Nat.le_of_ble_eq_true rfl) dX7_hourOf_230 hlocks
      · skip
        refine lv_aload_n hx hb dX7_hourOf_159 rfl (lv_at hl 4 rfl) ?_
        refine z_getr M hw (zr_t hR 128 7 0 (by decide)) zf_X7_70 (zr_p hR 27 (by decide)) dX7_hourOf_160 ?_
        refine lv_iload_n hx hb dX7_hourOf_163 rfl (lv_at hl 5 rfl) ?_
        refine z_iNald M hw (zr_t hR 155 8 12 (by decide)) rfl ⟨by omega, by omega⟩ dX7_hourOf_164 ?_
        refine z_topi (y := I 155 q) (by rw [zs_ne _ _ (by omega)]) ?_
        refine lv_i2l hx hb dX7_hourOf_165 rfl ?_
        refine lv_goto (tgt := 183) hx hb dX7_hourOf_166 (by decide) ?_
        refine z_lNast M hw (zr_t hR 156 9 48 (by decide)) (z4k q (by omega) 1 (by omega)) ⟨by omega, by omega⟩ dX7_hourOf_183 (fun H locs hw => ?_)
        refine lv_aload_n hx hb dX7_hourOf_184 rfl (lv_at hl 4 rfl) ?_
        refine z_getr M hw (zr_t hR 128 7 0 (by decide)) zf_X7_73 (zr_p hR 28 (by decide)) dX7_hourOf_185 ?_
        refine lv_iconst (v := 4) hx hb dX7_hourOf_188 (by decide) ?_
        refine lv_iload_n hx hb dX7_hourOf_189 rfl (lv_at hl 5 rfl) ?_
        refine lv_imul hx hb dX7_hourOf_190 ?_
        refine lv_iconst (v := 2) hx hb dX7_hourOf_191 (by decide) ?_
        refine lv_iadd hx hb dX7_hourOf_192 ?_
        refine lv_dup2_11 hx hb dX7_hourOf_193 rfl rfl ?_
        refine z_lNald M hw (zr_t hR 156 9 48 (by decide)) (z4k q (by omega) 2 (by omega)) ⟨by omega, by omega⟩ dX7_hourOf_194 ?_
        refine z_topl (y := L 156 (4 * q + 2)) (by rw [zu_ne _ _ (by omega), zu_ne _ _ (by omega), zs_ne _ _ (by omega)]) ?_
        refine lv_iload hx hb dX7_hourOf_195 (lv_at hl 2 rfl) ?_
        refine lv_if_eq (tgt := 204) hx hb dX7_hourOf_197 (by decide) (fun c10 => ?_) (fun c10 => ?_)
        rotate_left
        · exact absurd c10 (by decide)
        refine lv_lconst (v := 0) hx hb dX7_hourOf_204 (by decide) ?_
        refine lv_ladd hx hb dX7_hourOf_205 ?_
        refine z_lNast M hw (zr_t hR 156 9 48 (by decide)) (z4k q (by omega) 2 (by omega)) ⟨by omega, by omega⟩ dX7_hourOf_206 (fun H locs hw => ?_)
        refine lv_aload_n hx hb dX7_hourOf_207 rfl (lv_at hl 4 rfl) ?_
        refine z_getr M hw (zr_t hR 128 7 0 (by decide)) zf_X7_73 (zr_p hR 28 (by decide)) dX7_hourOf_208 ?_
        refine lv_iconst (v := 4) hx hb dX7_hourOf_211 (by decide) ?_
        refine lv_iload_n hx hb dX7_hourOf_212 rfl (lv_at hl 5 rfl) ?_
        refine lv_imul hx hb dX7_hourOf_213 ?_
        refine lv_iconst (v := 3) hx hb dX7_hourOf_214 (by decide) ?_
        refine lv_iadd hx hb dX7_hourOf_215 ?_
        refine lv_dup2_11 hx hb dX7_hourOf_216 rfl rfl ?_
        refine z_lNald M hw (zr_t hR 156 9 48 (by decide)) (z4k q (by omega) 3 (by omega)) ⟨by omega, by omega⟩ dX7_hourOf_217 ?_
        refine z_topl (y := L 156 (4 * q + 3)) (by rw [zu_ne _ _ (by omega), zu_ne _ _ (by omega), zu_ne _ _ (by omega), zs_ne _ _ (by omega)]) ?_
        refine lv_iload hx hb dX7_hourOf_218 (lv_at hl 1 rfl) ?_
        refine lv_if_eq (tgt := 227) hx hb dX7_hourOf_220 (by decide) (fun c11 => ?_) (fun c11 => ?_)
        rotate_left
        · exact absurd c11 (by decide)
        refine lv_lconst (v := 0) hx hb dX7_hourOf_227 (by decide) ?_
        refine lv_ladd hx hb dX7_hourOf_228 ?_
        refine z_lNast M hw (zr_t hR 156 9 48 (by decide)) (z4k q (by omega) 3 (by omega)) ⟨by omega, by omega⟩ dX7_hourOf_229 (fun H locs hw => ?_)
        exact z_vret hx hb hr hw.2 (by unfold zHoL zCrd; simp only [eu, nI_clamp (show u < 2 ^ 31 by omega)]; simp only [if_neg (show ¬ zCut ((zFar I (L 157) ni nc (I 151 q)) u) from fun h => h c1), if_neg (show ¬ zLate I q ((zFar I (L 157) ni nc (I 151 q)) u) from fun h => h.2 c3)]; rw [if_neg c7]; exact hw.1) (Nat.le_of_ble_eq_true rfl) (Nat.le_of_ble_eq_true rfl) dX7_hourOf_230 hlocks
    · skip
      refine lv_iconst (v := 1) hx hb dX7_hourOf_62 (by decide) ?_
      refine lv_goto (tgt := 67) hx hb dX7_hourOf_63 (by decide) ?_
      refine lv_istore (lv' := [(5, .int 1), (4, .int 0), (2, .long ((zFar I (L 157) ni nc (I 151 q)) u)), (0, .ref (ad 128)), (1, .int (nI q))]) hx hb dX7_hourOf_67 hl (by decide) rfl (fun ls hl => ?_)
      refine lv_aload_n hx hb dX7_hourOf_69 rfl (lv_at hl 3 rfl) ?_
      refine z_getr M hw (zr_t hR 128 7 0 (by decide)) zf_X7_73 (zr_p hR 28 (by decide)) dX7_hourOf_70 ?_
      refine lv_iconst (v := 4) hx hb dX7_hourOf_73 (by decide) ?_
      refine lv_iload_n hx hb dX7_hourOf_74 rfl (lv_at hl 4 rfl) ?_
      refine lv_imul hx hb dX7_hourOf_75 ?_
      refine lv_dup2_11 hx hb dX7_hourOf_76 rfl rfl ?_
      refine z_lNald M hw (zr_t hR 156 9 48 (by decide)) (z4k0 q (by omega)) ⟨by omega, by omega⟩ dX7_hourOf_77 ?_
      refine z_topl (y := L 156 (4 * q)) (by rw [zs_ne _ _ (by omega)]) ?_
      refine lv_iload hx hb dX7_hourOf_78 (lv_at hl 1 rfl) ?_
      refine lv_if_eq (tgt := 87) hx hb dX7_hourOf_80 (by decide) (fun c12 => ?_) (fun c12 => ?_)
      rotate_left
      · exact absurd c12 (by decide)
      refine lv_lload_n hx hb dX7_hourOf_87 rfl (lv_at hl 2 rfl) ?_
      refine lv_ldc2 (v := 1000000) hx hb M.2.2.2.1 (M.2.2.2.2.1.use (tb 859 (by decide +kernel)) rfl) dX7_hourOf_88 ?_
      refine lv_ldiv hx hb dX7_hourOf_91 (by decide) ?_
      refine lv_ladd hx hb dX7_hourOf_92 ?_
      refine z_lNast M hw (zr_t hR 156 9 48 (by decide)) (z4k0 q (by omega)) ⟨by omega, by omega⟩ dX7_hourOf_93 (fun H locs hw => ?_)
      refine lv_iload hx hb dX7_hourOf_94 (lv_at hl 1 rfl) ?_
      refine lv_if_eq (tgt := 108) hx hb dX7_hourOf_96 (by decide) (fun c13 => ?_) (fun c13 => ?_)
      rotate_left
      · exact absurd c13 (by decide)
      refine lv_iload hx hb dX7_hourOf_108 (lv_at hl 0 rfl) ?_
      refine lv_if_eq (tgt := 122) hx hb dX7_hourOf_110 (by decide) (fun c14 => ?_) (fun c14 => ?_)
      · exact absurd c14 (by decide)
      refine lv_aload_n hx hb dX7_hourOf_113 rfl (lv_at hl 3 rfl) ?_
      refine z_getr M hw (zr_t hR 128 7 0 (by decide)) zf_X7_67 (zr_p hR 26 (by decide)) dX7_hourOf_114 ?_
      refine lv_iload_n hx hb dX7_hourOf_117 rfl (lv_at hl 4 rfl) ?_
      refine z_iNald M hw (zr_t hR 154 8 12 (by decide)) rfl ⟨by omega, by omega⟩ dX7_hourOf_118 ?_
      refine z_topi (y := I 154 q) (by rw [zs_ne _ _ (by omega)]) ?_
      refine lv_goto (tgt := 123) hx hb dX7_hourOf_119 (by decide) ?_
      refine lv_topi (fun x15 ex15 => ?_)
      refine lv_istore (lv' := [(6, .int x15), (5, .int 1), (4, .int 0), (2, .long ((zFar I (L 157) ni nc (I 151 q)) u)), (0, .ref (ad 128)), (1, .int (nI q))]) hx hb dX7_hourOf_123 hl (by decide) rfl (fun ls hl => ?_)
      refine lv_aload_n hx hb dX7_hourOf_125 rfl (lv_at hl 4 rfl) ?_
      refine z_getr M hw (zr_t hR 128 7 0 (by decide)) zf_X7_73 (zr_p hR 28 (by decide)) dX7_hourOf_126 ?_
      refine lv_iconst (v := 4) hx hb dX7_hourOf_129 (by decide) ?_
      refine lv_iload_n hx hb dX7_hourOf_130 rfl (lv_at hl 5 rfl) ?_
      refine lv_imul hx hb dX7_hourOf_131 ?_
      refine lv_iconst (v := 1) hx hb dX7_hourOf_132 (by decide) ?_
      refine lv_iadd hx hb dX7_hourOf_133 ?_
      refine lv_aload_n hx hb dX7_hourOf_134 rfl (lv_at hl 4 rfl) ?_
      refine z_getr M hw (zr_t hR 128 7 0 (by decide)) zf_X7_73 (zr_p hR 28 (by decide)) dX7_hourOf_135 ?_
      refine lv_iconst (v := 4) hx hb dX7_hourOf_138 (by decide) ?_
      refine lv_iload_n hx hb dX7_hourOf_139 rfl (lv_at hl 5 rfl) ?_
      refine lv_imul hx hb dX7_hourOf_140 ?_
      refine lv_iconst (v := 1) hx hb dX7_hourOf_141 (by decide) ?_
      refine lv_iadd hx hb dX7_hourOf_142 ?_
      refine z_lNald M hw (zr_t hR 156 9 48 (by decide)) (z4k q (by omega) 1 (by omega)) ⟨by omega, by omega⟩ dX7_hourOf_143 ?_
      refine z_topl (y := L 156 (4 * q + 1)) (by rw [zu_ne _ _ (by omega), zs_ne _ _ (by omega)]) ?_
      refine lv_iload hx hb dX7_hourOf_144 (lv_at hl 0 rfl) ?_
      refine lv_i2l hx hb dX7_hourOf_146 rfl ?_
      refine lv_ladd hx hb dX7_hourOf_147 ?_
      refine lv_aload_n hx hb dX7_hourOf_148 rfl (lv_at hl 4 rfl) ?_
      refine z_getr M hw (zr_t hR 128 7 0 (by decide)) zf_X7_70 (zr_p hR 27 (by decide)) dX7_hourOf_149 ?_
      refine lv_iload_n hx hb dX7_hourOf_152 rfl (lv_at hl 5 rfl) ?_
      refine z_iNald M hw (zr_t hR 155 8 12 (by decide)) rfl ⟨by omega, by omega⟩ dX7_hourOf_153 ?_
      refine z_topi (y := I 155 q) (by rw [zs_ne _ _ (by omega)]) ?_
      refine lv_i2l hx hb dX7_hourOf_154 rfl ?_
      refine W.lcmp hx hb dX7_hourOf_155 ?_
      refine lv_if_le (tgt := 169) hx hb dX7_hourOf_156 (by decide) (fun c16 => ?_) (fun c16 => ?_)
      · skip
        refine lv_aload_n hx hb dX7_hourOf_169 rfl (lv_at hl 4 rfl) ?_
        refine z_getr M hw (zr_t hR 128 7 0 (by decide)) zf_X7_73 (zr_p hR 28 (by decide)) dX7_hourOf_170 ?_
        refine lv_iconst (v := 4) hx hb dX7_hourOf_173 (by decide) ?_
        refine lv_iload_n hx hb dX7_hourOf_174 rfl (lv_at hl 5 rfl) ?_
        refine lv_imul hx hb dX7_hourOf_175 ?_
        refine lv_iconst (v := 1) hx hb dX7_hourOf_176 (by decide) ?_
        refine lv_iadd hx hb dX7_hourOf_177 ?_
        refine z_lNald M hw (zr_t hR 156 9 48 (by decide)) (z4k q (by omega) 1 (by omega)) ⟨by omega, by omega⟩ dX7_hourOf_178 ?_
        refine z_topl (y := L 156 (4 * q + 1)) (by rw [zu_ne _ _ (by omega), zs_ne _ _ (by omega)]) ?_
        refine lv_iload hx hb dX7_hourOf_179 (lv_at hl 0 rfl) ?_
        refine lv_i2l hx hb dX7_hourOf_181 rfl ?_
        refine lv_ladd hx hb dX7_hourOf_182 ?_
        refine z_lNast M hw (zr_t hR 156 9 48 (by decide)) (z4k q (by omega) 1 (by omega)) ⟨by omega, by omega⟩ dX7_hourOf_183 (fun H locs hw => ?_)
        refine lv_aload_n hx hb dX7_hourOf_184 rfl (lv_at hl 4 rfl) ?_
        refine z_getr M hw (zr_t hR 128 7 0 (by decide)) zf_X7_73 (zr_p hR 28 (by decide)) dX7_hourOf_185 ?_
        refine lv_iconst (v := 4) hx hb dX7_hourOf_188 (by decide) ?_
        refine lv_iload_n hx hb dX7_hourOf_189 rfl (lv_at hl 5 rfl) ?_
        refine lv_imul hx hb dX7_hourOf_190 ?_
        refine lv_iconst (v := 2) hx hb dX7_hourOf_191 (by decide) ?_
        refine lv_iadd hx hb dX7_hourOf_192 ?_
        refine lv_dup2_11 hx hb dX7_hourOf_193 rfl rfl ?_
        refine z_lNald M hw (zr_t hR 156 9 48 (by decide)) (z4k q (by omega) 2 (by omega)) ⟨by omega, by omega⟩ dX7_hourOf_194 ?_
        refine z_topl (y := L 156 (4 * q + 2)) (by rw [zu_ne _ _ (by omega), zu_ne _ _ (by omega), zs_ne _ _ (by omega)]) ?_
        refine lv_iload hx hb dX7_hourOf_195 (lv_at hl 2 rfl) ?_
        refine lv_if_eq (tgt := 204) hx hb dX7_hourOf_197 (by decide) (fun c17 => ?_) (fun c17 => ?_)
        rotate_left
        · exact absurd c17 (by decide)
        refine lv_lconst (v := 0) hx hb dX7_hourOf_204 (by decide) ?_
        refine lv_ladd hx hb dX7_hourOf_205 ?_
        refine z_lNast M hw (zr_t hR 156 9 48 (by decide)) (z4k q (by omega) 2 (by omega)) ⟨by omega, by omega⟩ dX7_hourOf_206 (fun H locs hw => ?_)
        refine lv_aload_n hx hb dX7_hourOf_207 rfl (lv_at hl 4 rfl) ?_
        refine z_getr M hw (zr_t hR 128 7 0 (by decide)) zf_X7_73 (zr_p hR 28 (by decide)) dX7_hourOf_208 ?_
        refine lv_iconst (v := 4) hx hb dX7_hourOf_211 (by decide) ?_
        refine lv_iload_n hx hb dX7_hourOf_212 rfl (lv_at hl 5 rfl) ?_
        refine lv_imul hx hb dX7_hourOf_213 ?_
        refine lv_iconst (v := 3) hx hb dX7_hourOf_214 (by decide) ?_
        refine lv_iadd hx hb dX7_hourOf_215 ?_
        refine lv_dup2_11 hx hb dX7_hourOf_216 rfl rfl ?_
        refine z_lNald M hw (zr_t hR 156 9 48 (by decide)) (z4k q (by omega) 3 (by omega)) ⟨by omega, by omega⟩ dX7_hourOf_217 ?_
        refine z_topl (y := L 156 (4 * q + 3)) (by rw [zu_ne _ _ (by omega), zu_ne _ _ (by omega), zu_ne _ _ (by omega), zs_ne _ _ (by omega)]) ?_
        refine lv_iload hx hb dX7_hourOf_218 (lv_at hl 1 rfl) ?_
        refine lv_if_eq (tgt := 227) hx hb dX7_hourOf_220 (by decide) (fun c18 => ?_) (fun c18 => ?_)
        · exact absurd c18 (by decide)
        refine lv_lconst (v := 1) hx hb dX7_hourOf_223 (by decide) ?_
        refine lv_goto (tgt := 228) hx hb dX7_hourOf_224 (by decide) ?_
        refine lv_ladd hx hb dX7_hourOf_228 ?_
        refine z_lNast M hw (zr_t hR 156 9 48 (by decide)) (z4k q (by omega) 3 (by omega)) ⟨by omega, by omega⟩ dX7_hourOf_229 (fun H locs hw => ?_)
        exact z_vret hx hb hr hw.2 (by subst ex15; unfold zHoL zCrd; simp only [eu, nI_clamp (show u < 2 ^ 31 by omega)]; simp only [if_neg (show ¬ zCut ((zFar I (L 157) ni nc (I 151 q)) u) from fun h => h c1), if_pos (show zLate I q ((zFar I (L 157) ni nc (I 151 q)) u) from ⟨fun h => h c1, c3⟩)]; rw [if_pos c16]; exact hw.1) (Nat.le_of_ble_eq_true rfl) (Nat.le_of_ble_eq_true rfl) dX7_hourOf_230 hlocks
      · skip
        refine lv_aload_n hx hb dX7_hourOf_159 rfl (lv_at hl 4 rfl) ?_
        refine z_getr M hw (zr_t hR 128 7 0 (by decide)) zf_X7_70 (zr_p hR 27 (by decide)) dX7_hourOf_160 ?_
        refine lv_iload_n hx hb dX7_hourOf_163 rfl (lv_at hl 5 rfl) ?_
        refine z_iNald M hw (zr_t hR 155 8 12 (by decide)) rfl ⟨by omega, by omega⟩ dX7_hourOf_164 ?_
        refine z_topi (y := I 155 q) (by rw [zs_ne _ _ (by omega)]) ?_
        refine lv_i2l hx hb dX7_hourOf_165 rfl ?_
        refine lv_goto (tgt := 183) hx hb dX7_hourOf_166 (by decide) ?_
        refine z_lNast M hw (zr_t hR 156 9 48 (by decide)) (z4k q (by omega) 1 (by omega)) ⟨by omega, by omega⟩ dX7_hourOf_183 (fun H locs hw => ?_)
        refine lv_aload_n hx hb dX7_hourOf_184 rfl (lv_at hl 4 rfl) ?_
        refine z_getr M hw (zr_t hR 128 7 0 (by decide)) zf_X7_73 (zr_p hR 28 (by decide)) dX7_hourOf_185 ?_
        refine lv_iconst (v := 4) hx hb dX7_hourOf_188 (by decide) ?_
        refine lv_iload_n hx hb dX7_hourOf_189 rfl (lv_at hl 5 rfl) ?_
        refine lv_imul hx hb dX7_hourOf_190 ?_
        refine lv_iconst (v := 2) hx hb dX7_hourOf_191 (by decide) ?_
        refine lv_iadd hx hb dX7_hourOf_192 ?_
        refine lv_dup2_11 hx hb dX7_hourOf_193 rfl rfl ?_
        refine z_lNald M hw (zr_t hR 156 9 48 (by decide)) (z4k q (by omega) 2 (by omega)) ⟨by omega, by omega⟩ dX7_hourOf_194 ?_
        refine z_topl (y := L 156 (4 * q + 2)) (by rw [zu_ne _ _ (by omega), zu_ne _ _ (by omega), zs_ne _ _ (by omega)]) ?_
        refine lv_iload hx hb dX7_hourOf_195 (lv_at hl 2 rfl) ?_
        refine lv_if_eq (tgt := 204) hx hb dX7_hourOf_197 (by decide) (fun c19 => ?_) (fun c19 => ?_)
        rotate_left
        · exact absurd c19 (by decide)
        refine lv_lconst (v := 0) hx hb dX7_hourOf_204 (by decide) ?_
        refine lv_ladd hx hb dX7_hourOf_205 ?_
        refine z_lNast M hw (zr_t hR 156 9 48 (by decide)) (z4k q (by omega) 2 (by omega)) ⟨by omega, by omega⟩ dX7_hourOf_206 (fun H locs hw => ?_)
        refine lv_aload_n hx hb dX7_hourOf_207 rfl (lv_at hl 4 rfl) ?_
        refine z_getr M hw (zr_t hR 128 7 0 (by decide)) zf_X7_73 (zr_p hR 28 (by decide)) dX7_hourOf_208 ?_
        refine lv_iconst (v := 4) hx hb dX7_hourOf_211 (by decide) ?_
        refine lv_iload_n hx hb dX7_hourOf_212 rfl (lv_at hl 5 rfl) ?_
        refine lv_imul hx hb dX7_hourOf_213 ?_
        refine lv_iconst (v := 3) hx hb dX7_hourOf_214 (by decide) ?_
        refine lv_iadd hx hb dX7_hourOf_215 ?_
        refine lv_dup2_11 hx hb dX7_hourOf_216 rfl rfl ?_
        refine z_lNald M hw (zr_t hR 156 9 48 (by decide)) (z4k q (by omega) 3 (by omega)) ⟨by omega, by omega⟩ dX7_hourOf_217 ?_
        refine z_topl (y := L 156 (4 * q + 3)) (by rw [zu_ne _ _ (by omega), zu_ne _ _ (by omega), zu_ne _ _ (by omega), zs_ne _ _ (by omega)]) ?_
        refine lv_iload hx hb dX7_hourOf_218 (lv_at hl 1 rfl) ?_
        refine lv_if_eq (tgt := 227) hx hb dX7_hourOf_220 (by decide) (fun c20 => ?_) (fun c20 => ?_)
        · exact absurd c20 (by decide)
        refine lv_lconst (v := 1) hx hb dX7_hourOf_223 (by decide) ?_
        refine lv_goto (tgt := 228) hx hb dX7_hourOf_224 (by decide) ?_
        refine lv_ladd hx hb dX7_hourOf_228 ?_
        refine z_lNast M hw (zr_t hR 156 9 48 (by decide)) (z4k q (by omega) 3 (by omega)) ⟨by omega, by omega⟩ dX7_hourOf_229 (fun H locs hw => ?_)
        exact z_vret hx hb hr hw.2 (by subst ex15; unfold zHoL zCrd; simp only [eu, nI_clamp (show u < 2 ^ 31 by omega)]; simp only [if_neg (show ¬ zCut ((zFar I (L 157) ni nc (I 151 q)) u) from fun h => h c1), if_pos (show zLate I q ((zFar I (L 157) ni nc (I 151 q)) u) from ⟨fun h => h c1, c3⟩)]; rw [if_neg c16]; exact hw.1) (Nat.le_of_ble_eq_true rfl) (Nat.le_of_ble_eq_true rfl) dX7_hourOf_230 hlocks
  · skip
    refine lv_iconst (v := 1) hx hb dX7_hourOf_30 (by decide) ?_
    refine lv_goto (tgt := 35) hx hb dX7_hourOf_31 (by decide) ?_
    refine lv_istore (lv' := [(4, .int 1), (2, .long ((zFar I (L 157) ni nc (I 151 q)) u)), (0, .ref (ad 128)), (1, .int (nI q))]) hx hb dX7_hourOf_35 hl (by decide) rfl (fun ls hl => ?_)
    refine lv_iload hx hb dX7_hourOf_37 (lv_at hl 0 rfl) ?_
    refine lv_if_ne (tgt := 66) hx hb dX7_hourOf_39 (by decide) (fun c21 => ?_) (fun c21 => ?_)
    rotate_left
    · exact absurd c21 (by decide)
    refine lv_iconst (v := 0) hx hb dX7_hourOf_66 (by decide) ?_
    refine lv_istore (lv' := [(5, .int 0), (4, .int 1), (2, .long ((zFar I (L 157) ni nc (I 151 q)) u)), (0, .ref (ad 128)), (1, .int (nI q))]) hx hb dX7_hourOf_67 hl (by decide) rfl (fun ls hl => ?_)
    refine lv_aload_n hx hb dX7_hourOf_69 rfl (lv_at hl 3 rfl) ?_
    refine z_getr M hw (zr_t hR 128 7 0 (by decide)) zf_X7_73 (zr_p hR 28 (by decide)) dX7_hourOf_70 ?_
    refine lv_iconst (v := 4) hx hb dX7_hourOf_73 (by decide) ?_
    refine lv_iload_n hx hb dX7_hourOf_74 rfl (lv_at hl 4 rfl) ?_
    refine lv_imul hx hb dX7_hourOf_75 ?_
    refine lv_dup2_11 hx hb dX7_hourOf_76 rfl rfl ?_
    refine z_lNald M hw (zr_t hR 156 9 48 (by decide)) (z4k0 q (by omega)) ⟨by omega, by omega⟩ dX7_hourOf_77 ?_
    refine z_topl (y := L 156 (4 * q)) (by rw [zs_ne _ _ (by omega)]) ?_
    refine lv_iload hx hb dX7_hourOf_78 (lv_at hl 1 rfl) ?_
    refine lv_if_eq (tgt := 87) hx hb dX7_hourOf_80 (by decide) (fun c22 => ?_) (fun c22 => ?_)
    · exact absurd c22 (by decide)
    refine lv_lconst (v := 0) hx hb dX7_hourOf_83 (by decide) ?_
    refine lv_goto (tgt := 92) hx hb dX7_hourOf_84 (by decide) ?_
    refine lv_ladd hx hb dX7_hourOf_92 ?_
    refine z_lNast M hw (zr_t hR 156 9 48 (by decide)) (z4k0 q (by omega)) ⟨by omega, by omega⟩ dX7_hourOf_93 (fun H locs hw => ?_)
    refine lv_iload hx hb dX7_hourOf_94 (lv_at hl 1 rfl) ?_
    refine lv_if_eq (tgt := 108) hx hb dX7_hourOf_96 (by decide) (fun c23 => ?_) (fun c23 => ?_)
    · exact absurd c23 (by decide)
    refine lv_aload_n hx hb dX7_hourOf_99 rfl (lv_at hl 3 rfl) ?_
    refine z_getr M hw (zr_t hR 128 7 0 (by decide)) zf_X7_64 (zr_p hR 25 (by decide)) dX7_hourOf_100 ?_
    refine lv_iload_n hx hb dX7_hourOf_103 rfl (lv_at hl 4 rfl) ?_
    refine z_iNald M hw (zr_t hR 153 8 12 (by decide)) rfl ⟨by omega, by omega⟩ dX7_hourOf_104 ?_
    refine z_topi (y := I 153 q) (by rw [zs_ne _ _ (by omega)]) ?_
    refine lv_goto (tgt := 123) hx hb dX7_hourOf_105 (by decide) ?_
    refine lv_topi (fun x24 ex24 => ?_)
    refine lv_istore (lv' := [(6, .int x24), (5, .int 0), (4, .int 1), (2, .long ((zFar I (L 157) ni nc (I 151 q)) u)), (0, .ref (ad 128)), (1, .int (nI q))]) hx hb dX7_hourOf_123 hl (by decide) rfl (fun ls hl => ?_)
    refine lv_aload_n hx hb dX7_hourOf_125 rfl (lv_at hl 4 rfl) ?_
    refine z_getr M hw (zr_t hR 128 7 0 (by decide)) zf_X7_73 (zr_p hR 28 (by decide)) dX7_hourOf_126 ?_
    refine lv_iconst (v := 4) hx hb dX7_hourOf_129 (by decide) ?_
    refine lv_iload_n hx hb dX7_hourOf_130 rfl (lv_at hl 5 rfl) ?_
    refine lv_imul hx hb dX7_hourOf_131 ?_
    refine lv_iconst (v := 1) hx hb dX7_hourOf_132 (by decide) ?_
    refine lv_iadd hx hb dX7_hourOf_133 ?_
    refine lv_aload_n hx hb dX7_hourOf_134 rfl (lv_at hl 4 rfl) ?_
    refine z_getr M hw (zr_t hR 128 7 0 (by decide)) zf_X7_73 (zr_p hR 28 (by decide)) dX7_hourOf_135 ?_
    refine lv_iconst (v := 4) hx hb dX7_hourOf_138 (by decide) ?_
    refine lv_iload_n hx hb dX7_hourOf_139 rfl (lv_at hl 5 rfl) ?_
    refine lv_imul hx hb dX7_hourOf_140 ?_
    refine lv_iconst (v := 1) hx hb dX7_hourOf_141 (by decide) ?_
    refine lv_iadd hx hb dX7_hourOf_142 ?_
    refine z_lNald M hw (zr_t hR 156 9 48 (by decide)) (z4k q (by omega) 1 (by omega)) ⟨by omega, by omega⟩ dX7_hourOf_143 ?_
    refine z_topl (y := L 156 (4 * q + 1)) (by rw [zu_ne _ _ (by omega), zs_ne _ _ (by omega)]) ?_
    refine lv_iload hx hb dX7_hourOf_144 (lv_at hl 0 rfl) ?_
    refine lv_i2l hx hb dX7_hourOf_146 rfl ?_
    refine lv_ladd hx hb dX7_hourOf_147 ?_
    refine lv_aload_n hx hb dX7_hourOf_148 rfl (lv_at hl 4 rfl) ?_
    refine z_getr M hw (zr_t hR 128 7 0 (by decide)) zf_X7_70 (zr_p hR 27 (by decide)) dX7_hourOf_149 ?_
    refine lv_iload_n hx hb dX7_hourOf_152 rfl (lv_at hl 5 rfl) ?_
    refine z_iNald M hw (zr_t hR 155 8 12 (by decide)) rfl ⟨by omega, by omega⟩ dX7_hourOf_153 ?_
    refine z_topi (y := I 155 q) (by rw [zs_ne _ _ (by omega)]) ?_
    refine lv_i2l hx hb dX7_hourOf_154 rfl ?_
    refine W.lcmp hx hb dX7_hourOf_155 ?_
    refine lv_if_le (tgt := 169) hx hb dX7_hourOf_156 (by decide) (fun c25 => ?_) (fun c25 => ?_)
    · skip
      refine lv_aload_n hx hb dX7_hourOf_169 rfl (lv_at hl 4 rfl) ?_
      refine z_getr M hw (zr_t hR 128 7 0 (by decide)) zf_X7_73 (zr_p hR 28 (by decide)) dX7_hourOf_170 ?_
      refine lv_iconst (v := 4) hx hb dX7_hourOf_173 (by decide) ?_
      refine lv_iload_n hx hb dX7_hourOf_174 rfl (lv_at hl 5 rfl) ?_
      refine lv_imul hx hb dX7_hourOf_175 ?_
      refine lv_iconst (v := 1) hx hb dX7_hourOf_176 (by decide) ?_
      refine lv_iadd hx hb dX7_hourOf_177 ?_
      refine z_lNald M hw (zr_t hR 156 9 48 (by decide)) (z4k q (by omega) 1 (by omega)) ⟨by omega, by omega⟩ dX7_hourOf_178 ?_
      refine z_topl (y := L 156 (4 * q + 1)) (by rw [zu_ne _ _ (by omega), zs_ne _ _ (by omega)]) ?_
      refine lv_iload hx hb dX7_hourOf_179 (lv_at hl 0 rfl) ?_
      refine lv_i2l hx hb dX7_hourOf_181 rfl ?_
      refine lv_ladd hx hb dX7_hourOf_182 ?_
      refine z_lNast M hw (zr_t hR 156 9 48 (by decide)) (z4k q (by omega) 1 (by omega)) ⟨by omega, by omega⟩ dX7_hourOf_183 (fun H locs hw => ?_)
      refine lv_aload_n hx hb dX7_hourOf_184 rfl (lv_at hl 4 rfl) ?_
      refine z_getr M hw (zr_t hR 128 7 0 (by decide)) zf_X7_73 (zr_p hR 28 (by decide)) dX7_hourOf_185 ?_
      refine lv_iconst (v := 4) hx hb dX7_hourOf_188 (by decide) ?_
      refine lv_iload_n hx hb dX7_hourOf_189 rfl (lv_at hl 5 rfl) ?_
      refine lv_imul hx hb dX7_hourOf_190 ?_
      refine lv_iconst (v := 2) hx hb dX7_hourOf_191 (by decide) ?_
      refine lv_iadd hx hb dX7_hourOf_192 ?_
      refine lv_dup2_11 hx hb dX7_hourOf_193 rfl rfl ?_
      refine z_lNald M hw (zr_t hR 156 9 48 (by decide)) (z4k q (by omega) 2 (by omega)) ⟨by omega, by omega⟩ dX7_hourOf_194 ?_
      refine z_topl (y := L 156 (4 * q + 2)) (by rw [zu_ne _ _ (by omega), zu_ne _ _ (by omega), zs_ne _ _ (by omega)]) ?_
      refine lv_iload hx hb dX7_hourOf_195 (lv_at hl 2 rfl) ?_
      refine lv_if_eq (tgt := 204) hx hb dX7_hourOf_197 (by decide) (fun c26 => ?_) (fun c26 => ?_)
      · exact absurd c26 (by decide)
      refine lv_lconst (v := 1) hx hb dX7_hourOf_200 (by decide) ?_
      refine lv_goto (tgt := 205) hx hb dX7_hourOf_201 (by decide) ?_
      refine lv_ladd hx hb dX7_hourOf_205 ?_
      refine z_lNast M hw (zr_t hR 156 9 48 (by decide)) (z4k q (by omega) 2 (by omega)) ⟨by omega, by omega⟩ dX7_hourOf_206 (fun H locs hw => ?_)
      refine lv_aload_n hx hb dX7_hourOf_207 rfl (lv_at hl 4 rfl) ?_
      refine z_getr M hw (zr_t hR 128 7 0 (by decide)) zf_X7_73 (zr_p hR 28 (by decide)) dX7_hourOf_208 ?_
      refine lv_iconst (v := 4) hx hb dX7_hourOf_211 (by decide) ?_
      refine lv_iload_n hx hb dX7_hourOf_212 rfl (lv_at hl 5 rfl) ?_
      refine lv_imul hx hb dX7_hourOf_213 ?_
      refine lv_iconst (v := 3) hx hb dX7_hourOf_214 (by decide) ?_
      refine lv_iadd hx hb dX7_hourOf_215 ?_
      refine lv_dup2_11 hx hb dX7_hourOf_216 rfl rfl ?_
      refine z_lNald M hw (zr_t hR 156 9 48 (by decide)) (z4k q (by omega) 3 (by omega)) ⟨by omega, by omega⟩ dX7_hourOf_217 ?_
      refine z_topl (y := L 156 (4 * q + 3)) (by rw [zu_ne _ _ (by omega), zu_ne _ _ (by omega), zu_ne _ _ (by omega), zs_ne _ _ (by omega)]) ?_
      refine lv_iload hx hb dX7_hourOf_218 (lv_at hl 1 rfl) ?_
      refine lv_if_eq (tgt := 227) hx hb dX7_hourOf_220 (by decide) (fun c27 => ?_) (fun c27 => ?_)
      rotate_left
      · exact absurd c27 (by decide)
      refine lv_lconst (v := 0) hx hb dX7_hourOf_227 (by decide) ?_
      refine lv_ladd hx hb dX7_hourOf_228 ?_
      refine z_lNast M hw (zr_t hR 156 9 48 (by decide)) (z4k q (by omega) 3 (by omega)) ⟨by omega, by omega⟩ dX7_hourOf_229 (fun H locs hw => ?_)
      exact z_vret hx hb hr hw.2 (by subst ex24; unfold zHoL zCrd; simp only [eu, nI_clamp (show u < 2 ^ 31 by omega)]; simp only [if_pos (show zCut ((zFar I (L 157) ni nc (I 151 q)) u) from c1), if_neg (show ¬ zLate I q ((zFar I (L 157) ni nc (I 151 q)) u) from fun h => h.1 c1)]; rw [if_pos c25]; exact hw.1) (Nat.le_of_ble_eq_true rfl) (Nat.le_of_ble_eq_true rfl) dX7_hourOf_230 hlocks
    · skip
      refine lv_aload_n hx hb dX7_hourOf_159 rfl (lv_at hl 4 rfl) ?_
      refine z_getr M hw (zr_t hR 128 7 0 (by decide)) zf_X7_70 (zr_p hR 27 (by decide)) dX7_hourOf_160 ?_
      refine lv_iload_n hx hb dX7_hourOf_163 rfl (lv_at hl 5 rfl) ?_
      refine z_iNald M hw (zr_t hR 155 8 12 (by decide)) rfl ⟨by omega, by omega⟩ dX7_hourOf_164 ?_
      refine z_topi (y := I 155 q) (by rw [zs_ne _ _ (by omega)]) ?_
      refine lv_i2l hx hb dX7_hourOf_165 rfl ?_
      refine lv_goto (tgt := 183) hx hb dX7_hourOf_166 (by decide) ?_
      refine z_lNast M hw (zr_t hR 156 9 48 (by decide)) (z4k q (by omega) 1 (by omega)) ⟨by omega, by omega⟩ dX7_hourOf_183 (fun H locs hw => ?_)
      refine lv_aload_n hx hb dX7_hourOf_184 rfl (lv_at hl 4 rfl) ?_
      refine z_getr M hw (zr_t hR 128 7 0 (by decide)) zf_X7_73 (zr_p hR 28 (by decide)) dX7_hourOf_185 ?_
      refine lv_iconst (v := 4) hx hb dX7_hourOf_188 (by decide) ?_
      refine lv_iload_n hx hb dX7_hourOf_189 rfl (lv_at hl 5 rfl) ?_
      refine lv_imul hx hb dX7_hourOf_190 ?_
      refine lv_iconst (v := 2) hx hb dX7_hourOf_191 (by decide) ?_
      refine lv_iadd hx hb dX7_hourOf_192 ?_
      refine lv_dup2_11 hx hb dX7_hourOf_193 rfl rfl ?_
      refine z_lNald M hw (zr_t hR 156 9 48 (by decide)) (z4k q (by omega) 2 (by omega)) ⟨by omega, by omega⟩ dX7_hourOf_194 ?_
      refine z_topl (y := L 156 (4 * q + 2)) (by rw [zu_ne _ _ (by omega), zu_ne _ _ (by omega), zs_ne _ _ (by omega)]) ?_
      refine lv_iload hx hb dX7_hourOf_195 (lv_at hl 2 rfl) ?_
      refine lv_if_eq (tgt := 204) hx hb dX7_hourOf_197 (by decide) (fun c28 => ?_) (fun c28 => ?_)
      · exact absurd c28 (by decide)
      refine lv_lconst (v := 1) hx hb dX7_hourOf_200 (by decide) ?_
      refine lv_goto (tgt := 205) hx hb dX7_hourOf_201 (by decide) ?_
      refine lv_ladd hx hb dX7_hourOf_205 ?_
      refine z_lNast M hw (zr_t hR 156 9 48 (by decide)) (z4k q (by omega) 2 (by omega)) ⟨by omega, by omega⟩ dX7_hourOf_206 (fun H locs hw => ?_)
      refine lv_aload_n hx hb dX7_hourOf_207 rfl (lv_at hl 4 rfl) ?_
      refine z_getr M hw (zr_t hR 128 7 0 (by decide)) zf_X7_73 (zr_p hR 28 (by decide)) dX7_hourOf_208 ?_
      refine lv_iconst (v := 4) hx hb dX7_hourOf_211 (by decide) ?_
      refine lv_iload_n hx hb dX7_hourOf_212 rfl (lv_at hl 5 rfl) ?_
      refine lv_imul hx hb dX7_hourOf_213 ?_
      refine lv_iconst (v := 3) hx hb dX7_hourOf_214 (by decide) ?_
      refine lv_iadd hx hb dX7_hourOf_215 ?_
      refine lv_dup2_11 hx hb dX7_hourOf_216 rfl rfl ?_
      refine z_lNald M hw (zr_t hR 156 9 48 (by decide)) (z4k q (by omega) 3 (by omega)) ⟨by omega, by omega⟩ dX7_hourOf_217 ?_
      refine z_topl (y := L 156 (4 * q + 3)) (by rw [zu_ne _ _ (by omega), zu_ne _ _ (by omega), zu_ne _ _ (by omega), zs_ne _ _ (by omega)]) ?_
      refine lv_iload hx hb dX7_hourOf_218 (lv_at hl 1 rfl) ?_
      refine lv_if_eq (tgt := 227) hx hb dX7_hourOf_220 (by decide) (fun c29 => ?_) (fun c29 => ?_)
      rotate_left
      · exact absurd c29 (by decide)
      refine lv_lconst (v := 0) hx hb dX7_hourOf_227 (by decide) ?_
      refine lv_ladd hx hb dX7_hourOf_228 ?_
      refine z_lNast M hw (zr_t hR 156 9 48 (by decide)) (z4k q (by omega) 3 (by omega)) ⟨by omega, by omega⟩ dX7_hourOf_229 (fun H locs hw => ?_)
      exact z_vret hx hb hr hw.2 (by subst ex24; unfold zHoL zCrd; simp only [eu, nI_clamp (show u < 2 ^ 31 by omega)]; simp only [if_pos (show zCut ((zFar I (L 157) ni nc (I 151 q)) u) from c1), if_neg (show ¬ zLate I q ((zFar I (L 157) ni nc (I 151 q)) u) from fun h => h.1 c1)]; rw [if_neg c25]; exact hw.1) (Nat.le_of_ble_eq_true rfl) (Nat.le_of_ble_eq_true rfl) dX7_hourOf_230 hlocks
set_option maxHeartbeats 4000000 in
set_option maxRecDepth 100000 in
theorem c_X7_pass (l : Launch) (base : Nat) (D : va_G) (cA : Nat → ClassId) (ad : Nat → Nat) (ty : zTyp) (I : zIt) (L : zLt) (P : zPt) (hR : zref ty P) (ni nc ns nt : Nat) (hbd : zRbd ni nc ns nt) (hV : zRv ni nc ns nt I) (x : Int32) : zMi l base D cA yX7_pass cX7_pass 4 .int 3 76 0 0 [.ref (ad 128), .int x] (zW base D cA ad ty I L P) (if (if zin x 1 500 then 0 else 1) = 0 then (zRhrs ni nc ns nt ((zu I 128 0 0), L) x.toNatClampNeg).1 128 1 else 0) (zW base D cA ad ty (if (if zin x 1 500 then 0 else 1) = 0 then (zRhrs ni nc ns nt ((zu I 128 0 0), L) x.toNatClampNeg).1 else zu I 128 0 1) (if (if zin x 1 500 then 0 else 1) = 0 then (zRhrs ni nc ns nt ((zu I 128 0 0), L) x.toNatClampNeg).2 else L) P) := by
  refine z_start (by decide +kernel) (Nat.le_of_ble_eq_true rfl) fun p e s m below meth c ls M hP hS hl hr hlocks hnm => ?_
  have M : zM p s m c cX7_pass RX7 4 base D cA := M
  have hw : zH base D cA s s.heap [] ad ty I L P := ⟨hP, hS⟩
  obtain ⟨hx, hb, -⟩ := id M
  have hl : lv_has ls 4 [(0, .ref (ad 128)), (1, .int x)] := hl
  obtain ⟨hb1, hb2, hb3, hb4⟩ := id hbd
  refine lv_aload_n hx hb dX7_pass_0 rfl (lv_at hl 0 rfl) ?_
  refine lv_iload_n hx hb dX7_pass_1 rfl (lv_at hl 1 rfl) ?_
  refine lv_iconst (v := 1) hx hb dX7_pass_2 (by decide) ?_
  refine lv_sipush (v := 500) hx hb dX7_pass_3 (by decide) ?_
  refine z_ci0 (z_runS (As := [.int x, .int 1, .int 500]) (rest := [.ref (ad 128)]) M hw.2 zc_X7_91 (c_X7_in l base D cA ad ty I L P x 1 500) hw.1 rfl rfl ⟨Nat.le_of_ble_eq_true rfl, Nat.le_of_ble_eq_true rfl⟩ ⟨Nat.le_of_ble_eq_true rfl, Nat.le_of_ble_eq_true rfl⟩ hl.1 (Nat.le_of_ble_eq_true rfl) dX7_pass_6) hw (fun H locs hw => ?_)
  refine lv_if_eq (tgt := 16) hx hb dX7_pass_9 (by decide) (fun c1 => ?_) (fun c1 => ?_)
  · skip
    have c1 := zb_eq0.mp c1
    refine lv_iconst (v := 1) hx hb dX7_pass_16 (by decide) ?_
    refine z_ci0 (z_runV (As := [.int 1]) (rest := []) M hw (zr_t hR 128 7 0 (by decide)) zc_X7_108 (c_X7_goesWell l base D cA ad ty I L P hR 1) hw.1 rfl rfl ⟨Nat.le_of_ble_eq_true rfl, Nat.le_of_ble_eq_true rfl⟩ ⟨Nat.le_of_ble_eq_true rfl, Nat.le_of_ble_eq_true rfl⟩ hl.1 (Nat.le_of_ble_eq_true rfl) dX7_pass_17) hw (fun H locs hw => ?_)
    rw [zb_0 (by decide)]
    have hpl : (if zin x 1 500 then 0 else 1) = 1 := by (try first | rw [if_pos c1] | rw [if_neg c1])
    refine lv_if_ne (tgt := 25) hx hb dX7_pass_20 (by decide) (fun c2 => ?_) (fun c2 => ?_)
    · exact absurd c2 (by decide)
    refine lv_iconst (v := 0) hx hb dX7_pass_23 (by decide) ?_
    exact z_iret hx hb hr (by rw [hpl]; rfl) rfl hw.2 (by rw [hpl]; exact hw.1) (Nat.le_of_ble_eq_true rfl) (Nat.le_of_ble_eq_true rfl) dX7_pass_24 hlocks
  · skip
    have c1 := zb_ne0.mp c1
    refine lv_iconst (v := 0) hx hb dX7_pass_12 (by decide) ?_
    refine lv_goto (tgt := 17) hx hb dX7_pass_13 (by decide) ?_
    refine z_ci0 (z_runV (As := [.int 0]) (rest := []) M hw (zr_t hR 128 7 0 (by decide)) zc_X7_108 (c_X7_goesWell l base D cA ad ty I L P hR 0) hw.1 rfl rfl ⟨Nat.le_of_ble_eq_true rfl, Nat.le_of_ble_eq_true rfl⟩ ⟨Nat.le_of_ble_eq_true rfl, Nat.le_of_ble_eq_true rfl⟩ hl.1 (Nat.le_of_ble_eq_true rfl) dX7_pass_17) hw (fun H locs hw => ?_)
    rw [zb_1 (by decide)]
    have hpl : (if zin x 1 500 then 0 else 1) = 0 := by (try first | rw [if_pos c1] | rw [if_neg c1])
    refine lv_if_ne (tgt := 25) hx hb dX7_pass_20 (by decide) (fun c3 => ?_) (fun c3 => ?_)
    rotate_left
    · exact absurd c3 (by decide)
    refine lv_iconst (v := 0) hx hb dX7_pass_25 (by decide) ?_
    refine lv_istore_n (lv' := [(2, .int 0), (0, .ref (ad 128)), (1, .int x)]) hx hb dX7_pass_26 rfl hl (by decide) rfl (fun ls hl => ?_)
    have hV0 : zRv ni nc ns nt (zu I 128 0 0) := zRv_zu (by unfold zRl; omega) hV
    obtain ⟨h, hh, ehx⟩ : ∃ h, h < 501 ∧ x = nI h := by
      have h1 := c1.1; have h2 := c1.2
      rw [Int32.le_iff_toInt_le] at h1 h2
      have e1 : (1 : Int32).toInt = 1 := by decide
      have e5 : (500 : Int32).toInt = 500 := by decide
      have hc9 : x.toNatClampNeg = x.toInt.toNat := rfl
      exact ⟨x.toNatClampNeg, by omega, Int32.toInt_inj.mp (by rw [nI_toInt (by omega)]; omega)⟩
    have ehc : x.toNatClampNeg = h := by rw [ehx, nI_clamp (by omega)]
    rw [ehx] at hl
    refine z_loop (h) (fun (k : Nat) H locs ls => ∃ (J : zIt), ∃ (K : zLt), (zRhrs ni nc ns nt ((zu I 128 0 0), L) k = (J, K)) ∧ zH base D cA s H locs ad ty J K P ∧ lv_has ls 4 [(0, .ref (ad 128)), (1, .int (nI h)), (2, .int (nI k))]) 0 ⟨_, _, rfl, hw, lv_sub hl [1, 2, 0] rfl⟩ (by omega) (fun k hk_k ih_k H locs ls hI => ?_)
    obtain ⟨J, K, hq, hw, hl⟩ := hI
    have hJ : zRv ni nc ns nt J := by have := zRv_hrs (q := ((zu I 128 0 0), L)) hV0 k; rw [hq] at this; exact this
    have hJ1 : zRv ni nc ns nt (zu J 128 1 (J 128 1 + 1)) := zRv_zu (by unfold zRl; omega) hJ
    refine lv_iload_n hx hb dX7_pass_27 rfl (lv_at hl 2 rfl) ?_
    refine lv_iload_n hx hb dX7_pass_28 rfl (lv_at hl 1 rfl) ?_
    refine lv_icmp_ge (tgt := 99) hx hb dX7_pass_29 (by decide) (fun c4 => ?_) (fun c4 => ?_)
    · skip
      have hge2 : h = k := Nat.le_antisymm (z_ge (show nI h ≤ nI k from c4) (by omega) (by omega)) (by omega)
      refine lv_aload_n hx hb dX7_pass_99 rfl (lv_at hl 0 rfl) ?_
      refine z_geti M hw (zr_t hR 128 7 0 (by decide)) zf_X7_166 dX7_pass_100 ?_
      exact z_iret hx hb hr (by rw [hpl, ehc, hge2, hq]; rfl) rfl hw.2 (by rw [hpl, ehc, hge2, hq]; exact hw.1) (Nat.le_of_ble_eq_true rfl) (Nat.le_of_ble_eq_true rfl) dX7_pass_103 hlocks
    · skip
      have hltk : k < h := z_lt (show ¬ nI h ≤ nI k from c4) (by omega)
      refine lv_aload_n hx hb dX7_pass_32 rfl (lv_at hl 0 rfl) ?_
      refine lv_dup hx hb dX7_pass_33 rfl ?_
      refine z_geti M hw (zr_t hR 128 7 0 (by decide)) zf_X7_166 dX7_pass_34 ?_
      refine lv_iconst (v := 1) hx hb dX7_pass_37 (by decide) ?_
      refine lv_iadd hx hb dX7_pass_38 ?_
      refine z_puti M hw (zr_t hR 128 7 0 (by decide)) zf_X7_166 (Or.inl rfl) rfl rfl dX7_pass_39 (fun H locs hw => ?_)
      refine lv_iconst (v := 0) hx hb dX7_pass_42 (by decide) ?_
      refine lv_istore_n (lv' := [(3, .int 0), (0, .ref (ad 128)), (1, .int (nI h)), (2, .int (nI k))]) hx hb dX7_pass_43 rfl hl (by decide) rfl (fun ls hl => ?_)
      refine z_loop (ns) (fun (i : Nat) H locs ls => zH base D cA s H locs ad ty (zRsh (zu J 128 1 (J 128 1 + 1)) i) K P ∧ lv_has ls 4 [(0, .ref (ad 128)), (1, .int (nI h)), (2, .int (nI k)), (3, .int (nI i))]) 0 ⟨hw, lv_sub hl [1, 2, 3, 0] rfl⟩ (by omega) (fun i hk_i ih_i H locs ls hI => ?_)
      obtain ⟨hw, hl⟩ := hI
      have hS2 := zRv_sh hJ1 i
      refine lv_iload_n hx hb dX7_pass_44 rfl (lv_at hl 3 rfl) ?_
      refine lv_aload_n hx hb dX7_pass_45 rfl (lv_at hl 0 rfl) ?_
      refine z_geti M hw (zr_t hR 128 7 0 (by decide)) zf_X7_102 dX7_pass_46 ?_
      refine z_topi (y := nI ns) hS2.1.2.2.1 ?_
      refine lv_icmp_ge (tgt := 72) hx hb dX7_pass_49 (by decide) (fun c5 => ?_) (fun c5 => ?_)
      · skip
        have hgei : ns = i := Nat.le_antisymm (z_ge (show nI ns ≤ nI i from c5) (by omega) (by omega)) (by omega)
        subst hgei
        refine lv_iconst (v := 0) hx hb dX7_pass_72 (by decide) ?_
        refine lv_istore_n (lv' := [(3, .int 0), (0, .ref (ad 128)), (1, .int (nI h)), (2, .int (nI k))]) hx hb dX7_pass_73 rfl hl (by decide) rfl (fun ls hl => ?_)
        refine z_loop (nt) (fun (i : Nat) H locs ls => zH base D cA s H locs ad ty ((zRtr ni nc (zRsh (zu J 128 1 (J 128 1 + 1)) ns, K) i).1) ((zRtr ni nc (zRsh (zu J 128 1 (J 128 1 + 1)) ns, K) i).2) P ∧ lv_has ls 4 [(0, .ref (ad 128)), (1, .int (nI h)), (2, .int (nI k)), (3, .int (nI i))]) 0 ⟨hw, lv_sub hl [1, 2, 3, 0] rfl⟩ (by omega) (fun i hk_i ih_i H locs ls hI => ?_)
        obtain ⟨hw, hl⟩ := hI
        have hT2 := zRv_tr (q := (zRsh (zu J 128 1 (J 128 1 + 1)) ns, K)) (zRv_sh hJ1 ns) i
        refine lv_iload_n hx hb dX7_pass_74 rfl (lv_at hl 3 rfl) ?_
        refine lv_aload_n hx hb dX7_pass_75 rfl (lv_at hl 0 rfl) ?_
        refine z_geti M hw (zr_t hR 128 7 0 (by decide)) zf_X7_105 dX7_pass_76 ?_
        refine z_topi (y := nI nt) hT2.1.2.2.2 ?_
        refine lv_icmp_ge (tgt := 93) hx hb dX7_pass_79 (by decide) (fun c6 => ?_) (fun c6 => ?_)
        · skip
          have hgei : nt = i := Nat.le_antisymm (z_ge (show nI nt ≤ nI i from c6) (by omega) (by omega)) (by omega)
          subst hgei
          refine lv_iinc (v := nI (k + 1)) (lv' := [(2, .int (nI (k + 1))), (0, .ref (ad 128)), (1, .int (nI h)), (3, .int (nI nt))]) hx hb dX7_pass_93 hl (k := 2) rfl (nI_succ _).symm (by decide) rfl (fun ls hl => ?_)
          refine lv_goto (tgt := 27) hx hb dX7_pass_96 (by decide) ?_
          exact ih_k hltk _ _ _ ⟨_, _, (by show zRhr ni nc ns nt (zRhrs ni nc ns nt ((zu I 128 0 0), L) k) = _; rw [hq]; rfl), hw, lv_sub hl [1, 2, 0] rfl⟩
        · skip
          have hlti : i < nt := z_lt (show ¬ nI nt ≤ nI i from c6) (by omega)
          refine lv_aload_n hx hb dX7_pass_82 rfl (lv_at hl 0 rfl) ?_
          refine lv_iload_n hx hb dX7_pass_83 rfl (lv_at hl 3 rfl) ?_
          refine z_cv0 (z_runV (As := [.int (nI i)]) (rest := []) M hw (zr_t hR 128 7 0 (by decide)) zc_X7_172 (c_X7_hourOf l base D cA ad ty (zRtr ni nc (zRsh (zu J 128 1 (J 128 1 + 1)) ns, K) i).1 (zRtr ni nc (zRsh (zu J 128 1 (J 128 1 + 1)) ns, K) i).2 P hR ni nc ns nt hbd hT2 i hlti) hw.1 rfl rfl ⟨Nat.le_of_ble_eq_true rfl, Nat.le_of_ble_eq_true rfl⟩ ⟨Nat.le_of_ble_eq_true rfl, Nat.le_of_ble_eq_true rfl⟩ hl.1 (Nat.le_of_ble_eq_true rfl) dX7_pass_84) hw (fun H locs hw => ?_)
          refine lv_iinc (v := nI (i + 1)) (lv' := [(3, .int (nI (i + 1))), (0, .ref (ad 128)), (1, .int (nI h)), (2, .int (nI k))]) hx hb dX7_pass_87 hl (k := 3) rfl (nI_succ _).symm (by decide) rfl (fun ls hl => ?_)
          refine lv_goto (tgt := 74) hx hb dX7_pass_90 (by decide) ?_
          exact ih_i hlti _ _ _ ⟨hw, lv_sub hl [1, 2, 3, 0] rfl⟩
      · skip
        have hlti : i < ns := z_lt (show ¬ nI ns ≤ nI i from c5) (by omega)
        refine lv_aload_n hx hb dX7_pass_52 rfl (lv_at hl 0 rfl) ?_
        refine z_getr M hw (zr_t hR 128 7 0 (by decide)) zf_X7_37 (zr_p hR 15 (by decide)) dX7_pass_53 ?_
        refine lv_iload_n hx hb dX7_pass_56 rfl (lv_at hl 3 rfl) ?_
        refine z_iNald M hw (zr_t hR 143 8 4 (by decide)) rfl ⟨by omega, by omega⟩ dX7_pass_57 ?_
        refine lv_if_eq (tgt := 66) hx hb dX7_pass_58 (by decide) (fun c7 => ?_) (fun c7 => ?_)
        · skip
          refine lv_iinc (v := nI (i + 1)) (lv' := [(3, .int (nI (i + 1))), (0, .ref (ad 128)), (1, .int (nI h)), (2, .int (nI k))]) hx hb dX7_pass_66 hl (k := 3) rfl (nI_succ _).symm (by decide) rfl (fun ls hl => ?_)
          refine lv_goto (tgt := 44) hx hb dX7_pass_69 (by decide) ?_
          exact ih_i hlti _ _ _ ⟨(by rw [show zRsh (zu J 128 1 (J 128 1 + 1)) (i + 1) = zRsh1 (zRsh (zu J 128 1 (J 128 1 + 1)) i) i from rfl, zRsh1, if_pos c7]; exact hw), lv_sub hl [1, 2, 3, 0] rfl⟩
        · skip
          refine lv_aload_n hx hb dX7_pass_61 rfl (lv_at hl 0 rfl) ?_
          refine lv_iload_n hx hb dX7_pass_62 rfl (lv_at hl 3 rfl) ?_
          refine z_cv0 (z_runV (As := [.int (nI i)]) (rest := []) M hw (zr_t hR 128 7 0 (by decide)) zc_X7_169 (c_X7_goOn l base D cA ad ty (zRsh (zu J 128 1 (J 128 1 + 1)) i) K P hR (zRv_sh hJ1 i).2.1.1 (zRv_sh hJ1 i).2.1.2 i (by omega)) hw.1 rfl rfl ⟨Nat.le_of_ble_eq_true rfl, Nat.le_of_ble_eq_true rfl⟩ ⟨Nat.le_of_ble_eq_true rfl, Nat.le_of_ble_eq_true rfl⟩ hl.1 (Nat.le_of_ble_eq_true rfl) dX7_pass_63) hw (fun H locs hw => ?_)
          refine lv_iinc (v := nI (i + 1)) (lv' := [(3, .int (nI (i + 1))), (0, .ref (ad 128)), (1, .int (nI h)), (2, .int (nI k))]) hx hb dX7_pass_66 hl (k := 3) rfl (nI_succ _).symm (by decide) rfl (fun ls hl => ?_)
          refine lv_goto (tgt := 44) hx hb dX7_pass_69 (by decide) ?_
          exact ih_i hlti _ _ _ ⟨(by rw [show zRsh (zu J 128 1 (J 128 1 + 1)) (i + 1) = zRsh1 (zRsh (zu J 128 1 (J 128 1 + 1)) i) i from rfl, zRsh1, if_neg c7]; exact hw), lv_sub hl [1, 2, 3, 0] rfl⟩
