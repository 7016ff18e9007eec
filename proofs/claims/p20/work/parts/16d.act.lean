/-! THE LAW'S ACT (laid by m_act.py): a number read as a call -/
def zodd (v : Int32) : Prop := zlow (v >>> (26 &&& 31)) 14 = 0
theorem zodd_dec (v : Int32) : zodd v ∨ ¬ zodd v := Classical.em _
noncomputable def zaI (v : Int32) : Int32 := @ite _ (zodd v) (Classical.propDecidable _) ((zlow (v >>> (5 &&& 31)) 14) - 2) (zlow (v >>> (5 &&& 31)) 5)
theorem zaI_p {v : Int32} (h : zodd v) : zaI v = (zlow (v >>> (5 &&& 31)) 14) - 2 := if_pos h
theorem zaI_n {v : Int32} (h : ¬ zodd v) : zaI v = zlow (v >>> (5 &&& 31)) 5 := if_neg h
noncomputable def zaO (v : Int32) : Int32 := @ite _ (zodd v) (Classical.propDecidable _) ((zlow (v >>> (8 &&& 31)) 14) - 2) (zlow (v >>> (8 &&& 31)) 5)
theorem zaO_p {v : Int32} (h : zodd v) : zaO v = (zlow (v >>> (8 &&& 31)) 14) - 2 := if_pos h
theorem zaO_n {v : Int32} (h : ¬ zodd v) : zaO v = zlow (v >>> (8 &&& 31)) 5 := if_neg h
noncomputable def zaC (v : Int32) : Int32 := @ite _ (zodd v) (Classical.propDecidable _) ((zlow (v >>> (11 &&& 31)) 20) - 2) (zlow (v >>> (11 &&& 31)) 7)
theorem zaC_p {v : Int32} (h : zodd v) : zaC v = (zlow (v >>> (11 &&& 31)) 20) - 2 := if_pos h
theorem zaC_n {v : Int32} (h : ¬ zodd v) : zaC v = zlow (v >>> (11 &&& 31)) 7 := if_neg h
noncomputable def zaS (v : Int32) : Int32 := @ite _ (zodd v) (Classical.propDecidable _) ((zlow (v >>> (14 &&& 31)) 11) - 1) (zlow (v >>> (14 &&& 31)) 3)
theorem zaS_p {v : Int32} (h : zodd v) : zaS v = (zlow (v >>> (14 &&& 31)) 11) - 1 := if_pos h
theorem zaS_n {v : Int32} (h : ¬ zodd v) : zaS v = zlow (v >>> (14 &&& 31)) 3 := if_neg h
noncomputable def zaH (v : Int32) : Int32 := @ite _ (zodd v) (Classical.propDecidable _) ((zlow (v >>> (17 &&& 31)) 7) - 1) (zlow (v >>> (17 &&& 31)) 2)
theorem zaH_p {v : Int32} (h : zodd v) : zaH v = (zlow (v >>> (17 &&& 31)) 7) - 1 := if_pos h
theorem zaH_n {v : Int32} (h : ¬ zodd v) : zaH v = zlow (v >>> (17 &&& 31)) 2 := if_neg h
noncomputable def zaT (v : Int32) : Int32 := @ite _ (zodd v) (Classical.propDecidable _) ((zlow (v >>> (17 &&& 31)) 16) - 2) (zlow (v >>> (17 &&& 31)) 3)
theorem zaT_p {v : Int32} (h : zodd v) : zaT v = (zlow (v >>> (17 &&& 31)) 16) - 2 := if_pos h
theorem zaT_n {v : Int32} (h : ¬ zodd v) : zaT v = zlow (v >>> (17 &&& 31)) 3 := if_neg h
noncomputable def zaM (v : Int32) : Int32 := @ite _ (zodd v) (Classical.propDecidable _) (v >>> (9 &&& 31)) (zlow (v >>> (9 &&& 31)) 400)
theorem zaM_p {v : Int32} (h : zodd v) : zaM v = v >>> (9 &&& 31) := if_pos h
theorem zaM_n {v : Int32} (h : ¬ zodd v) : zaM v = zlow (v >>> (9 &&& 31)) 400 := if_neg h
noncomputable def zif (v a b : Int32) : Int32 := @ite _ (zodd v) (Classical.propDecidable _) a b
theorem zif_p {v a b : Int32} (h : zodd v) : zif v a b = a := if_pos h
theorem zif_n {v a b : Int32} (h : ¬ zodd v) : zif v a b = b := if_neg h
section ZACT
variable {p : Program} {l : Launch} {e : Env} {s : State} {m : MethodId} {args : Array Value} {below : List Frame} {meth : Method} {c : Code} {H : Heap} {locs : List Loc} {Q : State → Prop} {base : Nat} {D : zDD} {cA : Nat → ClassId} {ad : Nat → Nat} {ty : zTyp} {I : zIt} {L : zLt} {P : zPt} {ls : Array Slot} {v : Int32}
set_option maxHeartbeats 4000000 in
set_option maxRecDepth 100000 in
theorem z_acth_p (hod : zodd v) (M : zM p s m c cL_act RL 10 base D cA) (hw : zH base D cA s H locs ad ty I L P) (hl : lv_has ls 10 [(0, .ref (ad 0)), (1, .int v)])
    (kk : ∀ (H : Heap) (locs : List Loc) (ls : Array Slot), zH base D cA s H locs ad ty I L P → lv_has ls 10 [(9, .int (zaM v)), (8, .int (zaT v)), (7, .int (zaH v)), (6, .int (zaS v)), (5, .int (zaC v)), (4, .int (zaO v)), (3, .int (zaI v)), (2, .int (zif v 1 0)), (0, .ref (ad 0)), (1, .int v)] → W p l e (zRm 10 183 13 84) s m args below meth c H locs 0 0 Q (F0 m 213 ls [.int (zlow v 30)])) : W p l e (zRm 10 183 13 84) s m args below meth c H locs 0 0 Q (F0 m 0 ls []) := by
  obtain ⟨hx, hb, -⟩ := id M
  refine lv_iload_n hx hb dL_act_0 rfl (lv_at hl 1 rfl) ?_
  refine lv_bipush (v := 26) hx hb dL_act_1 (by decide) ?_
  refine lv_ishr hx hb dL_act_3 ?_
  refine lv_bipush (v := 14) hx hb dL_act_4 (by decide) ?_
  refine z_ci0 (z_runS (As := [.int (v >>> (26 &&& 31)), .int 14]) (rest := []) M hw.2 zc_L_76 (c_L_low l base D cA (zW base D cA ad ty I L P) (v >>> (26 &&& 31)) 14 (by decide)) hw.1 rfl rfl ⟨Nat.le_of_ble_eq_true rfl, Nat.le_of_ble_eq_true rfl⟩ ⟨Nat.le_of_ble_eq_true rfl, Nat.le_of_ble_eq_true rfl⟩ hl.1 (Nat.le_of_ble_eq_true rfl) dL_act_6) hw (fun H locs hw => ?_)
  refine lv_if_ne (tgt := 16) hx hb dL_act_9 (by decide) (fun c1 => ?_) (fun c1 => ?_)
  · skip
    exact absurd hod c1
  · skip
    refine lv_iconst (v := 1) hx hb dL_act_12 (by decide) ?_
    refine lv_goto (tgt := 17) hx hb dL_act_13 (by decide) ?_
    refine z_topi (y := zif v 1 0) (zif_p hod).symm ?_
    refine lv_istore_n (lv' := [(2, .int (zif v 1 0)), (0, .ref (ad 0)), (1, .int v)]) hx hb dL_act_17 rfl hl (by decide) rfl (fun ls hl => ?_)
    refine lv_iload_n hx hb dL_act_18 rfl (lv_at hl 0 rfl) ?_
    refine z_topi (y := 1) (zif_p hod) ?_
    refine lv_if_eq (tgt := 35) hx hb dL_act_19 (by decide) (fun c2 => ?_) (fun c2 => ?_)
    · exact absurd c2 (by decide)
    refine lv_iload_n hx hb dL_act_22 rfl (lv_at hl 2 rfl) ?_
    refine lv_iconst (v := 5) hx hb dL_act_23 (by decide) ?_
    refine lv_ishr hx hb dL_act_24 ?_
    refine lv_bipush (v := 14) hx hb dL_act_25 (by decide) ?_
    refine z_ci0 (z_runS (As := [.int (v >>> (5 &&& 31)), .int 14]) (rest := []) M hw.2 zc_L_76 (c_L_low l base D cA (zW base D cA ad ty I L P) (v >>> (5 &&& 31)) 14 (by decide)) hw.1 rfl rfl ⟨Nat.le_of_ble_eq_true rfl, Nat.le_of_ble_eq_true rfl⟩ ⟨Nat.le_of_ble_eq_true rfl, Nat.le_of_ble_eq_true rfl⟩ hl.1 (Nat.le_of_ble_eq_true rfl) dL_act_27) hw (fun H locs hw => ?_)
    refine lv_iconst (v := 2) hx hb dL_act_30 (by decide) ?_
    refine lv_isub hx hb dL_act_31 ?_
    refine lv_goto (tgt := 42) hx hb dL_act_32 (by decide) ?_
    refine lv_istore_n (lv' := [(3, .int ((zlow (v >>> (5 &&& 31)) 14) - 2)), (2, .int (zif v 1 0)), (0, .ref (ad 0)), (1, .int v)]) hx hb dL_act_42 rfl hl (by decide) rfl (fun ls hl => ?_)
    refine lv_iload_n hx hb dL_act_43 rfl (lv_at hl 1 rfl) ?_
    refine z_topi (y := 1) (zif_p hod) ?_
    refine lv_if_eq (tgt := 61) hx hb dL_act_44 (by decide) (fun c3 => ?_) (fun c3 => ?_)
    · exact absurd c3 (by decide)
    refine lv_iload_n hx hb dL_act_47 rfl (lv_at hl 3 rfl) ?_
    refine lv_bipush (v := 8) hx hb dL_act_48 (by decide) ?_
    refine lv_ishr hx hb dL_act_50 ?_
    refine lv_bipush (v := 14) hx hb dL_act_51 (by decide) ?_
    refine z_ci0 (z_runS (As := [.int (v >>> (8 &&& 31)), .int 14]) (rest := []) M hw.2 zc_L_76 (c_L_low l base D cA (zW base D cA ad ty I L P) (v >>> (8 &&& 31)) 14 (by decide)) hw.1 rfl rfl ⟨Nat.le_of_ble_eq_true rfl, Nat.le_of_ble_eq_true rfl⟩ ⟨Nat.le_of_ble_eq_true rfl, Nat.le_of_ble_eq_true rfl⟩ hl.1 (Nat.le_of_ble_eq_true rfl) dL_act_53) hw (fun H locs hw => ?_)
    refine lv_iconst (v := 2) hx hb dL_act_56 (by decide) ?_
    refine lv_isub hx hb dL_act_57 ?_
    refine lv_goto (tgt := 69) hx hb dL_act_58 (by decide) ?_
    refine lv_istore (lv' := [(4, .int ((zlow (v >>> (8 &&& 31)) 14) - 2)), (3, .int ((zlow (v >>> (5 &&& 31)) 14) - 2)), (2, .int (zif v 1 0)), (0, .ref (ad 0)), (1, .int v)]) hx hb dL_act_69 hl (by decide) rfl (fun ls hl => ?_)
    refine lv_iload_n hx hb dL_act_71 rfl (lv_at hl 2 rfl) ?_
    refine z_topi (y := 1) (zif_p hod) ?_
    refine lv_if_eq (tgt := 89) hx hb dL_act_72 (by decide) (fun c4 => ?_) (fun c4 => ?_)
    · exact absurd c4 (by decide)
    refine lv_iload_n hx hb dL_act_75 rfl (lv_at hl 4 rfl) ?_
    refine lv_bipush (v := 11) hx hb dL_act_76 (by decide) ?_
    refine lv_ishr hx hb dL_act_78 ?_
    refine lv_bipush (v := 20) hx hb dL_act_79 (by decide) ?_
    refine z_ci0 (z_runS (As := [.int (v >>> (11 &&& 31)), .int 20]) (rest := []) M hw.2 zc_L_76 (c_L_low l base D cA (zW base D cA ad ty I L P) (v >>> (11 &&& 31)) 20 (by decide)) hw.1 rfl rfl ⟨Nat.le_of_ble_eq_true rfl, Nat.le_of_ble_eq_true rfl⟩ ⟨Nat.le_of_ble_eq_true rfl, Nat.le_of_ble_eq_true rfl⟩ hl.1 (Nat.le_of_ble_eq_true rfl) dL_act_81) hw (fun H locs hw => ?_)
    refine lv_iconst (v := 2) hx hb dL_act_84 (by decide) ?_
    refine lv_isub hx hb dL_act_85 ?_
    refine lv_goto (tgt := 98) hx hb dL_act_86 (by decide) ?_
    refine lv_istore (lv' := [(5, .int ((zlow (v >>> (11 &&& 31)) 20) - 2)), (4, .int ((zlow (v >>> (8 &&& 31)) 14) - 2)), (3, .int ((zlow (v >>> (5 &&& 31)) 14) - 2)), (2, .int (zif v 1 0)), (0, .ref (ad 0)), (1, .int v)]) hx hb dL_act_98 hl (by decide) rfl (fun ls hl => ?_)
    refine lv_iload_n hx hb dL_act_100 rfl (lv_at hl 3 rfl) ?_
    refine z_topi (y := 1) (zif_p hod) ?_
    refine lv_if_eq (tgt := 118) hx hb dL_act_101 (by decide) (fun c5 => ?_) (fun c5 => ?_)
    · exact absurd c5 (by decide)
    refine lv_iload_n hx hb dL_act_104 rfl (lv_at hl 5 rfl) ?_
    refine lv_bipush (v := 14) hx hb dL_act_105 (by decide) ?_
    refine lv_ishr hx hb dL_act_107 ?_
    refine lv_bipush (v := 11) hx hb dL_act_108 (by decide) ?_
    refine z_ci0 (z_runS (As := [.int (v >>> (14 &&& 31)), .int 11]) (rest := []) M hw.2 zc_L_76 (c_L_low l base D cA (zW base D cA ad ty I L P) (v >>> (14 &&& 31)) 11 (by decide)) hw.1 rfl rfl ⟨Nat.le_of_ble_eq_true rfl, Nat.le_of_ble_eq_true rfl⟩ ⟨Nat.le_of_ble_eq_true rfl, Nat.le_of_ble_eq_true rfl⟩ hl.1 (Nat.le_of_ble_eq_true rfl) dL_act_110) hw (fun H locs hw => ?_)
    refine lv_iconst (v := 1) hx hb dL_act_113 (by decide) ?_
    refine lv_isub hx hb dL_act_114 ?_
    refine lv_goto (tgt := 126) hx hb dL_act_115 (by decide) ?_
    refine lv_istore (lv' := [(6, .int ((zlow (v >>> (14 &&& 31)) 11) - 1)), (5, .int ((zlow (v >>> (11 &&& 31)) 20) - 2)), (4, .int ((zlow (v >>> (8 &&& 31)) 14) - 2)), (3, .int ((zlow (v >>> (5 &&& 31)) 14) - 2)), (2, .int (zif v 1 0)), (0, .ref (ad 0)), (1, .int v)]) hx hb dL_act_126 hl (by decide) rfl (fun ls hl => ?_)
    refine lv_iload_n hx hb dL_act_128 rfl (lv_at hl 4 rfl) ?_
    refine z_topi (y := 1) (zif_p hod) ?_
    refine lv_if_eq (tgt := 146) hx hb dL_act_129 (by decide) (fun c6 => ?_) (fun c6 => ?_)
    · exact absurd c6 (by decide)
    refine lv_iload_n hx hb dL_act_132 rfl (lv_at hl 6 rfl) ?_
    refine lv_bipush (v := 17) hx hb dL_act_133 (by decide) ?_
    refine lv_ishr hx hb dL_act_135 ?_
    refine lv_bipush (v := 7) hx hb dL_act_136 (by decide) ?_
    refine z_ci0 (z_runS (As := [.int (v >>> (17 &&& 31)), .int 7]) (rest := []) M hw.2 zc_L_76 (c_L_low l base D cA (zW base D cA ad ty I L P) (v >>> (17 &&& 31)) 7 (by decide)) hw.1 rfl rfl ⟨Nat.le_of_ble_eq_true rfl, Nat.le_of_ble_eq_true rfl⟩ ⟨Nat.le_of_ble_eq_true rfl, Nat.le_of_ble_eq_true rfl⟩ hl.1 (Nat.le_of_ble_eq_true rfl) dL_act_138) hw (fun H locs hw => ?_)
    refine lv_iconst (v := 1) hx hb dL_act_141 (by decide) ?_
    refine lv_isub hx hb dL_act_142 ?_
    refine lv_goto (tgt := 154) hx hb dL_act_143 (by decide) ?_
    refine lv_istore (lv' := [(7, .int ((zlow (v >>> (17 &&& 31)) 7) - 1)), (6, .int ((zlow (v >>> (14 &&& 31)) 11) - 1)), (5, .int ((zlow (v >>> (11 &&& 31)) 20) - 2)), (4, .int ((zlow (v >>> (8 &&& 31)) 14) - 2)), (3, .int ((zlow (v >>> (5 &&& 31)) 14) - 2)), (2, .int (zif v 1 0)), (0, .ref (ad 0)), (1, .int v)]) hx hb dL_act_154 hl (by decide) rfl (fun ls hl => ?_)
    refine lv_iload_n hx hb dL_act_156 rfl (lv_at hl 5 rfl) ?_
    refine z_topi (y := 1) (zif_p hod) ?_
    refine lv_if_eq (tgt := 174) hx hb dL_act_157 (by decide) (fun c7 => ?_) (fun c7 => ?_)
    · exact absurd c7 (by decide)
    refine lv_iload_n hx hb dL_act_160 rfl (lv_at hl 7 rfl) ?_
    refine lv_bipush (v := 17) hx hb dL_act_161 (by decide) ?_
    refine lv_ishr hx hb dL_act_163 ?_
    refine lv_bipush (v := 16) hx hb dL_act_164 (by decide) ?_
    refine z_ci0 (z_runS (As := [.int (v >>> (17 &&& 31)), .int 16]) (rest := []) M hw.2 zc_L_76 (c_L_low l base D cA (zW base D cA ad ty I L P) (v >>> (17 &&& 31)) 16 (by decide)) hw.1 rfl rfl ⟨Nat.le_of_ble_eq_true rfl, Nat.le_of_ble_eq_true rfl⟩ ⟨Nat.le_of_ble_eq_true rfl, Nat.le_of_ble_eq_true rfl⟩ hl.1 (Nat.le_of_ble_eq_true rfl) dL_act_166) hw (fun H locs hw => ?_)
    refine lv_iconst (v := 2) hx hb dL_act_169 (by decide) ?_
    refine lv_isub hx hb dL_act_170 ?_
    refine lv_goto (tgt := 182) hx hb dL_act_171 (by decide) ?_
    refine lv_istore (lv' := [(8, .int ((zlow (v >>> (17 &&& 31)) 16) - 2)), (7, .int ((zlow (v >>> (17 &&& 31)) 7) - 1)), (6, .int ((zlow (v >>> (14 &&& 31)) 11) - 1)), (5, .int ((zlow (v >>> (11 &&& 31)) 20) - 2)), (4, .int ((zlow (v >>> (8 &&& 31)) 14) - 2)), (3, .int ((zlow (v >>> (5 &&& 31)) 14) - 2)), (2, .int (zif v 1 0)), (0, .ref (ad 0)), (1, .int v)]) hx hb dL_act_182 hl (by decide) rfl (fun ls hl => ?_)
    refine lv_iload_n hx hb dL_act_184 rfl (lv_at hl 6 rfl) ?_
    refine z_topi (y := 1) (zif_p hod) ?_
    refine lv_if_eq (tgt := 195) hx hb dL_act_185 (by decide) (fun c8 => ?_) (fun c8 => ?_)
    · exact absurd c8 (by decide)
    refine lv_iload_n hx hb dL_act_188 rfl (lv_at hl 8 rfl) ?_
    refine lv_bipush (v := 9) hx hb dL_act_189 (by decide) ?_
    refine lv_ishr hx hb dL_act_191 ?_
    refine lv_goto (tgt := 205) hx hb dL_act_192 (by decide) ?_
    refine lv_istore (lv' := [(9, .int (v >>> (9 &&& 31))), (8, .int ((zlow (v >>> (17 &&& 31)) 16) - 2)), (7, .int ((zlow (v >>> (17 &&& 31)) 7) - 1)), (6, .int ((zlow (v >>> (14 &&& 31)) 11) - 1)), (5, .int ((zlow (v >>> (11 &&& 31)) 20) - 2)), (4, .int ((zlow (v >>> (8 &&& 31)) 14) - 2)), (3, .int ((zlow (v >>> (5 &&& 31)) 14) - 2)), (2, .int (zif v 1 0)), (0, .ref (ad 0)), (1, .int v)]) hx hb dL_act_205 hl (by decide) rfl (fun ls hl => ?_)
    refine lv_iload_n hx hb dL_act_207 rfl (lv_at hl 9 rfl) ?_
    refine lv_bipush (v := 30) hx hb dL_act_208 (by decide) ?_
    refine z_ci0 (z_runS (As := [.int v, .int 30]) (rest := []) M hw.2 zc_L_76 (c_L_low l base D cA (zW base D cA ad ty I L P) v 30 (by decide)) hw.1 rfl rfl ⟨Nat.le_of_ble_eq_true rfl, Nat.le_of_ble_eq_true rfl⟩ ⟨Nat.le_of_ble_eq_true rfl, Nat.le_of_ble_eq_true rfl⟩ hl.1 (Nat.le_of_ble_eq_true rfl) dL_act_210) hw (fun H locs hw => ?_)
    exact kk _ _ _ hw (by rw [zaI_p hod, zaO_p hod, zaC_p hod, zaS_p hod, zaH_p hod, zaT_p hod, zaM_p hod]; exact hl)
set_option maxHeartbeats 4000000 in
set_option maxRecDepth 100000 in
theorem z_acth_n (hod : ¬ zodd v) (M : zM p s m c cL_act RL 10 base D cA) (hw : zH base D cA s H locs ad ty I L P) (hl : lv_has ls 10 [(0, .ref (ad 0)), (1, .int v)])
    (kk : ∀ (H : Heap) (locs : List Loc) (ls : Array Slot), zH base D cA s H locs ad ty I L P → lv_has ls 10 [(9, .int (zaM v)), (8, .int (zaT v)), (7, .int (zaH v)), (6, .int (zaS v)), (5, .int (zaC v)), (4, .int (zaO v)), (3, .int (zaI v)), (2, .int (zif v 1 0)), (0, .ref (ad 0)), (1, .int v)] → W p l e (zRm 10 183 13 84) s m args below meth c H locs 0 0 Q (F0 m 213 ls [.int (zlow v 30)])) : W p l e (zRm 10 183 13 84) s m args below meth c H locs 0 0 Q (F0 m 0 ls []) := by
  obtain ⟨hx, hb, -⟩ := id M
  refine lv_iload_n hx hb dL_act_0 rfl (lv_at hl 1 rfl) ?_
  refine lv_bipush (v := 26) hx hb dL_act_1 (by decide) ?_
  refine lv_ishr hx hb dL_act_3 ?_
  refine lv_bipush (v := 14) hx hb dL_act_4 (by decide) ?_
  refine z_ci0 (z_runS (As := [.int (v >>> (26 &&& 31)), .int 14]) (rest := []) M hw.2 zc_L_76 (c_L_low l base D cA (zW base D cA ad ty I L P) (v >>> (26 &&& 31)) 14 (by decide)) hw.1 rfl rfl ⟨Nat.le_of_ble_eq_true rfl, Nat.le_of_ble_eq_true rfl⟩ ⟨Nat.le_of_ble_eq_true rfl, Nat.le_of_ble_eq_true rfl⟩ hl.1 (Nat.le_of_ble_eq_true rfl) dL_act_6) hw (fun H locs hw => ?_)
  refine lv_if_ne (tgt := 16) hx hb dL_act_9 (by decide) (fun c1 => ?_) (fun c1 => ?_)
  · skip
    refine lv_iconst (v := 0) hx hb dL_act_16 (by decide) ?_
    refine z_topi (y := zif v 1 0) (zif_n hod).symm ?_
    refine lv_istore_n (lv' := [(2, .int (zif v 1 0)), (0, .ref (ad 0)), (1, .int v)]) hx hb dL_act_17 rfl hl (by decide) rfl (fun ls hl => ?_)
    refine lv_iload_n hx hb dL_act_18 rfl (lv_at hl 0 rfl) ?_
    refine z_topi (y := 0) (zif_n hod) ?_
    refine lv_if_eq (tgt := 35) hx hb dL_act_19 (by decide) (fun c2 => ?_) (fun c2 => ?_)
    rotate_left
    · exact absurd c2 (by decide)
    refine lv_iload_n hx hb dL_act_35 rfl (lv_at hl 2 rfl) ?_
    refine lv_iconst (v := 5) hx hb dL_act_36 (by decide) ?_
    refine lv_ishr hx hb dL_act_37 ?_
    refine lv_iconst (v := 5) hx hb dL_act_38 (by decide) ?_
    refine z_ci0 (z_runS (As := [.int (v >>> (5 &&& 31)), .int 5]) (rest := []) M hw.2 zc_L_76 (c_L_low l base D cA (zW base D cA ad ty I L P) (v >>> (5 &&& 31)) 5 (by decide)) hw.1 rfl rfl ⟨Nat.le_of_ble_eq_true rfl, Nat.le_of_ble_eq_true rfl⟩ ⟨Nat.le_of_ble_eq_true rfl, Nat.le_of_ble_eq_true rfl⟩ hl.1 (Nat.le_of_ble_eq_true rfl) dL_act_39) hw (fun H locs hw => ?_)
    refine lv_istore_n (lv' := [(3, .int (zlow (v >>> (5 &&& 31)) 5)), (2, .int (zif v 1 0)), (0, .ref (ad 0)), (1, .int v)]) hx hb dL_act_42 rfl hl (by decide) rfl (fun ls hl => ?_)
    refine lv_iload_n hx hb dL_act_43 rfl (lv_at hl 1 rfl) ?_
    refine z_topi (y := 0) (zif_n hod) ?_
    refine lv_if_eq (tgt := 61) hx hb dL_act_44 (by decide) (fun c3 => ?_) (fun c3 => ?_)
    rotate_left
    · exact absurd c3 (by decide)
    refine lv_iload_n hx hb dL_act_61 rfl (lv_at hl 3 rfl) ?_
    refine lv_bipush (v := 8) hx hb dL_act_62 (by decide) ?_
    refine lv_ishr hx hb dL_act_64 ?_
    refine lv_iconst (v := 5) hx hb dL_act_65 (by decide) ?_
    refine z_ci0 (z_runS (As := [.int (v >>> (8 &&& 31)), .int 5]) (rest := []) M hw.2 zc_L_76 (c_L_low l base D cA (zW base D cA ad ty I L P) (v >>> (8 &&& 31)) 5 (by decide)) hw.1 rfl rfl ⟨Nat.le_of_ble_eq_true rfl, Nat.le_of_ble_eq_true rfl⟩ ⟨Nat.le_of_ble_eq_true rfl, Nat.le_of_ble_eq_true rfl⟩ hl.1 (Nat.le_of_ble_eq_true rfl) dL_act_66) hw (fun H locs hw => ?_)
    refine lv_istore (lv' := [(4, .int (zlow (v >>> (8 &&& 31)) 5)), (3, .int (zlow (v >>> (5 &&& 31)) 5)), (2, .int (zif v 1 0)), (0, .ref (ad 0)), (1, .int v)]) hx hb dL_act_69 hl (by decide) rfl (fun ls hl => ?_)
    refine lv_iload_n hx hb dL_act_71 rfl (lv_at hl 2 rfl) ?_
    refine z_topi (y := 0) (zif_n hod) ?_
    refine lv_if_eq (tgt := 89) hx hb dL_act_72 (by decide) (fun c4 => ?_) (fun c4 => ?_)
    rotate_left
    · exact absurd c4 (by decide)
    refine lv_iload_n hx hb dL_act_89 rfl (lv_at hl 4 rfl) ?_
    refine lv_bipush (v := 11) hx hb dL_act_90 (by decide) ?_
    refine lv_ishr hx hb dL_act_92 ?_
    refine lv_bipush (v := 7) hx hb dL_act_93 (by decide) ?_
    refine z_ci0 (z_runS (As := [.int (v >>> (11 &&& 31)), .int 7]) (rest := []) M hw.2 zc_L_76 (c_L_low l base D cA (zW base D cA ad ty I L P) (v >>> (11 &&& 31)) 7 (by decide)) hw.1 rfl rfl ⟨Nat.le_of_ble_eq_true rfl, Nat.le_of_ble_eq_true rfl⟩ ⟨Nat.le_of_ble_eq_true rfl, Nat.le_of_ble_eq_true rfl⟩ hl.1 (Nat.le_of_ble_eq_true rfl) dL_act_95) hw (fun H locs hw => ?_)
    refine lv_istore (lv' := [(5, .int (zlow (v >>> (11 &&& 31)) 7)), (4, .int (zlow (v >>> (8 &&& 31)) 5)), (3, .int (zlow (v >>> (5 &&& 31)) 5)), (2, .int (zif v 1 0)), (0, .ref (ad 0)), (1, .int v)]) hx hb dL_act_98 hl (by decide) rfl (fun ls hl => ?_)
    refine lv_iload_n hx hb dL_act_100 rfl (lv_at hl 3 rfl) ?_
    refine z_topi (y := 0) (zif_n hod) ?_
    refine lv_if_eq (tgt := 118) hx hb dL_act_101 (by decide) (fun c5 => ?_) (fun c5 => ?_)
    rotate_left
    · exact absurd c5 (by decide)
    refine lv_iload_n hx hb dL_act_118 rfl (lv_at hl 5 rfl) ?_
    refine lv_bipush (v := 14) hx hb dL_act_119 (by decide) ?_
    refine lv_ishr hx hb dL_act_121 ?_
    refine lv_iconst (v := 3) hx hb dL_act_122 (by decide) ?_
    refine z_ci0 (z_runS (As := [.int (v >>> (14 &&& 31)), .int 3]) (rest := []) M hw.2 zc_L_76 (c_L_low l base D cA (zW base D cA ad ty I L P) (v >>> (14 &&& 31)) 3 (by decide)) hw.1 rfl rfl ⟨Nat.le_of_ble_eq_true rfl, Nat.le_of_ble_eq_true rfl⟩ ⟨Nat.le_of_ble_eq_true rfl, Nat.le_of_ble_eq_true rfl⟩ hl.1 (Nat.le_of_ble_eq_true rfl) dL_act_123) hw (fun H locs hw => ?_)
    refine lv_istore (lv' := [(6, .int (zlow (v >>> (14 &&& 31)) 3)), (5, .int (zlow (v >>> (11 &&& 31)) 7)), (4, .int (zlow (v >>> (8 &&& 31)) 5)), (3, .int (zlow (v >>> (5 &&& 31)) 5)), (2, .int (zif v 1 0)), (0, .ref (ad 0)), (1, .int v)]) hx hb dL_act_126 hl (by decide) rfl (fun ls hl => ?_)
    refine lv_iload_n hx hb dL_act_128 rfl (lv_at hl 4 rfl) ?_
    refine z_topi (y := 0) (zif_n hod) ?_
    refine lv_if_eq (tgt := 146) hx hb dL_act_129 (by decide) (fun c6 => ?_) (fun c6 => ?_)
    rotate_left
    · exact absurd c6 (by decide)
    refine lv_iload_n hx hb dL_act_146 rfl (lv_at hl 6 rfl) ?_
    refine lv_bipush (v := 17) hx hb dL_act_147 (by decide) ?_
    refine lv_ishr hx hb dL_act_149 ?_
    refine lv_iconst (v := 2) hx hb dL_act_150 (by decide) ?_
    refine z_ci0 (z_runS (As := [.int (v >>> (17 &&& 31)), .int 2]) (rest := []) M hw.2 zc_L_76 (c_L_low l base D cA (zW base D cA ad ty I L P) (v >>> (17 &&& 31)) 2 (by decide)) hw.1 rfl rfl ⟨Nat.le_of_ble_eq_true rfl, Nat.le_of_ble_eq_true rfl⟩ ⟨Nat.le_of_ble_eq_true rfl, Nat.le_of_ble_eq_true rfl⟩ hl.1 (Nat.le_of_ble_eq_true rfl) dL_act_151) hw (fun H locs hw => ?_)
    refine lv_istore (lv' := [(7, .int (zlow (v >>> (17 &&& 31)) 2)), (6, .int (zlow (v >>> (14 &&& 31)) 3)), (5, .int (zlow (v >>> (11 &&& 31)) 7)), (4, .int (zlow (v >>> (8 &&& 31)) 5)), (3, .int (zlow (v >>> (5 &&& 31)) 5)), (2, .int (zif v 1 0)), (0, .ref (ad 0)), (1, .int v)]) hx hb dL_act_154 hl (by decide) rfl (fun ls hl => ?_)
    refine lv_iload_n hx hb dL_act_156 rfl (lv_at hl 5 rfl) ?_
    refine z_topi (y := 0) (zif_n hod) ?_
    refine lv_if_eq (tgt := 174) hx hb dL_act_157 (by decide) (fun c7 => ?_) (fun c7 => ?_)
    rotate_left
    · exact absurd c7 (by decide)
    refine lv_iload_n hx hb dL_act_174 rfl (lv_at hl 7 rfl) ?_
    refine lv_bipush (v := 17) hx hb dL_act_175 (by decide) ?_
    refine lv_ishr hx hb dL_act_177 ?_
    refine lv_iconst (v := 3) hx hb dL_act_178 (by decide) ?_
    refine z_ci0 (z_runS (As := [.int (v >>> (17 &&& 31)), .int 3]) (rest := []) M hw.2 zc_L_76 (c_L_low l base D cA (zW base D cA ad ty I L P) (v >>> (17 &&& 31)) 3 (by decide)) hw.1 rfl rfl ⟨Nat.le_of_ble_eq_true rfl, Nat.le_of_ble_eq_true rfl⟩ ⟨Nat.le_of_ble_eq_true rfl, Nat.le_of_ble_eq_true rfl⟩ hl.1 (Nat.le_of_ble_eq_true rfl) dL_act_179) hw (fun H locs hw => ?_)
    refine lv_istore (lv' := [(8, .int (zlow (v >>> (17 &&& 31)) 3)), (7, .int (zlow (v >>> (17 &&& 31)) 2)), (6, .int (zlow (v >>> (14 &&& 31)) 3)), (5, .int (zlow (v >>> (11 &&& 31)) 7)), (4, .int (zlow (v >>> (8 &&& 31)) 5)), (3, .int (zlow (v >>> (5 &&& 31)) 5)), (2, .int (zif v 1 0)), (0, .ref (ad 0)), (1, .int v)]) hx hb dL_act_182 hl (by decide) rfl (fun ls hl => ?_)
    refine lv_iload_n hx hb dL_act_184 rfl (lv_at hl 6 rfl) ?_
    refine z_topi (y := 0) (zif_n hod) ?_
    refine lv_if_eq (tgt := 195) hx hb dL_act_185 (by decide) (fun c8 => ?_) (fun c8 => ?_)
    rotate_left
    · exact absurd c8 (by decide)
    refine lv_iload_n hx hb dL_act_195 rfl (lv_at hl 8 rfl) ?_
    refine lv_bipush (v := 9) hx hb dL_act_196 (by decide) ?_
    refine lv_ishr hx hb dL_act_198 ?_
    refine lv_sipush (v := 400) hx hb dL_act_199 (by decide) ?_
    refine z_ci0 (z_runS (As := [.int (v >>> (9 &&& 31)), .int 400]) (rest := []) M hw.2 zc_L_76 (c_L_low l base D cA (zW base D cA ad ty I L P) (v >>> (9 &&& 31)) 400 (by decide)) hw.1 rfl rfl ⟨Nat.le_of_ble_eq_true rfl, Nat.le_of_ble_eq_true rfl⟩ ⟨Nat.le_of_ble_eq_true rfl, Nat.le_of_ble_eq_true rfl⟩ hl.1 (Nat.le_of_ble_eq_true rfl) dL_act_202) hw (fun H locs hw => ?_)
    refine lv_istore (lv' := [(9, .int (zlow (v >>> (9 &&& 31)) 400)), (8, .int (zlow (v >>> (17 &&& 31)) 3)), (7, .int (zlow (v >>> (17 &&& 31)) 2)), (6, .int (zlow (v >>> (14 &&& 31)) 3)), (5, .int (zlow (v >>> (11 &&& 31)) 7)), (4, .int (zlow (v >>> (8 &&& 31)) 5)), (3, .int (zlow (v >>> (5 &&& 31)) 5)), (2, .int (zif v 1 0)), (0, .ref (ad 0)), (1, .int v)]) hx hb dL_act_205 hl (by decide) rfl (fun ls hl => ?_)
    refine lv_iload_n hx hb dL_act_207 rfl (lv_at hl 9 rfl) ?_
    refine lv_bipush (v := 30) hx hb dL_act_208 (by decide) ?_
    refine z_ci0 (z_runS (As := [.int v, .int 30]) (rest := []) M hw.2 zc_L_76 (c_L_low l base D cA (zW base D cA ad ty I L P) v 30 (by decide)) hw.1 rfl rfl ⟨Nat.le_of_ble_eq_true rfl, Nat.le_of_ble_eq_true rfl⟩ ⟨Nat.le_of_ble_eq_true rfl, Nat.le_of_ble_eq_true rfl⟩ hl.1 (Nat.le_of_ble_eq_true rfl) dL_act_210) hw (fun H locs hw => ?_)
    exact kk _ _ _ hw (by rw [zaI_n hod, zaO_n hod, zaC_n hod, zaS_n hod, zaH_n hod, zaT_n hod, zaM_n hod]; exact hl)
  · skip
    exact absurd c1 hod
end ZACT
set_option maxHeartbeats 4000000 in
set_option maxRecDepth 100000 in
theorem ea_island {n : Nat} {ty : zTyp} {I : zIt} {L : zLt} {P : zPt} (h : zLI n ty I L P) (hn : n ≤ 1900) (v : Int32) (hv : zlow v 30 = 0 ∨ zlow v 30 = 1 ∨ zlow v 30 = 2) : zEf (n + 1) ty I L P (fun l base D cA ad r W1 => zNl l base D cA yL_act cL_act 10 10 183 13 84 [.ref (ad 0), .int v] (zW base D cA ad ty I L P) r W1) := by
  obtain ⟨r, ty2, I2, L2, P2, h1, h2, h3⟩ := e_island h (zif v (zaM v) (zlow (v >>> (9 &&& 31)) 100)) (zlow (v >>> (16 &&& 31)) 100)
  refine ⟨r, ty2, I2, L2, P2, zLI_mono (Nat.le_succ n) h1, h2, fun l base D cA ad hl0 => ?_⟩
  have hM := h3 l base D cA ad hl0
  refine z_nstart (by decide +kernel) (Nat.le_of_ble_eq_true rfl) fun p e s m below meth c ls M hP hS hl hr hlocks hN => ?_
  have M : zM p s m c cL_act RL 10 base D cA := M
  obtain ⟨hx, hb, -⟩ := id M
  have hl : lv_has ls 10 [(0, .ref (ad 0)), (1, .int v)] := hl
  have hw : zH base D cA s s.heap [] ad ty I L P := ⟨hP, hS⟩
  have body : ∀ (H : Heap) (locs : List Loc) (ls : Array Slot), zH base D cA s H locs ad ty I L P → lv_has ls 10 [(9, .int (zaM v)), (8, .int (zaT v)), (7, .int (zaH v)), (6, .int (zaS v)), (5, .int (zaC v)), (4, .int (zaO v)), (3, .int (zaI v)), (2, .int (zif v 1 0)), (0, .ref (ad 0)), (1, .int v)] → W p l e (zRm 10 183 13 84) s m #[Value.ref (ad 0), Value.int v] below meth c H locs 0 0 (MQ below (zQl base r (fun H => ∃ ad2, (∀ κ t, ty κ = some t → ad2 κ = ad κ) ∧ zW base D cA ad2 ty2 I2 L2 P2 H)) #[Value.ref (ad 0), Value.int v] s 13 84 (fun q => base ≤ q)) (F0 m 344 ls []) := by
    intro H locs ls hw hl
    rcases zodd_dec v with hod | hod
    · skip
      rw [zif_p hod] at hM
      refine lv_aload_n hx hb dL_act_344 rfl (lv_at hl 8 rfl) ?_
      refine lv_iload_n hx hb dL_act_345 rfl (lv_at hl 7 rfl) ?_
      refine z_topi (y := 1) (zif_p hod) ?_
      refine lv_if_eq (tgt := 354) hx hb dL_act_346 (by decide) (fun c1 => ?_) (fun c1 => ?_)
      · exact absurd c1 (by decide)
      refine lv_iload hx hb dL_act_349 (lv_at hl 0 rfl) ?_
      refine lv_goto (tgt := 363) hx hb dL_act_351 (by decide) ?_
      refine lv_iload_n hx hb dL_act_363 rfl (lv_at hl 9 rfl) ?_
      refine lv_bipush (v := 16) hx hb dL_act_364 (by decide) ?_
      refine lv_ishr hx hb dL_act_366 ?_
      refine lv_bipush (v := 100) hx hb dL_act_367 (by decide) ?_
      refine z_ci0 (z_runS (As := [.int (v >>> (16 &&& 31)), .int 100]) (rest := [.int (zaM v), .ref (ad 0)]) M hw.2 zc_L_76 (c_L_low l base D cA (zW base D cA ad ty I L P) (v >>> (16 &&& 31)) 100 (by decide)) hw.1 rfl rfl ⟨Nat.le_of_ble_eq_true rfl, Nat.le_of_ble_eq_true rfl⟩ ⟨Nat.le_of_ble_eq_true rfl, Nat.le_of_ble_eq_true rfl⟩ hl.1 (Nat.le_of_ble_eq_true rfl) dL_act_369) hw (fun H locs hw => ?_)
      refine z_cl (z_runH (As := [.ref (ad 0), .int (zaM v), .int (zlow (v >>> (16 &&& 31)) 100)]) (rest := []) M hN hw.2 zh_island hM hw.1 rfl rfl ⟨Nat.le_of_ble_eq_true rfl, Nat.le_of_ble_eq_true rfl⟩ ⟨Nat.le_of_ble_eq_true rfl, Nat.le_of_ble_eq_true rfl⟩ hl.1 (Nat.le_of_ble_eq_true rfl) dL_act_372) hw.2 (fun H locs hw1 hS => ?_)
      exact z_lret hx hb hr rfl hS hw1 (Nat.le_of_ble_eq_true rfl) (Nat.le_of_ble_eq_true rfl) dL_act_375 hlocks
    · skip
      rw [zif_n hod] at hM
      refine lv_aload_n hx hb dL_act_344 rfl (lv_at hl 8 rfl) ?_
      refine lv_iload_n hx hb dL_act_345 rfl (lv_at hl 7 rfl) ?_
      refine z_topi (y := 0) (zif_n hod) ?_
      refine lv_if_eq (tgt := 354) hx hb dL_act_346 (by decide) (fun c1 => ?_) (fun c1 => ?_)
      rotate_left
      · exact absurd c1 (by decide)
      refine lv_iload_n hx hb dL_act_354 rfl (lv_at hl 9 rfl) ?_
      refine lv_bipush (v := 9) hx hb dL_act_355 (by decide) ?_
      refine lv_ishr hx hb dL_act_357 ?_
      refine lv_bipush (v := 100) hx hb dL_act_358 (by decide) ?_
      refine z_ci0 (z_runS (As := [.int (v >>> (9 &&& 31)), .int 100]) (rest := [.ref (ad 0)]) M hw.2 zc_L_76 (c_L_low l base D cA (zW base D cA ad ty I L P) (v >>> (9 &&& 31)) 100 (by decide)) hw.1 rfl rfl ⟨Nat.le_of_ble_eq_true rfl, Nat.le_of_ble_eq_true rfl⟩ ⟨Nat.le_of_ble_eq_true rfl, Nat.le_of_ble_eq_true rfl⟩ hl.1 (Nat.le_of_ble_eq_true rfl) dL_act_360) hw (fun H locs hw => ?_)
      refine lv_iload_n hx hb dL_act_363 rfl (lv_at hl 9 rfl) ?_
      refine lv_bipush (v := 16) hx hb dL_act_364 (by decide) ?_
      refine lv_ishr hx hb dL_act_366 ?_
      refine lv_bipush (v := 100) hx hb dL_act_367 (by decide) ?_
      refine z_ci0 (z_runS (As := [.int (v >>> (16 &&& 31)), .int 100]) (rest := [.int (zlow (v >>> (9 &&& 31)) 100), .ref (ad 0)]) M hw.2 zc_L_76 (c_L_low l base D cA (zW base D cA ad ty I L P) (v >>> (16 &&& 31)) 100 (by decide)) hw.1 rfl rfl ⟨Nat.le_of_ble_eq_true rfl, Nat.le_of_ble_eq_true rfl⟩ ⟨Nat.le_of_ble_eq_true rfl, Nat.le_of_ble_eq_true rfl⟩ hl.1 (Nat.le_of_ble_eq_true rfl) dL_act_369) hw (fun H locs hw => ?_)
      refine z_cl (z_runH (As := [.ref (ad 0), .int (zlow (v >>> (9 &&& 31)) 100), .int (zlow (v >>> (16 &&& 31)) 100)]) (rest := []) M hN hw.2 zh_island hM hw.1 rfl rfl ⟨Nat.le_of_ble_eq_true rfl, Nat.le_of_ble_eq_true rfl⟩ ⟨Nat.le_of_ble_eq_true rfl, Nat.le_of_ble_eq_true rfl⟩ hl.1 (Nat.le_of_ble_eq_true rfl) dL_act_372) hw.2 (fun H locs hw1 hS => ?_)
      exact z_lret hx hb hr rfl hS hw1 (Nat.le_of_ble_eq_true rfl) (Nat.le_of_ble_eq_true rfl) dL_act_375 hlocks
  have sw : ∀ (H : Heap) (locs : List Loc) (ls : Array Slot), zH base D cA s H locs ad ty I L P → lv_has ls 10 [(9, .int (zaM v)), (8, .int (zaT v)), (7, .int (zaH v)), (6, .int (zaS v)), (5, .int (zaC v)), (4, .int (zaO v)), (3, .int (zaI v)), (2, .int (zif v 1 0)), (0, .ref (ad 0)), (1, .int v)] → W p l e (zRm 10 183 13 84) s m #[Value.ref (ad 0), Value.int v] below meth c H locs 0 0 (MQ below (zQl base r (fun H => ∃ ad2, (∀ κ t, ty κ = some t → ad2 κ = ad κ) ∧ zW base D cA ad2 ty2 I2 L2 P2 H)) #[Value.ref (ad 0), Value.int v] s 13 84 (fun q => base ≤ q)) (F0 m 213 ls [.int (zlow v 30)]) := by
    intro H locs ls hw hl
    rcases hv with q | q | q
    · refine z_topi (y := 0) q ?_
      refine lv_tableIn (off := 131) (tgt := 344) hx hb dL_act_213 (by decide) (by decide) (by decide) (by decide) ?_
      exact body H locs ls hw hl
    · refine z_topi (y := 1) q ?_
      refine lv_tableIn (off := 131) (tgt := 344) hx hb dL_act_213 (by decide) (by decide) (by decide) (by decide) ?_
      exact body H locs ls hw hl
    · refine z_topi (y := 2) q ?_
      refine lv_tableIn (off := 131) (tgt := 344) hx hb dL_act_213 (by decide) (by decide) (by decide) (by decide) ?_
      exact body H locs ls hw hl
  rcases zodd_dec v with hod | hod
  · exact z_acth_p hod M hw hl sw
  · exact z_acth_n hod M hw hl sw
set_option maxHeartbeats 4000000 in
set_option maxRecDepth 100000 in
theorem ea_cable {n : Nat} {ty : zTyp} {I : zIt} {L : zLt} {P : zPt} (h : zLI n ty I L P) (hn : n ≤ 1900) (v : Int32) (hv : zlow v 30 = 3 ∨ zlow v 30 = 4 ∨ zlow v 30 = 5 ∨ zlow v 30 = 6 ∨ zlow v 30 = 7) : zEf (n + 1) ty I L P (fun l base D cA ad r W1 => zNl l base D cA yL_act cL_act 10 10 183 13 84 [.ref (ad 0), .int v] (zW base D cA ad ty I L P) r W1) := by
  obtain ⟨r, ty2, I2, L2, P2, h1, h2, h3⟩ := e_cable h (zaI v) (zaO v) (zif v (zaS v) ((1 : Int32) + (zlow (v >>> (14 &&& 31)) 8))) (zif v (zaM v) ((1 : Int32) + (zlow (v >>> (9 &&& 31)) 300))) (zif v (v >>> (3 &&& 31)) (zlow (v >>> (3 &&& 31)) 50))
  refine ⟨r, ty2, I2, L2, P2, zLI_mono (Nat.le_succ n) h1, h2, fun l base D cA ad hl0 => ?_⟩
  have hM := h3 l base D cA ad hl0
  refine z_nstart (by decide +kernel) (Nat.le_of_ble_eq_true rfl) fun p e s m below meth c ls M hP hS hl hr hlocks hN => ?_
  have M : zM p s m c cL_act RL 10 base D cA := M
  obtain ⟨hx, hb, -⟩ := id M
  have hl : lv_has ls 10 [(0, .ref (ad 0)), (1, .int v)] := hl
  have hw : zH base D cA s s.heap [] ad ty I L P := ⟨hP, hS⟩
  have body : ∀ (H : Heap) (locs : List Loc) (ls : Array Slot), zH base D cA s H locs ad ty I L P → lv_has ls 10 [(9, .int (zaM v)), (8, .int (zaT v)), (7, .int (zaH v)), (6, .int (zaS v)), (5, .int (zaC v)), (4, .int (zaO v)), (3, .int (zaI v)), (2, .int (zif v 1 0)), (0, .ref (ad 0)), (1, .int v)] → W p l e (zRm 10 183 13 84) s m #[Value.ref (ad 0), Value.int v] below meth c H locs 0 0 (MQ below (zQl base r (fun H => ∃ ad2, (∀ κ t, ty κ = some t → ad2 κ = ad κ) ∧ zW base D cA ad2 ty2 I2 L2 P2 H)) #[Value.ref (ad 0), Value.int v] s 13 84 (fun q => base ≤ q)) (F0 m 376 ls []) := by
    intro H locs ls hw hl
    rcases zodd_dec v with hod | hod
    · skip
      rw [zif_p hod, zif_p hod, zif_p hod] at hM
      refine lv_aload_n hx hb dL_act_376 rfl (lv_at hl 8 rfl) ?_
      refine lv_iload_n hx hb dL_act_377 rfl (lv_at hl 6 rfl) ?_
      refine lv_iload hx hb dL_act_378 (lv_at hl 5 rfl) ?_
      refine lv_iload_n hx hb dL_act_380 rfl (lv_at hl 7 rfl) ?_
      refine z_topi (y := 1) (zif_p hod) ?_
      refine lv_if_eq (tgt := 389) hx hb dL_act_381 (by decide) (fun c1 => ?_) (fun c1 => ?_)
      · exact absurd c1 (by decide)
      refine lv_iload hx hb dL_act_384 (lv_at hl 3 rfl) ?_
      refine lv_goto (tgt := 400) hx hb dL_act_386 (by decide) ?_
      refine lv_iload_n hx hb dL_act_400 rfl (lv_at hl 7 rfl) ?_
      refine z_topi (y := 1) (zif_p hod) ?_
      refine lv_if_eq (tgt := 409) hx hb dL_act_401 (by decide) (fun c2 => ?_) (fun c2 => ?_)
      · exact absurd c2 (by decide)
      refine lv_iload hx hb dL_act_404 (lv_at hl 0 rfl) ?_
      refine lv_goto (tgt := 421) hx hb dL_act_406 (by decide) ?_
      refine lv_iload_n hx hb dL_act_421 rfl (lv_at hl 7 rfl) ?_
      refine z_topi (y := 1) (zif_p hod) ?_
      refine lv_if_eq (tgt := 431) hx hb dL_act_422 (by decide) (fun c3 => ?_) (fun c3 => ?_)
      · exact absurd c3 (by decide)
      refine lv_iload_n hx hb dL_act_425 rfl (lv_at hl 9 rfl) ?_
      refine lv_iconst (v := 3) hx hb dL_act_426 (by decide) ?_
      refine lv_ishr hx hb dL_act_427 ?_
      refine lv_goto (tgt := 439) hx hb dL_act_428 (by decide) ?_
      refine z_cl (z_runH (As := [.ref (ad 0), .int (zaI v), .int (zaO v), .int (zaS v), .int (zaM v), .int (v >>> (3 &&& 31))]) (rest := []) M hN hw.2 zh_cable hM hw.1 rfl rfl ⟨Nat.le_of_ble_eq_true rfl, Nat.le_of_ble_eq_true rfl⟩ ⟨Nat.le_of_ble_eq_true rfl, Nat.le_of_ble_eq_true rfl⟩ hl.1 (Nat.le_of_ble_eq_true rfl) dL_act_439) hw.2 (fun H locs hw1 hS => ?_)
      exact z_lret hx hb hr rfl hS hw1 (Nat.le_of_ble_eq_true rfl) (Nat.le_of_ble_eq_true rfl) dL_act_442 hlocks
    · skip
      rw [zif_n hod, zif_n hod, zif_n hod] at hM
      refine lv_aload_n hx hb dL_act_376 rfl (lv_at hl 8 rfl) ?_
      refine lv_iload_n hx hb dL_act_377 rfl (lv_at hl 6 rfl) ?_
      refine lv_iload hx hb dL_act_378 (lv_at hl 5 rfl) ?_
      refine lv_iload_n hx hb dL_act_380 rfl (lv_at hl 7 rfl) ?_
      refine z_topi (y := 0) (zif_n hod) ?_
      refine lv_if_eq (tgt := 389) hx hb dL_act_381 (by decide) (fun c1 => ?_) (fun c1 => ?_)
      rotate_left
      · exact absurd c1 (by decide)
      refine lv_iconst (v := 1) hx hb dL_act_389 (by decide) ?_
      refine lv_iload_n hx hb dL_act_390 rfl (lv_at hl 9 rfl) ?_
      refine lv_bipush (v := 14) hx hb dL_act_391 (by decide) ?_
      refine lv_ishr hx hb dL_act_393 ?_
      refine lv_bipush (v := 8) hx hb dL_act_394 (by decide) ?_
      refine z_ci0 (z_runS (As := [.int (v >>> (14 &&& 31)), .int 8]) (rest := [.int 1, .int (zaO v), .int (zaI v), .ref (ad 0)]) M hw.2 zc_L_76 (c_L_low l base D cA (zW base D cA ad ty I L P) (v >>> (14 &&& 31)) 8 (by decide)) hw.1 rfl rfl ⟨Nat.le_of_ble_eq_true rfl, Nat.le_of_ble_eq_true rfl⟩ ⟨Nat.le_of_ble_eq_true rfl, Nat.le_of_ble_eq_true rfl⟩ hl.1 (Nat.le_of_ble_eq_true rfl) dL_act_396) hw (fun H locs hw => ?_)
      refine lv_iadd hx hb dL_act_399 ?_
      refine lv_iload_n hx hb dL_act_400 rfl (lv_at hl 7 rfl) ?_
      refine z_topi (y := 0) (zif_n hod) ?_
      refine lv_if_eq (tgt := 409) hx hb dL_act_401 (by decide) (fun c2 => ?_) (fun c2 => ?_)
      rotate_left
      · exact absurd c2 (by decide)
      refine lv_iconst (v := 1) hx hb dL_act_409 (by decide) ?_
      refine lv_iload_n hx hb dL_act_410 rfl (lv_at hl 9 rfl) ?_
      refine lv_bipush (v := 9) hx hb dL_act_411 (by decide) ?_
      refine lv_ishr hx hb dL_act_413 ?_
      refine lv_sipush (v := 300) hx hb dL_act_414 (by decide) ?_
      refine z_ci0 (z_runS (As := [.int (v >>> (9 &&& 31)), .int 300]) (rest := [.int 1, .int ((1 : Int32) + (zlow (v >>> (14 &&& 31)) 8)), .int (zaO v), .int (zaI v), .ref (ad 0)]) M hw.2 zc_L_76 (c_L_low l base D cA (zW base D cA ad ty I L P) (v >>> (9 &&& 31)) 300 (by decide)) hw.1 rfl rfl ⟨Nat.le_of_ble_eq_true rfl, Nat.le_of_ble_eq_true rfl⟩ ⟨Nat.le_of_ble_eq_true rfl, Nat.le_of_ble_eq_true rfl⟩ hl.1 (Nat.le_of_ble_eq_true rfl) dL_act_417) hw (fun H locs hw => ?_)
      refine lv_iadd hx hb dL_act_420 ?_
      refine lv_iload_n hx hb dL_act_421 rfl (lv_at hl 7 rfl) ?_
      refine z_topi (y := 0) (zif_n hod) ?_
      refine lv_if_eq (tgt := 431) hx hb dL_act_422 (by decide) (fun c3 => ?_) (fun c3 => ?_)
      rotate_left
      · exact absurd c3 (by decide)
      refine lv_iload_n hx hb dL_act_431 rfl (lv_at hl 9 rfl) ?_
      refine lv_iconst (v := 3) hx hb dL_act_432 (by decide) ?_
      refine lv_ishr hx hb dL_act_433 ?_
      refine lv_bipush (v := 50) hx hb dL_act_434 (by decide) ?_
      refine z_ci0 (z_runS (As := [.int (v >>> (3 &&& 31)), .int 50]) (rest := [.int ((1 : Int32) + (zlow (v >>> (9 &&& 31)) 300)), .int ((1 : Int32) + (zlow (v >>> (14 &&& 31)) 8)), .int (zaO v), .int (zaI v), .ref (ad 0)]) M hw.2 zc_L_76 (c_L_low l base D cA (zW base D cA ad ty I L P) (v >>> (3 &&& 31)) 50 (by decide)) hw.1 rfl rfl ⟨Nat.le_of_ble_eq_true rfl, Nat.le_of_ble_eq_true rfl⟩ ⟨Nat.le_of_ble_eq_true rfl, Nat.le_of_ble_eq_true rfl⟩ hl.1 (Nat.le_of_ble_eq_true rfl) dL_act_436) hw (fun H locs hw => ?_)
      refine z_cl (z_runH (As := [.ref (ad 0), .int (zaI v), .int (zaO v), .int ((1 : Int32) + (zlow (v >>> (14 &&& 31)) 8)), .int ((1 : Int32) + (zlow (v >>> (9 &&& 31)) 300)), .int (zlow (v >>> (3 &&& 31)) 50)]) (rest := []) M hN hw.2 zh_cable hM hw.1 rfl rfl ⟨Nat.le_of_ble_eq_true rfl, Nat.le_of_ble_eq_true rfl⟩ ⟨Nat.le_of_ble_eq_true rfl, Nat.le_of_ble_eq_true rfl⟩ hl.1 (Nat.le_of_ble_eq_true rfl) dL_act_439) hw.2 (fun H locs hw1 hS => ?_)
      exact z_lret hx hb hr rfl hS hw1 (Nat.le_of_ble_eq_true rfl) (Nat.le_of_ble_eq_true rfl) dL_act_442 hlocks
  have sw : ∀ (H : Heap) (locs : List Loc) (ls : Array Slot), zH base D cA s H locs ad ty I L P → lv_has ls 10 [(9, .int (zaM v)), (8, .int (zaT v)), (7, .int (zaH v)), (6, .int (zaS v)), (5, .int (zaC v)), (4, .int (zaO v)), (3, .int (zaI v)), (2, .int (zif v 1 0)), (0, .ref (ad 0)), (1, .int v)] → W p l e (zRm 10 183 13 84) s m #[Value.ref (ad 0), Value.int v] below meth c H locs 0 0 (MQ below (zQl base r (fun H => ∃ ad2, (∀ κ t, ty κ = some t → ad2 κ = ad κ) ∧ zW base D cA ad2 ty2 I2 L2 P2 H)) #[Value.ref (ad 0), Value.int v] s 13 84 (fun q => base ≤ q)) (F0 m 213 ls [.int (zlow v 30)]) := by
    intro H locs ls hw hl
    rcases hv with q | q | q | q | q
    · refine z_topi (y := 3) q ?_
      refine lv_tableIn (off := 163) (tgt := 376) hx hb dL_act_213 (by decide) (by decide) (by decide) (by decide) ?_
      exact body H locs ls hw hl
    · refine z_topi (y := 4) q ?_
      refine lv_tableIn (off := 163) (tgt := 376) hx hb dL_act_213 (by decide) (by decide) (by decide) (by decide) ?_
      exact body H locs ls hw hl
    · refine z_topi (y := 5) q ?_
      refine lv_tableIn (off := 163) (tgt := 376) hx hb dL_act_213 (by decide) (by decide) (by decide) (by decide) ?_
      exact body H locs ls hw hl
    · refine z_topi (y := 6) q ?_
      refine lv_tableIn (off := 163) (tgt := 376) hx hb dL_act_213 (by decide) (by decide) (by decide) (by decide) ?_
      exact body H locs ls hw hl
    · refine z_topi (y := 7) q ?_
      refine lv_tableIn (off := 163) (tgt := 376) hx hb dL_act_213 (by decide) (by decide) (by decide) (by decide) ?_
      exact body H locs ls hw hl
  rcases zodd_dec v with hod | hod
  · exact z_acth_p hod M hw hl sw
  · exact z_acth_n hod M hw hl sw
set_option maxHeartbeats 4000000 in
set_option maxRecDepth 100000 in
theorem ea_price {n : Nat} {ty : zTyp} {I : zIt} {L : zLt} {P : zPt} (h : zLI n ty I L P) (hn : n ≤ 1900) (v : Int32) (hv : zlow v 30 = 8) : zEf (n + 1) ty I L P (fun l base D cA ad r W1 => zNl l base D cA yL_act cL_act 10 10 183 13 84 [.ref (ad 0), .int v] (zW base D cA ad ty I L P) r W1) := by
  obtain ⟨r, ty2, I2, L2, P2, h1, h2, h3⟩ := e_price h (zaC v) (zaM v)
  refine ⟨r, ty2, I2, L2, P2, zLI_mono (Nat.le_succ n) h1, h2, fun l base D cA ad hl0 => ?_⟩
  have hM := h3 l base D cA ad hl0
  refine z_nstart (by decide +kernel) (Nat.le_of_ble_eq_true rfl) fun p e s m below meth c ls M hP hS hl hr hlocks hN => ?_
  have M : zM p s m c cL_act RL 10 base D cA := M
  obtain ⟨hx, hb, -⟩ := id M
  have hl : lv_has ls 10 [(0, .ref (ad 0)), (1, .int v)] := hl
  have hw : zH base D cA s s.heap [] ad ty I L P := ⟨hP, hS⟩
  have body : ∀ (H : Heap) (locs : List Loc) (ls : Array Slot), zH base D cA s H locs ad ty I L P → lv_has ls 10 [(9, .int (zaM v)), (8, .int (zaT v)), (7, .int (zaH v)), (6, .int (zaS v)), (5, .int (zaC v)), (4, .int (zaO v)), (3, .int (zaI v)), (2, .int (zif v 1 0)), (0, .ref (ad 0)), (1, .int v)] → W p l e (zRm 10 183 13 84) s m #[Value.ref (ad 0), Value.int v] below meth c H locs 0 0 (MQ below (zQl base r (fun H => ∃ ad2, (∀ κ t, ty κ = some t → ad2 κ = ad κ) ∧ zW base D cA ad2 ty2 I2 L2 P2 H)) #[Value.ref (ad 0), Value.int v] s 13 84 (fun q => base ≤ q)) (F0 m 443 ls []) := by
    intro H locs ls hw hl
    refine lv_aload_n hx hb dL_act_443 rfl (lv_at hl 8 rfl) ?_
    refine lv_iload hx hb dL_act_444 (lv_at hl 4 rfl) ?_
    refine lv_iload hx hb dL_act_446 (lv_at hl 0 rfl) ?_
    refine z_cl (z_runH (As := [.ref (ad 0), .int (zaC v), .int (zaM v)]) (rest := []) M hN hw.2 zh_price hM hw.1 rfl rfl ⟨Nat.le_of_ble_eq_true rfl, Nat.le_of_ble_eq_true rfl⟩ ⟨Nat.le_of_ble_eq_true rfl, Nat.le_of_ble_eq_true rfl⟩ hl.1 (Nat.le_of_ble_eq_true rfl) dL_act_448) hw.2 (fun H locs hw1 hS => ?_)
    exact z_lret hx hb hr rfl hS hw1 (Nat.le_of_ble_eq_true rfl) (Nat.le_of_ble_eq_true rfl) dL_act_451 hlocks
  have sw : ∀ (H : Heap) (locs : List Loc) (ls : Array Slot), zH base D cA s H locs ad ty I L P → lv_has ls 10 [(9, .int (zaM v)), (8, .int (zaT v)), (7, .int (zaH v)), (6, .int (zaS v)), (5, .int (zaC v)), (4, .int (zaO v)), (3, .int (zaI v)), (2, .int (zif v 1 0)), (0, .ref (ad 0)), (1, .int v)] → W p l e (zRm 10 183 13 84) s m #[Value.ref (ad 0), Value.int v] below meth c H locs 0 0 (MQ below (zQl base r (fun H => ∃ ad2, (∀ κ t, ty κ = some t → ad2 κ = ad κ) ∧ zW base D cA ad2 ty2 I2 L2 P2 H)) #[Value.ref (ad 0), Value.int v] s 13 84 (fun q => base ≤ q)) (F0 m 213 ls [.int (zlow v 30)]) := by
    intro H locs ls hw hl
    have q := hv
    · refine z_topi (y := 8) q ?_
      refine lv_tableIn (off := 230) (tgt := 443) hx hb dL_act_213 (by decide) (by decide) (by decide) (by decide) ?_
      exact body H locs ls hw hl
  rcases zodd_dec v with hod | hod
  · exact z_acth_p hod M hw hl sw
  · exact z_acth_n hod M hw hl sw
set_option maxHeartbeats 4000000 in
set_option maxRecDepth 100000 in
theorem ea_fault {n : Nat} {ty : zTyp} {I : zIt} {L : zLt} {P : zPt} (h : zLI n ty I L P) (hn : n ≤ 1900) (v : Int32) (hv : zlow v 30 = 9 ∨ zlow v 30 = 10 ∨ zlow v 30 = 11) : zEf (n + 1) ty I L P (fun l base D cA ad r W1 => zNl l base D cA yL_act cL_act 10 10 183 13 84 [.ref (ad 0), .int v] (zW base D cA ad ty I L P) r W1) := by
  obtain ⟨r, ty2, I2, L2, P2, h1, h2, h3⟩ := e_fault h (zaC v) (zaS v)
  refine ⟨r, ty2, I2, L2, P2, zLI_mono (Nat.le_succ n) h1, h2, fun l base D cA ad hl0 => ?_⟩
  have hM := h3 l base D cA ad hl0
  refine z_nstart (by decide +kernel) (Nat.le_of_ble_eq_true rfl) fun p e s m below meth c ls M hP hS hl hr hlocks hN => ?_
  have M : zM p s m c cL_act RL 10 base D cA := M
  obtain ⟨hx, hb, -⟩ := id M
  have hl : lv_has ls 10 [(0, .ref (ad 0)), (1, .int v)] := hl
  have hw : zH base D cA s s.heap [] ad ty I L P := ⟨hP, hS⟩
  have body : ∀ (H : Heap) (locs : List Loc) (ls : Array Slot), zH base D cA s H locs ad ty I L P → lv_has ls 10 [(9, .int (zaM v)), (8, .int (zaT v)), (7, .int (zaH v)), (6, .int (zaS v)), (5, .int (zaC v)), (4, .int (zaO v)), (3, .int (zaI v)), (2, .int (zif v 1 0)), (0, .ref (ad 0)), (1, .int v)] → W p l e (zRm 10 183 13 84) s m #[Value.ref (ad 0), Value.int v] below meth c H locs 0 0 (MQ below (zQl base r (fun H => ∃ ad2, (∀ κ t, ty κ = some t → ad2 κ = ad κ) ∧ zW base D cA ad2 ty2 I2 L2 P2 H)) #[Value.ref (ad 0), Value.int v] s 13 84 (fun q => base ≤ q)) (F0 m 452 ls []) := by
    intro H locs ls hw hl
    refine lv_aload_n hx hb dL_act_452 rfl (lv_at hl 8 rfl) ?_
    refine lv_iload hx hb dL_act_453 (lv_at hl 4 rfl) ?_
    refine lv_iload hx hb dL_act_455 (lv_at hl 3 rfl) ?_
    refine z_cl (z_runH (As := [.ref (ad 0), .int (zaC v), .int (zaS v)]) (rest := []) M hN hw.2 zh_fault hM hw.1 rfl rfl ⟨Nat.le_of_ble_eq_true rfl, Nat.le_of_ble_eq_true rfl⟩ ⟨Nat.le_of_ble_eq_true rfl, Nat.le_of_ble_eq_true rfl⟩ hl.1 (Nat.le_of_ble_eq_true rfl) dL_act_457) hw.2 (fun H locs hw1 hS => ?_)
    exact z_lret hx hb hr rfl hS hw1 (Nat.le_of_ble_eq_true rfl) (Nat.le_of_ble_eq_true rfl) dL_act_460 hlocks
  have sw : ∀ (H : Heap) (locs : List Loc) (ls : Array Slot), zH base D cA s H locs ad ty I L P → lv_has ls 10 [(9, .int (zaM v)), (8, .int (zaT v)), (7, .int (zaH v)), (6, .int (zaS v)), (5, .int (zaC v)), (4, .int (zaO v)), (3, .int (zaI v)), (2, .int (zif v 1 0)), (0, .ref (ad 0)), (1, .int v)] → W p l e (zRm 10 183 13 84) s m #[Value.ref (ad 0), Value.int v] below meth c H locs 0 0 (MQ below (zQl base r (fun H => ∃ ad2, (∀ κ t, ty κ = some t → ad2 κ = ad κ) ∧ zW base D cA ad2 ty2 I2 L2 P2 H)) #[Value.ref (ad 0), Value.int v] s 13 84 (fun q => base ≤ q)) (F0 m 213 ls [.int (zlow v 30)]) := by
    intro H locs ls hw hl
    rcases hv with q | q | q
    · refine z_topi (y := 9) q ?_
      refine lv_tableIn (off := 239) (tgt := 452) hx hb dL_act_213 (by decide) (by decide) (by decide) (by decide) ?_
      exact body H locs ls hw hl
    · refine z_topi (y := 10) q ?_
      refine lv_tableIn (off := 239) (tgt := 452) hx hb dL_act_213 (by decide) (by decide) (by decide) (by decide) ?_
      exact body H locs ls hw hl
    · refine z_topi (y := 11) q ?_
      refine lv_tableIn (off := 239) (tgt := 452) hx hb dL_act_213 (by decide) (by decide) (by decide) (by decide) ?_
      exact body H locs ls hw hl
  rcases zodd_dec v with hod | hod
  · exact z_acth_p hod M hw hl sw
  · exact z_acth_n hod M hw hl sw
set_option maxHeartbeats 4000000 in
set_option maxRecDepth 100000 in
theorem ea_ship {n : Nat} {ty : zTyp} {I : zIt} {L : zLt} {P : zPt} (h : zLI n ty I L P) (hn : n ≤ 1900) (v : Int32) (hv : zlow v 30 = 12) : zEf (n + 1) ty I L P (fun l base D cA ad r W1 => zNl l base D cA yL_act cL_act 10 10 183 13 84 [.ref (ad 0), .int v] (zW base D cA ad ty I L P) r W1) := by
  obtain ⟨r, ty2, I2, L2, P2, h1, h2, h3⟩ := e_ship h (zaI v) (zif v (zaM v) ((1 : Int32) + (zlow (v >>> (9 &&& 31)) 20)))
  refine ⟨r, ty2, I2, L2, P2, zLI_mono (Nat.le_succ n) h1, h2, fun l base D cA ad hl0 => ?_⟩
  have hM := h3 l base D cA ad hl0
  refine z_nstart (by decide +kernel) (Nat.le_of_ble_eq_true rfl) fun p e s m below meth c ls M hP hS hl hr hlocks hN => ?_
  have M : zM p s m c cL_act RL 10 base D cA := M
  obtain ⟨hx, hb, -⟩ := id M
  have hl : lv_has ls 10 [(0, .ref (ad 0)), (1, .int v)] := hl
  have hw : zH base D cA s s.heap [] ad ty I L P := ⟨hP, hS⟩
  have body : ∀ (H : Heap) (locs : List Loc) (ls : Array Slot), zH base D cA s H locs ad ty I L P → lv_has ls 10 [(9, .int (zaM v)), (8, .int (zaT v)), (7, .int (zaH v)), (6, .int (zaS v)), (5, .int (zaC v)), (4, .int (zaO v)), (3, .int (zaI v)), (2, .int (zif v 1 0)), (0, .ref (ad 0)), (1, .int v)] → W p l e (zRm 10 183 13 84) s m #[Value.ref (ad 0), Value.int v] below meth c H locs 0 0 (MQ below (zQl base r (fun H => ∃ ad2, (∀ κ t, ty κ = some t → ad2 κ = ad κ) ∧ zW base D cA ad2 ty2 I2 L2 P2 H)) #[Value.ref (ad 0), Value.int v] s 13 84 (fun q => base ≤ q)) (F0 m 461 ls []) := by
    intro H locs ls hw hl
    rcases zodd_dec v with hod | hod
    · skip
      rw [zif_p hod] at hM
      refine lv_aload_n hx hb dL_act_461 rfl (lv_at hl 8 rfl) ?_
      refine lv_iload_n hx hb dL_act_462 rfl (lv_at hl 6 rfl) ?_
      refine lv_iload_n hx hb dL_act_463 rfl (lv_at hl 7 rfl) ?_
      refine z_topi (y := 1) (zif_p hod) ?_
      refine lv_if_eq (tgt := 472) hx hb dL_act_464 (by decide) (fun c1 => ?_) (fun c1 => ?_)
      · exact absurd c1 (by decide)
      refine lv_iload hx hb dL_act_467 (lv_at hl 0 rfl) ?_
      refine lv_goto (tgt := 483) hx hb dL_act_469 (by decide) ?_
      refine z_cl (z_runH (As := [.ref (ad 0), .int (zaI v), .int (zaM v)]) (rest := []) M hN hw.2 zh_ship hM hw.1 rfl rfl ⟨Nat.le_of_ble_eq_true rfl, Nat.le_of_ble_eq_true rfl⟩ ⟨Nat.le_of_ble_eq_true rfl, Nat.le_of_ble_eq_true rfl⟩ hl.1 (Nat.le_of_ble_eq_true rfl) dL_act_483) hw.2 (fun H locs hw1 hS => ?_)
      exact z_lret hx hb hr rfl hS hw1 (Nat.le_of_ble_eq_true rfl) (Nat.le_of_ble_eq_true rfl) dL_act_486 hlocks
    · skip
      rw [zif_n hod] at hM
      refine lv_aload_n hx hb dL_act_461 rfl (lv_at hl 8 rfl) ?_
      refine lv_iload_n hx hb dL_act_462 rfl (lv_at hl 6 rfl) ?_
      refine lv_iload_n hx hb dL_act_463 rfl (lv_at hl 7 rfl) ?_
      refine z_topi (y := 0) (zif_n hod) ?_
      refine lv_if_eq (tgt := 472) hx hb dL_act_464 (by decide) (fun c1 => ?_) (fun c1 => ?_)
      rotate_left
      · exact absurd c1 (by decide)
      refine lv_iconst (v := 1) hx hb dL_act_472 (by decide) ?_
      refine lv_iload_n hx hb dL_act_473 rfl (lv_at hl 9 rfl) ?_
      refine lv_bipush (v := 9) hx hb dL_act_474 (by decide) ?_
      refine lv_ishr hx hb dL_act_476 ?_
      refine lv_bipush (v := 20) hx hb dL_act_477 (by decide) ?_
      refine z_ci0 (z_runS (As := [.int (v >>> (9 &&& 31)), .int 20]) (rest := [.int 1, .int (zaI v), .ref (ad 0)]) M hw.2 zc_L_76 (c_L_low l base D cA (zW base D cA ad ty I L P) (v >>> (9 &&& 31)) 20 (by decide)) hw.1 rfl rfl ⟨Nat.le_of_ble_eq_true rfl, Nat.le_of_ble_eq_true rfl⟩ ⟨Nat.le_of_ble_eq_true rfl, Nat.le_of_ble_eq_true rfl⟩ hl.1 (Nat.le_of_ble_eq_true rfl) dL_act_479) hw (fun H locs hw => ?_)
      refine lv_iadd hx hb dL_act_482 ?_
      refine z_cl (z_runH (As := [.ref (ad 0), .int (zaI v), .int ((1 : Int32) + (zlow (v >>> (9 &&& 31)) 20))]) (rest := []) M hN hw.2 zh_ship hM hw.1 rfl rfl ⟨Nat.le_of_ble_eq_true rfl, Nat.le_of_ble_eq_true rfl⟩ ⟨Nat.le_of_ble_eq_true rfl, Nat.le_of_ble_eq_true rfl⟩ hl.1 (Nat.le_of_ble_eq_true rfl) dL_act_483) hw.2 (fun H locs hw1 hS => ?_)
      exact z_lret hx hb hr rfl hS hw1 (Nat.le_of_ble_eq_true rfl) (Nat.le_of_ble_eq_true rfl) dL_act_486 hlocks
  have sw : ∀ (H : Heap) (locs : List Loc) (ls : Array Slot), zH base D cA s H locs ad ty I L P → lv_has ls 10 [(9, .int (zaM v)), (8, .int (zaT v)), (7, .int (zaH v)), (6, .int (zaS v)), (5, .int (zaC v)), (4, .int (zaO v)), (3, .int (zaI v)), (2, .int (zif v 1 0)), (0, .ref (ad 0)), (1, .int v)] → W p l e (zRm 10 183 13 84) s m #[Value.ref (ad 0), Value.int v] below meth c H locs 0 0 (MQ below (zQl base r (fun H => ∃ ad2, (∀ κ t, ty κ = some t → ad2 κ = ad κ) ∧ zW base D cA ad2 ty2 I2 L2 P2 H)) #[Value.ref (ad 0), Value.int v] s 13 84 (fun q => base ≤ q)) (F0 m 213 ls [.int (zlow v 30)]) := by
    intro H locs ls hw hl
    have q := hv
    · refine z_topi (y := 12) q ?_
      refine lv_tableIn (off := 248) (tgt := 461) hx hb dL_act_213 (by decide) (by decide) (by decide) (by decide) ?_
      exact body H locs ls hw hl
  rcases zodd_dec v with hod | hod
  · exact z_acth_p hod M hw hl sw
  · exact z_acth_n hod M hw hl sw
set_option maxHeartbeats 4000000 in
set_option maxRecDepth 100000 in
theorem ea_send {n : Nat} {ty : zTyp} {I : zIt} {L : zLt} {P : zPt} (h : zLI n ty I L P) (hn : n ≤ 1900) (v : Int32) (hv : zlow v 30 = 13 ∨ zlow v 30 = 14 ∨ zlow v 30 = 15) : zEf (n + 1) ty I L P (fun l base D cA ad r W1 => zNl l base D cA yL_act cL_act 10 10 183 13 84 [.ref (ad 0), .int v] (zW base D cA ad ty I L P) r W1) := by
  obtain ⟨r, ty2, I2, L2, P2, h1, h2, h3⟩ := e_send h (zaH v) (zaC v) (zaS v)
  refine ⟨r, ty2, I2, L2, P2, zLI_mono (Nat.le_succ n) h1, h2, fun l base D cA ad hl0 => ?_⟩
  have hM := h3 l base D cA ad hl0
  refine z_nstart (by decide +kernel) (Nat.le_of_ble_eq_true rfl) fun p e s m below meth c ls M hP hS hl hr hlocks hN => ?_
  have M : zM p s m c cL_act RL 10 base D cA := M
  obtain ⟨hx, hb, -⟩ := id M
  have hl : lv_has ls 10 [(0, .ref (ad 0)), (1, .int v)] := hl
  have hw : zH base D cA s s.heap [] ad ty I L P := ⟨hP, hS⟩
  have body : ∀ (H : Heap) (locs : List Loc) (ls : Array Slot), zH base D cA s H locs ad ty I L P → lv_has ls 10 [(9, .int (zaM v)), (8, .int (zaT v)), (7, .int (zaH v)), (6, .int (zaS v)), (5, .int (zaC v)), (4, .int (zaO v)), (3, .int (zaI v)), (2, .int (zif v 1 0)), (0, .ref (ad 0)), (1, .int v)] → W p l e (zRm 10 183 13 84) s m #[Value.ref (ad 0), Value.int v] below meth c H locs 0 0 (MQ below (zQl base r (fun H => ∃ ad2, (∀ κ t, ty κ = some t → ad2 κ = ad κ) ∧ zW base D cA ad2 ty2 I2 L2 P2 H)) #[Value.ref (ad 0), Value.int v] s 13 84 (fun q => base ≤ q)) (F0 m 487 ls []) := by
    intro H locs ls hw hl
    refine lv_aload_n hx hb dL_act_487 rfl (lv_at hl 8 rfl) ?_
    refine lv_iload hx hb dL_act_488 (lv_at hl 2 rfl) ?_
    refine lv_iload hx hb dL_act_490 (lv_at hl 4 rfl) ?_
    refine lv_iload hx hb dL_act_492 (lv_at hl 3 rfl) ?_
    refine z_cl (z_runH (As := [.ref (ad 0), .int (zaH v), .int (zaC v), .int (zaS v)]) (rest := []) M hN hw.2 zh_send hM hw.1 rfl rfl ⟨Nat.le_of_ble_eq_true rfl, Nat.le_of_ble_eq_true rfl⟩ ⟨Nat.le_of_ble_eq_true rfl, Nat.le_of_ble_eq_true rfl⟩ hl.1 (Nat.le_of_ble_eq_true rfl) dL_act_494) hw.2 (fun H locs hw1 hS => ?_)
    exact z_lret hx hb hr rfl hS hw1 (Nat.le_of_ble_eq_true rfl) (Nat.le_of_ble_eq_true rfl) dL_act_497 hlocks
  have sw : ∀ (H : Heap) (locs : List Loc) (ls : Array Slot), zH base D cA s H locs ad ty I L P → lv_has ls 10 [(9, .int (zaM v)), (8, .int (zaT v)), (7, .int (zaH v)), (6, .int (zaS v)), (5, .int (zaC v)), (4, .int (zaO v)), (3, .int (zaI v)), (2, .int (zif v 1 0)), (0, .ref (ad 0)), (1, .int v)] → W p l e (zRm 10 183 13 84) s m #[Value.ref (ad 0), Value.int v] below meth c H locs 0 0 (MQ below (zQl base r (fun H => ∃ ad2, (∀ κ t, ty κ = some t → ad2 κ = ad κ) ∧ zW base D cA ad2 ty2 I2 L2 P2 H)) #[Value.ref (ad 0), Value.int v] s 13 84 (fun q => base ≤ q)) (F0 m 213 ls [.int (zlow v 30)]) := by
    intro H locs ls hw hl
    rcases hv with q | q | q
    · refine z_topi (y := 13) q ?_
      refine lv_tableIn (off := 274) (tgt := 487) hx hb dL_act_213 (by decide) (by decide) (by decide) (by decide) ?_
      exact body H locs ls hw hl
    · refine z_topi (y := 14) q ?_
      refine lv_tableIn (off := 274) (tgt := 487) hx hb dL_act_213 (by decide) (by decide) (by decide) (by decide) ?_
      exact body H locs ls hw hl
    · refine z_topi (y := 15) q ?_
      refine lv_tableIn (off := 274) (tgt := 487) hx hb dL_act_213 (by decide) (by decide) (by decide) (by decide) ?_
      exact body H locs ls hw hl
  rcases zodd_dec v with hod | hod
  · exact z_acth_p hod M hw hl sw
  · exact z_acth_n hod M hw hl sw
set_option maxHeartbeats 4000000 in
set_option maxRecDepth 100000 in
theorem ea_home {n : Nat} {ty : zTyp} {I : zIt} {L : zLt} {P : zPt} (h : zLI n ty I L P) (hn : n ≤ 1900) (v : Int32) (hv : zlow v 30 = 16) : zEf (n + 1) ty I L P (fun l base D cA ad r W1 => zNl l base D cA yL_act cL_act 10 10 183 13 84 [.ref (ad 0), .int v] (zW base D cA ad ty I L P) r W1) := by
  obtain ⟨r, ty2, I2, L2, P2, h1, h2, h3⟩ := e_home h (zaH v) (zaI v)
  refine ⟨r, ty2, I2, L2, P2, zLI_mono (Nat.le_succ n) h1, h2, fun l base D cA ad hl0 => ?_⟩
  have hM := h3 l base D cA ad hl0
  refine z_nstart (by decide +kernel) (Nat.le_of_ble_eq_true rfl) fun p e s m below meth c ls M hP hS hl hr hlocks hN => ?_
  have M : zM p s m c cL_act RL 10 base D cA := M
  obtain ⟨hx, hb, -⟩ := id M
  have hl : lv_has ls 10 [(0, .ref (ad 0)), (1, .int v)] := hl
  have hw : zH base D cA s s.heap [] ad ty I L P := ⟨hP, hS⟩
  have body : ∀ (H : Heap) (locs : List Loc) (ls : Array Slot), zH base D cA s H locs ad ty I L P → lv_has ls 10 [(9, .int (zaM v)), (8, .int (zaT v)), (7, .int (zaH v)), (6, .int (zaS v)), (5, .int (zaC v)), (4, .int (zaO v)), (3, .int (zaI v)), (2, .int (zif v 1 0)), (0, .ref (ad 0)), (1, .int v)] → W p l e (zRm 10 183 13 84) s m #[Value.ref (ad 0), Value.int v] below meth c H locs 0 0 (MQ below (zQl base r (fun H => ∃ ad2, (∀ κ t, ty κ = some t → ad2 κ = ad κ) ∧ zW base D cA ad2 ty2 I2 L2 P2 H)) #[Value.ref (ad 0), Value.int v] s 13 84 (fun q => base ≤ q)) (F0 m 498 ls []) := by
    intro H locs ls hw hl
    refine lv_aload_n hx hb dL_act_498 rfl (lv_at hl 8 rfl) ?_
    refine lv_iload hx hb dL_act_499 (lv_at hl 2 rfl) ?_
    refine lv_iload_n hx hb dL_act_501 rfl (lv_at hl 6 rfl) ?_
    refine z_cl (z_runH (As := [.ref (ad 0), .int (zaH v), .int (zaI v)]) (rest := []) M hN hw.2 zh_home hM hw.1 rfl rfl ⟨Nat.le_of_ble_eq_true rfl, Nat.le_of_ble_eq_true rfl⟩ ⟨Nat.le_of_ble_eq_true rfl, Nat.le_of_ble_eq_true rfl⟩ hl.1 (Nat.le_of_ble_eq_true rfl) dL_act_502) hw.2 (fun H locs hw1 hS => ?_)
    exact z_lret hx hb hr rfl hS hw1 (Nat.le_of_ble_eq_true rfl) (Nat.le_of_ble_eq_true rfl) dL_act_505 hlocks
  have sw : ∀ (H : Heap) (locs : List Loc) (ls : Array Slot), zH base D cA s H locs ad ty I L P → lv_has ls 10 [(9, .int (zaM v)), (8, .int (zaT v)), (7, .int (zaH v)), (6, .int (zaS v)), (5, .int (zaC v)), (4, .int (zaO v)), (3, .int (zaI v)), (2, .int (zif v 1 0)), (0, .ref (ad 0)), (1, .int v)] → W p l e (zRm 10 183 13 84) s m #[Value.ref (ad 0), Value.int v] below meth c H locs 0 0 (MQ below (zQl base r (fun H => ∃ ad2, (∀ κ t, ty κ = some t → ad2 κ = ad κ) ∧ zW base D cA ad2 ty2 I2 L2 P2 H)) #[Value.ref (ad 0), Value.int v] s 13 84 (fun q => base ≤ q)) (F0 m 213 ls [.int (zlow v 30)]) := by
    intro H locs ls hw hl
    have q := hv
    · refine z_topi (y := 16) q ?_
      refine lv_tableIn (off := 285) (tgt := 498) hx hb dL_act_213 (by decide) (by decide) (by decide) (by decide) ?_
      exact body H locs ls hw hl
  rcases zodd_dec v with hod | hod
  · exact z_acth_p hod M hw hl sw
  · exact z_acth_n hod M hw hl sw
set_option maxHeartbeats 4000000 in
set_option maxRecDepth 100000 in
theorem ea_trader {n : Nat} {ty : zTyp} {I : zIt} {L : zLt} {P : zPt} (h : zLI n ty I L P) (hn : n ≤ 1900) (v : Int32) (hv : zlow v 30 = 17 ∨ zlow v 30 = 18) : zEf (n + 1) ty I L P (fun l base D cA ad r W1 => zNl l base D cA yL_act cL_act 10 10 183 13 84 [.ref (ad 0), .int v] (zW base D cA ad ty I L P) r W1) := by
  obtain ⟨r, ty2, I2, L2, P2, h1, h2, h3⟩ := e_trader h (zaI v) (zaO v) (zif v (zaM v) ((1 : Int32) + (zlow (v >>> (9 &&& 31)) 900))) (zif v (v >>> (4 &&& 31)) (zlow (v >>> (4 &&& 31)) 90)) (zlow (v >>> (6 &&& 31)) 60) (zif v (v >>> (2 &&& 31)) (zlow (v >>> (2 &&& 31)) 3000))
  refine ⟨r, ty2, I2, L2, P2, zLI_mono (Nat.le_succ n) h1, h2, fun l base D cA ad hl0 => ?_⟩
  have hM := h3 l base D cA ad hl0
  refine z_nstart (by decide +kernel) (Nat.le_of_ble_eq_true rfl) fun p e s m below meth c ls M hP hS hl hr hlocks hN => ?_
  have M : zM p s m c cL_act RL 10 base D cA := M
  obtain ⟨hx, hb, -⟩ := id M
  have hl : lv_has ls 10 [(0, .ref (ad 0)), (1, .int v)] := hl
  have hw : zH base D cA s s.heap [] ad ty I L P := ⟨hP, hS⟩
  have body : ∀ (H : Heap) (locs : List Loc) (ls : Array Slot), zH base D cA s H locs ad ty I L P → lv_has ls 10 [(9, .int (zaM v)), (8, .int (zaT v)), (7, .int (zaH v)), (6, .int (zaS v)), (5, .int (zaC v)), (4, .int (zaO v)), (3, .int (zaI v)), (2, .int (zif v 1 0)), (0, .ref (ad 0)), (1, .int v)] → W p l e (zRm 10 183 13 84) s m #[Value.ref (ad 0), Value.int v] below meth c H locs 0 0 (MQ below (zQl base r (fun H => ∃ ad2, (∀ κ t, ty κ = some t → ad2 κ = ad κ) ∧ zW base D cA ad2 ty2 I2 L2 P2 H)) #[Value.ref (ad 0), Value.int v] s 13 84 (fun q => base ≤ q)) (F0 m 506 ls []) := by
    intro H locs ls hw hl
    rcases zodd_dec v with hod | hod
    · skip
      rw [zif_p hod, zif_p hod, zif_p hod] at hM
      refine lv_aload_n hx hb dL_act_506 rfl (lv_at hl 8 rfl) ?_
      refine lv_iload_n hx hb dL_act_507 rfl (lv_at hl 6 rfl) ?_
      refine lv_iload hx hb dL_act_508 (lv_at hl 5 rfl) ?_
      refine lv_iload_n hx hb dL_act_510 rfl (lv_at hl 7 rfl) ?_
      refine z_topi (y := 1) (zif_p hod) ?_
      refine lv_if_eq (tgt := 519) hx hb dL_act_511 (by decide) (fun c1 => ?_) (fun c1 => ?_)
      · exact absurd c1 (by decide)
      refine lv_iload hx hb dL_act_514 (lv_at hl 0 rfl) ?_
      refine lv_goto (tgt := 531) hx hb dL_act_516 (by decide) ?_
      refine lv_iload_n hx hb dL_act_531 rfl (lv_at hl 7 rfl) ?_
      refine z_topi (y := 1) (zif_p hod) ?_
      refine lv_if_eq (tgt := 541) hx hb dL_act_532 (by decide) (fun c2 => ?_) (fun c2 => ?_)
      · exact absurd c2 (by decide)
      refine lv_iload_n hx hb dL_act_535 rfl (lv_at hl 9 rfl) ?_
      refine lv_iconst (v := 4) hx hb dL_act_536 (by decide) ?_
      refine lv_ishr hx hb dL_act_537 ?_
      refine lv_goto (tgt := 549) hx hb dL_act_538 (by decide) ?_
      refine lv_iload_n hx hb dL_act_549 rfl (lv_at hl 9 rfl) ?_
      refine lv_bipush (v := 6) hx hb dL_act_550 (by decide) ?_
      refine lv_ishr hx hb dL_act_552 ?_
      refine lv_bipush (v := 60) hx hb dL_act_553 (by decide) ?_
      refine z_ci0 (z_runS (As := [.int (v >>> (6 &&& 31)), .int 60]) (rest := [.int (v >>> (4 &&& 31)), .int (zaM v), .int (zaO v), .int (zaI v), .ref (ad 0)]) M hw.2 zc_L_76 (c_L_low l base D cA (zW base D cA ad ty I L P) (v >>> (6 &&& 31)) 60 (by decide)) hw.1 rfl rfl ⟨Nat.le_of_ble_eq_true rfl, Nat.le_of_ble_eq_true rfl⟩ ⟨Nat.le_of_ble_eq_true rfl, Nat.le_of_ble_eq_true rfl⟩ hl.1 (Nat.le_of_ble_eq_true rfl) dL_act_555) hw (fun H locs hw => ?_)
      refine lv_iload_n hx hb dL_act_558 rfl (lv_at hl 7 rfl) ?_
      refine z_topi (y := 1) (zif_p hod) ?_
      refine lv_if_eq (tgt := 568) hx hb dL_act_559 (by decide) (fun c3 => ?_) (fun c3 => ?_)
      · exact absurd c3 (by decide)
      refine lv_iload_n hx hb dL_act_562 rfl (lv_at hl 9 rfl) ?_
      refine lv_iconst (v := 2) hx hb dL_act_563 (by decide) ?_
      refine lv_ishr hx hb dL_act_564 ?_
      refine lv_goto (tgt := 577) hx hb dL_act_565 (by decide) ?_
      refine z_cl (z_runH (As := [.ref (ad 0), .int (zaI v), .int (zaO v), .int (zaM v), .int (v >>> (4 &&& 31)), .int (zlow (v >>> (6 &&& 31)) 60), .int (v >>> (2 &&& 31))]) (rest := []) M hN hw.2 zh_trader hM hw.1 rfl rfl ⟨Nat.le_of_ble_eq_true rfl, Nat.le_of_ble_eq_true rfl⟩ ⟨Nat.le_of_ble_eq_true rfl, Nat.le_of_ble_eq_true rfl⟩ hl.1 (Nat.le_of_ble_eq_true rfl) dL_act_577) hw.2 (fun H locs hw1 hS => ?_)
      exact z_lret hx hb hr rfl hS hw1 (Nat.le_of_ble_eq_true rfl) (Nat.le_of_ble_eq_true rfl) dL_act_580 hlocks
    · skip
      rw [zif_n hod, zif_n hod, zif_n hod] at hM
      refine lv_aload_n hx hb dL_act_506 rfl (lv_at hl 8 rfl) ?_
      refine lv_iload_n hx hb dL_act_507 rfl (lv_at hl 6 rfl) ?_
      refine lv_iload hx hb dL_act_508 (lv_at hl 5 rfl) ?_
      refine lv_iload_n hx hb dL_act_510 rfl (lv_at hl 7 rfl) ?_
      refine z_topi (y := 0) (zif_n hod) ?_
      refine lv_if_eq (tgt := 519) hx hb dL_act_511 (by decide) (fun c1 => ?_) (fun c1 => ?_)
      rotate_left
      · exact absurd c1 (by decide)
      refine lv_iconst (v := 1) hx hb dL_act_519 (by decide) ?_
      refine lv_iload_n hx hb dL_act_520 rfl (lv_at hl 9 rfl) ?_
      refine lv_bipush (v := 9) hx hb dL_act_521 (by decide) ?_
      refine lv_ishr hx hb dL_act_523 ?_
      refine lv_sipush (v := 900) hx hb dL_act_524 (by decide) ?_
      refine z_ci0 (z_runS (As := [.int (v >>> (9 &&& 31)), .int 900]) (rest := [.int 1, .int (zaO v), .int (zaI v), .ref (ad 0)]) M hw.2 zc_L_76 (c_L_low l base D cA (zW base D cA ad ty I L P) (v >>> (9 &&& 31)) 900 (by decide)) hw.1 rfl rfl ⟨Nat.le_of_ble_eq_true rfl, Nat.le_of_ble_eq_true rfl⟩ ⟨Nat.le_of_ble_eq_true rfl, Nat.le_of_ble_eq_true rfl⟩ hl.1 (Nat.le_of_ble_eq_true rfl) dL_act_527) hw (fun H locs hw => ?_)
      refine lv_iadd hx hb dL_act_530 ?_
      refine lv_iload_n hx hb dL_act_531 rfl (lv_at hl 7 rfl) ?_
      refine z_topi (y := 0) (zif_n hod) ?_
      refine lv_if_eq (tgt := 541) hx hb dL_act_532 (by decide) (fun c2 => ?_) (fun c2 => ?_)
      rotate_left
      · exact absurd c2 (by decide)
      refine lv_iload_n hx hb dL_act_541 rfl (lv_at hl 9 rfl) ?_
      refine lv_iconst (v := 4) hx hb dL_act_542 (by decide) ?_
      refine lv_ishr hx hb dL_act_543 ?_
      refine lv_bipush (v := 90) hx hb dL_act_544 (by decide) ?_
      refine z_ci0 (z_runS (As := [.int (v >>> (4 &&& 31)), .int 90]) (rest := [.int ((1 : Int32) + (zlow (v >>> (9 &&& 31)) 900)), .int (zaO v), .int (zaI v), .ref (ad 0)]) M hw.2 zc_L_76 (c_L_low l base D cA (zW base D cA ad ty I L P) (v >>> (4 &&& 31)) 90 (by decide)) hw.1 rfl rfl ⟨Nat.le_of_ble_eq_true rfl, Nat.le_of_ble_eq_true rfl⟩ ⟨Nat.le_of_ble_eq_true rfl, Nat.le_of_ble_eq_true rfl⟩ hl.1 (Nat.le_of_ble_eq_true rfl) dL_act_546) hw (fun H locs hw => ?_)
      refine lv_iload_n hx hb dL_act_549 rfl (lv_at hl 9 rfl) ?_
      refine lv_bipush (v := 6) hx hb dL_act_550 (by decide) ?_
      refine lv_ishr hx hb dL_act_552 ?_
      refine lv_bipush (v := 60) hx hb dL_act_553 (by decide) ?_
      refine z_ci0 (z_runS (As := [.int (v >>> (6 &&& 31)), .int 60]) (rest := [.int (zlow (v >>> (4 &&& 31)) 90), .int ((1 : Int32) + (zlow (v >>> (9 &&& 31)) 900)), .int (zaO v), .int (zaI v), .ref (ad 0)]) M hw.2 zc_L_76 (c_L_low l base D cA (zW base D cA ad ty I L P) (v >>> (6 &&& 31)) 60 (by decide)) hw.1 rfl rfl ⟨Nat.le_of_ble_eq_true rfl, Nat.le_of_ble_eq_true rfl⟩ ⟨Nat.le_of_ble_eq_true rfl, Nat.le_of_ble_eq_true rfl⟩ hl.1 (Nat.le_of_ble_eq_true rfl) dL_act_555) hw (fun H locs hw => ?_)
      refine lv_iload_n hx hb dL_act_558 rfl (lv_at hl 7 rfl) ?_
      refine z_topi (y := 0) (zif_n hod) ?_
      refine lv_if_eq (tgt := 568) hx hb dL_act_559 (by decide) (fun c3 => ?_) (fun c3 => ?_)
      rotate_left
      · exact absurd c3 (by decide)
      refine lv_iload_n hx hb dL_act_568 rfl (lv_at hl 9 rfl) ?_
      refine lv_iconst (v := 2) hx hb dL_act_569 (by decide) ?_
      refine lv_ishr hx hb dL_act_570 ?_
      refine lv_sipush (v := 3000) hx hb dL_act_571 (by decide) ?_
      refine z_ci0 (z_runS (As := [.int (v >>> (2 &&& 31)), .int 3000]) (rest := [.int (zlow (v >>> (6 &&& 31)) 60), .int (zlow (v >>> (4 &&& 31)) 90), .int ((1 : Int32) + (zlow (v >>> (9 &&& 31)) 900)), .int (zaO v), .int (zaI v), .ref (ad 0)]) M hw.2 zc_L_76 (c_L_low l base D cA (zW base D cA ad ty I L P) (v >>> (2 &&& 31)) 3000 (by decide)) hw.1 rfl rfl ⟨Nat.le_of_ble_eq_true rfl, Nat.le_of_ble_eq_true rfl⟩ ⟨Nat.le_of_ble_eq_true rfl, Nat.le_of_ble_eq_true rfl⟩ hl.1 (Nat.le_of_ble_eq_true rfl) dL_act_574) hw (fun H locs hw => ?_)
      refine z_cl (z_runH (As := [.ref (ad 0), .int (zaI v), .int (zaO v), .int ((1 : Int32) + (zlow (v >>> (9 &&& 31)) 900)), .int (zlow (v >>> (4 &&& 31)) 90), .int (zlow (v >>> (6 &&& 31)) 60), .int (zlow (v >>> (2 &&& 31)) 3000)]) (rest := []) M hN hw.2 zh_trader hM hw.1 rfl rfl ⟨Nat.le_of_ble_eq_true rfl, Nat.le_of_ble_eq_true rfl⟩ ⟨Nat.le_of_ble_eq_true rfl, Nat.le_of_ble_eq_true rfl⟩ hl.1 (Nat.le_of_ble_eq_true rfl) dL_act_577) hw.2 (fun H locs hw1 hS => ?_)
      exact z_lret hx hb hr rfl hS hw1 (Nat.le_of_ble_eq_true rfl) (Nat.le_of_ble_eq_true rfl) dL_act_580 hlocks
  have sw : ∀ (H : Heap) (locs : List Loc) (ls : Array Slot), zH base D cA s H locs ad ty I L P → lv_has ls 10 [(9, .int (zaM v)), (8, .int (zaT v)), (7, .int (zaH v)), (6, .int (zaS v)), (5, .int (zaC v)), (4, .int (zaO v)), (3, .int (zaI v)), (2, .int (zif v 1 0)), (0, .ref (ad 0)), (1, .int v)] → W p l e (zRm 10 183 13 84) s m #[Value.ref (ad 0), Value.int v] below meth c H locs 0 0 (MQ below (zQl base r (fun H => ∃ ad2, (∀ κ t, ty κ = some t → ad2 κ = ad κ) ∧ zW base D cA ad2 ty2 I2 L2 P2 H)) #[Value.ref (ad 0), Value.int v] s 13 84 (fun q => base ≤ q)) (F0 m 213 ls [.int (zlow v 30)]) := by
    intro H locs ls hw hl
    rcases hv with q | q
    · refine z_topi (y := 17) q ?_
      refine lv_tableIn (off := 293) (tgt := 506) hx hb dL_act_213 (by decide) (by decide) (by decide) (by decide) ?_
      exact body H locs ls hw hl
    · refine z_topi (y := 18) q ?_
      refine lv_tableIn (off := 293) (tgt := 506) hx hb dL_act_213 (by decide) (by decide) (by decide) (by decide) ?_
      exact body H locs ls hw hl
  rcases zodd_dec v with hod | hod
  · exact z_acth_p hod M hw hl sw
  · exact z_acth_n hod M hw hl sw
set_option maxHeartbeats 4000000 in
set_option maxRecDepth 100000 in
theorem ea_pass {n : Nat} {ty : zTyp} {I : zIt} {L : zLt} {P : zPt} (h : zLI n ty I L P) (hn : n ≤ 1900) (v : Int32) (hv : zlow v 30 = 19 ∨ zlow v 30 = 20 ∨ zlow v 30 = 21) : zEf (n + 1) ty I L P (fun l base D cA ad r W1 => zNl l base D cA yL_act cL_act 10 10 183 13 84 [.ref (ad 0), .int v] (zW base D cA ad ty I L P) r W1) := by
  obtain ⟨r, ty2, I2, L2, P2, h1, h2, h3⟩ := e_pass h hn (zif v (v >>> (9 &&& 31)) ((1 : Int32) + (zlow (v >>> (9 &&& 31)) 12)))
  refine ⟨r, ty2, I2, L2, P2, h1, h2, fun l base D cA ad hl0 => ?_⟩
  have hM := h3 l base D cA ad hl0
  refine z_nstart (by decide +kernel) (Nat.le_of_ble_eq_true rfl) fun p e s m below meth c ls M hP hS hl hr hlocks hN => ?_
  have M : zM p s m c cL_act RL 10 base D cA := M
  obtain ⟨hx, hb, -⟩ := id M
  have hl : lv_has ls 10 [(0, .ref (ad 0)), (1, .int v)] := hl
  have hw : zH base D cA s s.heap [] ad ty I L P := ⟨hP, hS⟩
  have body : ∀ (H : Heap) (locs : List Loc) (ls : Array Slot), zH base D cA s H locs ad ty I L P → lv_has ls 10 [(9, .int (zaM v)), (8, .int (zaT v)), (7, .int (zaH v)), (6, .int (zaS v)), (5, .int (zaC v)), (4, .int (zaO v)), (3, .int (zaI v)), (2, .int (zif v 1 0)), (0, .ref (ad 0)), (1, .int v)] → W p l e (zRm 10 183 13 84) s m #[Value.ref (ad 0), Value.int v] below meth c H locs 0 0 (MQ below (zQl base r (fun H => ∃ ad2, (∀ κ t, ty κ = some t → ad2 κ = ad κ) ∧ zW base D cA ad2 ty2 I2 L2 P2 H)) #[Value.ref (ad 0), Value.int v] s 13 84 (fun q => base ≤ q)) (F0 m 581 ls []) := by
    intro H locs ls hw hl
    rcases zodd_dec v with hod | hod
    · skip
      rw [zif_p hod] at hM
      refine lv_aload_n hx hb dL_act_581 rfl (lv_at hl 8 rfl) ?_
      refine lv_iload_n hx hb dL_act_582 rfl (lv_at hl 7 rfl) ?_
      refine z_topi (y := 1) (zif_p hod) ?_
      refine lv_if_eq (tgt := 593) hx hb dL_act_583 (by decide) (fun c1 => ?_) (fun c1 => ?_)
      · exact absurd c1 (by decide)
      refine lv_iload_n hx hb dL_act_586 rfl (lv_at hl 9 rfl) ?_
      refine lv_bipush (v := 9) hx hb dL_act_587 (by decide) ?_
      refine lv_ishr hx hb dL_act_589 ?_
      refine lv_goto (tgt := 604) hx hb dL_act_590 (by decide) ?_
      refine z_cl (z_runH (As := [.ref (ad 0), .int (v >>> (9 &&& 31))]) (rest := []) M hN hw.2 zh_pass hM hw.1 rfl rfl ⟨Nat.le_of_ble_eq_true rfl, Nat.le_of_ble_eq_true rfl⟩ ⟨Nat.le_of_ble_eq_true rfl, Nat.le_of_ble_eq_true rfl⟩ hl.1 (Nat.le_of_ble_eq_true rfl) dL_act_604) hw.2 (fun H locs hw1 hS => ?_)
      exact z_lret hx hb hr rfl hS hw1 (Nat.le_of_ble_eq_true rfl) (Nat.le_of_ble_eq_true rfl) dL_act_607 hlocks
    · skip
      rw [zif_n hod] at hM
      refine lv_aload_n hx hb dL_act_581 rfl (lv_at hl 8 rfl) ?_
      refine lv_iload_n hx hb dL_act_582 rfl (lv_at hl 7 rfl) ?_
      refine z_topi (y := 0) (zif_n hod) ?_
      refine lv_if_eq (tgt := 593) hx hb dL_act_583 (by decide) (fun c1 => ?_) (fun c1 => ?_)
      rotate_left
      · exact absurd c1 (by decide)
      refine lv_iconst (v := 1) hx hb dL_act_593 (by decide) ?_
      refine lv_iload_n hx hb dL_act_594 rfl (lv_at hl 9 rfl) ?_
      refine lv_bipush (v := 9) hx hb dL_act_595 (by decide) ?_
      refine lv_ishr hx hb dL_act_597 ?_
      refine lv_bipush (v := 12) hx hb dL_act_598 (by decide) ?_
      refine z_ci0 (z_runS (As := [.int (v >>> (9 &&& 31)), .int 12]) (rest := [.int 1, .ref (ad 0)]) M hw.2 zc_L_76 (c_L_low l base D cA (zW base D cA ad ty I L P) (v >>> (9 &&& 31)) 12 (by decide)) hw.1 rfl rfl ⟨Nat.le_of_ble_eq_true rfl, Nat.le_of_ble_eq_true rfl⟩ ⟨Nat.le_of_ble_eq_true rfl, Nat.le_of_ble_eq_true rfl⟩ hl.1 (Nat.le_of_ble_eq_true rfl) dL_act_600) hw (fun H locs hw => ?_)
      refine lv_iadd hx hb dL_act_603 ?_
      refine z_cl (z_runH (As := [.ref (ad 0), .int ((1 : Int32) + (zlow (v >>> (9 &&& 31)) 12))]) (rest := []) M hN hw.2 zh_pass hM hw.1 rfl rfl ⟨Nat.le_of_ble_eq_true rfl, Nat.le_of_ble_eq_true rfl⟩ ⟨Nat.le_of_ble_eq_true rfl, Nat.le_of_ble_eq_true rfl⟩ hl.1 (Nat.le_of_ble_eq_true rfl) dL_act_604) hw.2 (fun H locs hw1 hS => ?_)
      exact z_lret hx hb hr rfl hS hw1 (Nat.le_of_ble_eq_true rfl) (Nat.le_of_ble_eq_true rfl) dL_act_607 hlocks
  have sw : ∀ (H : Heap) (locs : List Loc) (ls : Array Slot), zH base D cA s H locs ad ty I L P → lv_has ls 10 [(9, .int (zaM v)), (8, .int (zaT v)), (7, .int (zaH v)), (6, .int (zaS v)), (5, .int (zaC v)), (4, .int (zaO v)), (3, .int (zaI v)), (2, .int (zif v 1 0)), (0, .ref (ad 0)), (1, .int v)] → W p l e (zRm 10 183 13 84) s m #[Value.ref (ad 0), Value.int v] below meth c H locs 0 0 (MQ below (zQl base r (fun H => ∃ ad2, (∀ κ t, ty κ = some t → ad2 κ = ad κ) ∧ zW base D cA ad2 ty2 I2 L2 P2 H)) #[Value.ref (ad 0), Value.int v] s 13 84 (fun q => base ≤ q)) (F0 m 213 ls [.int (zlow v 30)]) := by
    intro H locs ls hw hl
    rcases hv with q | q | q
    · refine z_topi (y := 19) q ?_
      refine lv_tableIn (off := 368) (tgt := 581) hx hb dL_act_213 (by decide) (by decide) (by decide) (by decide) ?_
      exact body H locs ls hw hl
    · refine z_topi (y := 20) q ?_
      refine lv_tableIn (off := 368) (tgt := 581) hx hb dL_act_213 (by decide) (by decide) (by decide) (by decide) ?_
      exact body H locs ls hw hl
    · refine z_topi (y := 21) q ?_
      refine lv_tableIn (off := 368) (tgt := 581) hx hb dL_act_213 (by decide) (by decide) (by decide) (by decide) ?_
      exact body H locs ls hw hl
  rcases zodd_dec v with hod | hod
  · exact z_acth_p hod M hw hl sw
  · exact z_acth_n hod M hw hl sw
set_option maxHeartbeats 4000000 in
set_option maxRecDepth 100000 in
theorem ea_works {n : Nat} {ty : zTyp} {I : zIt} {L : zLt} {P : zPt} (h : zLI n ty I L P) (hn : n ≤ 1900) (v : Int32) (hv : zlow v 30 = 22) : zEf (n + 1) ty I L P (fun l base D cA ad r W1 => zNl l base D cA yL_act cL_act 10 10 183 13 84 [.ref (ad 0), .int v] (zW base D cA ad ty I L P) r W1) := by
  obtain ⟨r, ty2, I2, L2, P2, h1, h2, h3⟩ := e_works h (zaC v)
  refine ⟨r, ty2, I2, L2, P2, zLI_mono (Nat.le_succ n) h1, h2, fun l base D cA ad hl0 => ?_⟩
  have hM := h3 l base D cA ad hl0
  refine z_nstart (by decide +kernel) (Nat.le_of_ble_eq_true rfl) fun p e s m below meth c ls M hP hS hl hr hlocks hN => ?_
  have M : zM p s m c cL_act RL 10 base D cA := M
  obtain ⟨hx, hb, -⟩ := id M
  have hl : lv_has ls 10 [(0, .ref (ad 0)), (1, .int v)] := hl
  have hw : zH base D cA s s.heap [] ad ty I L P := ⟨hP, hS⟩
  have body : ∀ (H : Heap) (locs : List Loc) (ls : Array Slot), zH base D cA s H locs ad ty I L P → lv_has ls 10 [(9, .int (zaM v)), (8, .int (zaT v)), (7, .int (zaH v)), (6, .int (zaS v)), (5, .int (zaC v)), (4, .int (zaO v)), (3, .int (zaI v)), (2, .int (zif v 1 0)), (0, .ref (ad 0)), (1, .int v)] → W p l e (zRm 10 183 13 84) s m #[Value.ref (ad 0), Value.int v] below meth c H locs 0 0 (MQ below (zQl base r (fun H => ∃ ad2, (∀ κ t, ty κ = some t → ad2 κ = ad κ) ∧ zW base D cA ad2 ty2 I2 L2 P2 H)) #[Value.ref (ad 0), Value.int v] s 13 84 (fun q => base ≤ q)) (F0 m 608 ls []) := by
    intro H locs ls hw hl
    refine lv_aload_n hx hb dL_act_608 rfl (lv_at hl 8 rfl) ?_
    refine lv_iload hx hb dL_act_609 (lv_at hl 4 rfl) ?_
    refine z_cl (z_runH (As := [.ref (ad 0), .int (zaC v)]) (rest := []) M hN hw.2 zh_works hM hw.1 rfl rfl ⟨Nat.le_of_ble_eq_true rfl, Nat.le_of_ble_eq_true rfl⟩ ⟨Nat.le_of_ble_eq_true rfl, Nat.le_of_ble_eq_true rfl⟩ hl.1 (Nat.le_of_ble_eq_true rfl) dL_act_611) hw.2 (fun H locs hw1 hS => ?_)
    exact z_lret hx hb hr rfl hS hw1 (Nat.le_of_ble_eq_true rfl) (Nat.le_of_ble_eq_true rfl) dL_act_614 hlocks
  have sw : ∀ (H : Heap) (locs : List Loc) (ls : Array Slot), zH base D cA s H locs ad ty I L P → lv_has ls 10 [(9, .int (zaM v)), (8, .int (zaT v)), (7, .int (zaH v)), (6, .int (zaS v)), (5, .int (zaC v)), (4, .int (zaO v)), (3, .int (zaI v)), (2, .int (zif v 1 0)), (0, .ref (ad 0)), (1, .int v)] → W p l e (zRm 10 183 13 84) s m #[Value.ref (ad 0), Value.int v] below meth c H locs 0 0 (MQ below (zQl base r (fun H => ∃ ad2, (∀ κ t, ty κ = some t → ad2 κ = ad κ) ∧ zW base D cA ad2 ty2 I2 L2 P2 H)) #[Value.ref (ad 0), Value.int v] s 13 84 (fun q => base ≤ q)) (F0 m 213 ls [.int (zlow v 30)]) := by
    intro H locs ls hw hl
    have q := hv
    · refine z_topi (y := 22) q ?_
      refine lv_tableIn (off := 395) (tgt := 608) hx hb dL_act_213 (by decide) (by decide) (by decide) (by decide) ?_
      exact body H locs ls hw hl
  rcases zodd_dec v with hod | hod
  · exact z_acth_p hod M hw hl sw
  · exact z_acth_n hod M hw hl sw
set_option maxHeartbeats 4000000 in
set_option maxRecDepth 100000 in
theorem ea_faultAt {n : Nat} {ty : zTyp} {I : zIt} {L : zLt} {P : zPt} (h : zLI n ty I L P) (hn : n ≤ 1900) (v : Int32) (hv : zlow v 30 = 23) : zEf (n + 1) ty I L P (fun l base D cA ad r W1 => zNl l base D cA yL_act cL_act 10 10 183 13 84 [.ref (ad 0), .int v] (zW base D cA ad ty I L P) r W1) := by
  obtain ⟨r, ty2, I2, L2, P2, h1, h2, h3⟩ := e_faultAt h (zif v ((zaM v) - 9) (zlow (v >>> (9 &&& 31)) 6))
  refine ⟨r, ty2, I2, L2, P2, zLI_mono (Nat.le_succ n) h1, h2, fun l base D cA ad hl0 => ?_⟩
  have hM := h3 l base D cA ad hl0
  refine z_nstart (by decide +kernel) (Nat.le_of_ble_eq_true rfl) fun p e s m below meth c ls M hP hS hl hr hlocks hN => ?_
  have M : zM p s m c cL_act RL 10 base D cA := M
  obtain ⟨hx, hb, -⟩ := id M
  have hl : lv_has ls 10 [(0, .ref (ad 0)), (1, .int v)] := hl
  have hw : zH base D cA s s.heap [] ad ty I L P := ⟨hP, hS⟩
  have body : ∀ (H : Heap) (locs : List Loc) (ls : Array Slot), zH base D cA s H locs ad ty I L P → lv_has ls 10 [(9, .int (zaM v)), (8, .int (zaT v)), (7, .int (zaH v)), (6, .int (zaS v)), (5, .int (zaC v)), (4, .int (zaO v)), (3, .int (zaI v)), (2, .int (zif v 1 0)), (0, .ref (ad 0)), (1, .int v)] → W p l e (zRm 10 183 13 84) s m #[Value.ref (ad 0), Value.int v] below meth c H locs 0 0 (MQ below (zQl base r (fun H => ∃ ad2, (∀ κ t, ty κ = some t → ad2 κ = ad κ) ∧ zW base D cA ad2 ty2 I2 L2 P2 H)) #[Value.ref (ad 0), Value.int v] s 13 84 (fun q => base ≤ q)) (F0 m 615 ls []) := by
    intro H locs ls hw hl
    rcases zodd_dec v with hod | hod
    · skip
      rw [zif_p hod] at hM
      refine lv_aload_n hx hb dL_act_615 rfl (lv_at hl 8 rfl) ?_
      refine lv_iload_n hx hb dL_act_616 rfl (lv_at hl 7 rfl) ?_
      refine z_topi (y := 1) (zif_p hod) ?_
      refine lv_if_eq (tgt := 628) hx hb dL_act_617 (by decide) (fun c1 => ?_) (fun c1 => ?_)
      · exact absurd c1 (by decide)
      refine lv_iload hx hb dL_act_620 (lv_at hl 0 rfl) ?_
      refine lv_bipush (v := 9) hx hb dL_act_622 (by decide) ?_
      refine lv_isub hx hb dL_act_624 ?_
      refine lv_goto (tgt := 637) hx hb dL_act_625 (by decide) ?_
      refine z_cl (z_runH (As := [.ref (ad 0), .int ((zaM v) - 9)]) (rest := []) M hN hw.2 zh_faultAt hM hw.1 rfl rfl ⟨Nat.le_of_ble_eq_true rfl, Nat.le_of_ble_eq_true rfl⟩ ⟨Nat.le_of_ble_eq_true rfl, Nat.le_of_ble_eq_true rfl⟩ hl.1 (Nat.le_of_ble_eq_true rfl) dL_act_637) hw.2 (fun H locs hw1 hS => ?_)
      exact z_lret hx hb hr rfl hS hw1 (Nat.le_of_ble_eq_true rfl) (Nat.le_of_ble_eq_true rfl) dL_act_640 hlocks
    · skip
      rw [zif_n hod] at hM
      refine lv_aload_n hx hb dL_act_615 rfl (lv_at hl 8 rfl) ?_
      refine lv_iload_n hx hb dL_act_616 rfl (lv_at hl 7 rfl) ?_
      refine z_topi (y := 0) (zif_n hod) ?_
      refine lv_if_eq (tgt := 628) hx hb dL_act_617 (by decide) (fun c1 => ?_) (fun c1 => ?_)
      rotate_left
      · exact absurd c1 (by decide)
      refine lv_iload_n hx hb dL_act_628 rfl (lv_at hl 9 rfl) ?_
      refine lv_bipush (v := 9) hx hb dL_act_629 (by decide) ?_
      refine lv_ishr hx hb dL_act_631 ?_
      refine lv_bipush (v := 6) hx hb dL_act_632 (by decide) ?_
      refine z_ci0 (z_runS (As := [.int (v >>> (9 &&& 31)), .int 6]) (rest := [.ref (ad 0)]) M hw.2 zc_L_76 (c_L_low l base D cA (zW base D cA ad ty I L P) (v >>> (9 &&& 31)) 6 (by decide)) hw.1 rfl rfl ⟨Nat.le_of_ble_eq_true rfl, Nat.le_of_ble_eq_true rfl⟩ ⟨Nat.le_of_ble_eq_true rfl, Nat.le_of_ble_eq_true rfl⟩ hl.1 (Nat.le_of_ble_eq_true rfl) dL_act_634) hw (fun H locs hw => ?_)
      refine z_cl (z_runH (As := [.ref (ad 0), .int (zlow (v >>> (9 &&& 31)) 6)]) (rest := []) M hN hw.2 zh_faultAt hM hw.1 rfl rfl ⟨Nat.le_of_ble_eq_true rfl, Nat.le_of_ble_eq_true rfl⟩ ⟨Nat.le_of_ble_eq_true rfl, Nat.le_of_ble_eq_true rfl⟩ hl.1 (Nat.le_of_ble_eq_true rfl) dL_act_637) hw.2 (fun H locs hw1 hS => ?_)
      exact z_lret hx hb hr rfl hS hw1 (Nat.le_of_ble_eq_true rfl) (Nat.le_of_ble_eq_true rfl) dL_act_640 hlocks
  have sw : ∀ (H : Heap) (locs : List Loc) (ls : Array Slot), zH base D cA s H locs ad ty I L P → lv_has ls 10 [(9, .int (zaM v)), (8, .int (zaT v)), (7, .int (zaH v)), (6, .int (zaS v)), (5, .int (zaC v)), (4, .int (zaO v)), (3, .int (zaI v)), (2, .int (zif v 1 0)), (0, .ref (ad 0)), (1, .int v)] → W p l e (zRm 10 183 13 84) s m #[Value.ref (ad 0), Value.int v] below meth c H locs 0 0 (MQ below (zQl base r (fun H => ∃ ad2, (∀ κ t, ty κ = some t → ad2 κ = ad κ) ∧ zW base D cA ad2 ty2 I2 L2 P2 H)) #[Value.ref (ad 0), Value.int v] s 13 84 (fun q => base ≤ q)) (F0 m 213 ls [.int (zlow v 30)]) := by
    intro H locs ls hw hl
    have q := hv
    · refine z_topi (y := 23) q ?_
      refine lv_tableIn (off := 402) (tgt := 615) hx hb dL_act_213 (by decide) (by decide) (by decide) (by decide) ?_
      exact body H locs ls hw hl
  rcases zodd_dec v with hod | hod
  · exact z_acth_p hod M hw hl sw
  · exact z_acth_n hod M hw hl sw
set_option maxHeartbeats 4000000 in
set_option maxRecDepth 100000 in
theorem ea_shipOf {n : Nat} {ty : zTyp} {I : zIt} {L : zLt} {P : zPt} (h : zLI n ty I L P) (hn : n ≤ 1900) (v : Int32) (hv : zlow v 30 = 24) : zEf (n + 1) ty I L P (fun l base D cA ad r W1 => zNl l base D cA yL_act cL_act 10 10 183 13 84 [.ref (ad 0), .int v] (zW base D cA ad ty I L P) r W1) := by
  obtain ⟨r, ty2, I2, L2, P2, h1, h2, h3⟩ := e_shipOf h (zaH v) (zif v (zaM v) (zlow (v >>> (9 &&& 31)) 5))
  refine ⟨r, ty2, I2, L2, P2, zLI_mono (Nat.le_succ n) h1, h2, fun l base D cA ad hl0 => ?_⟩
  have hM := h3 l base D cA ad hl0
  refine z_nstart (by decide +kernel) (Nat.le_of_ble_eq_true rfl) fun p e s m below meth c ls M hP hS hl hr hlocks hN => ?_
  have M : zM p s m c cL_act RL 10 base D cA := M
  obtain ⟨hx, hb, -⟩ := id M
  have hl : lv_has ls 10 [(0, .ref (ad 0)), (1, .int v)] := hl
  have hw : zH base D cA s s.heap [] ad ty I L P := ⟨hP, hS⟩
  have body : ∀ (H : Heap) (locs : List Loc) (ls : Array Slot), zH base D cA s H locs ad ty I L P → lv_has ls 10 [(9, .int (zaM v)), (8, .int (zaT v)), (7, .int (zaH v)), (6, .int (zaS v)), (5, .int (zaC v)), (4, .int (zaO v)), (3, .int (zaI v)), (2, .int (zif v 1 0)), (0, .ref (ad 0)), (1, .int v)] → W p l e (zRm 10 183 13 84) s m #[Value.ref (ad 0), Value.int v] below meth c H locs 0 0 (MQ below (zQl base r (fun H => ∃ ad2, (∀ κ t, ty κ = some t → ad2 κ = ad κ) ∧ zW base D cA ad2 ty2 I2 L2 P2 H)) #[Value.ref (ad 0), Value.int v] s 13 84 (fun q => base ≤ q)) (F0 m 641 ls []) := by
    intro H locs ls hw hl
    rcases zodd_dec v with hod | hod
    · skip
      rw [zif_p hod] at hM
      refine lv_aload_n hx hb dL_act_641 rfl (lv_at hl 8 rfl) ?_
      refine lv_iload hx hb dL_act_642 (lv_at hl 2 rfl) ?_
      refine lv_iload_n hx hb dL_act_644 rfl (lv_at hl 7 rfl) ?_
      refine z_topi (y := 1) (zif_p hod) ?_
      refine lv_if_eq (tgt := 653) hx hb dL_act_645 (by decide) (fun c1 => ?_) (fun c1 => ?_)
      · exact absurd c1 (by decide)
      refine lv_iload hx hb dL_act_648 (lv_at hl 0 rfl) ?_
      refine lv_goto (tgt := 661) hx hb dL_act_650 (by decide) ?_
      refine z_cl (z_runH (As := [.ref (ad 0), .int (zaH v), .int (zaM v)]) (rest := []) M hN hw.2 zh_shipOf hM hw.1 rfl rfl ⟨Nat.le_of_ble_eq_true rfl, Nat.le_of_ble_eq_true rfl⟩ ⟨Nat.le_of_ble_eq_true rfl, Nat.le_of_ble_eq_true rfl⟩ hl.1 (Nat.le_of_ble_eq_true rfl) dL_act_661) hw.2 (fun H locs hw1 hS => ?_)
      exact z_lret hx hb hr rfl hS hw1 (Nat.le_of_ble_eq_true rfl) (Nat.le_of_ble_eq_true rfl) dL_act_664 hlocks
    · skip
      rw [zif_n hod] at hM
      refine lv_aload_n hx hb dL_act_641 rfl (lv_at hl 8 rfl) ?_
      refine lv_iload hx hb dL_act_642 (lv_at hl 2 rfl) ?_
      refine lv_iload_n hx hb dL_act_644 rfl (lv_at hl 7 rfl) ?_
      refine z_topi (y := 0) (zif_n hod) ?_
      refine lv_if_eq (tgt := 653) hx hb dL_act_645 (by decide) (fun c1 => ?_) (fun c1 => ?_)
      rotate_left
      · exact absurd c1 (by decide)
      refine lv_iload_n hx hb dL_act_653 rfl (lv_at hl 9 rfl) ?_
      refine lv_bipush (v := 9) hx hb dL_act_654 (by decide) ?_
      refine lv_ishr hx hb dL_act_656 ?_
      refine lv_iconst (v := 5) hx hb dL_act_657 (by decide) ?_
      refine z_ci0 (z_runS (As := [.int (v >>> (9 &&& 31)), .int 5]) (rest := [.int (zaH v), .ref (ad 0)]) M hw.2 zc_L_76 (c_L_low l base D cA (zW base D cA ad ty I L P) (v >>> (9 &&& 31)) 5 (by decide)) hw.1 rfl rfl ⟨Nat.le_of_ble_eq_true rfl, Nat.le_of_ble_eq_true rfl⟩ ⟨Nat.le_of_ble_eq_true rfl, Nat.le_of_ble_eq_true rfl⟩ hl.1 (Nat.le_of_ble_eq_true rfl) dL_act_658) hw (fun H locs hw => ?_)
      refine z_cl (z_runH (As := [.ref (ad 0), .int (zaH v), .int (zlow (v >>> (9 &&& 31)) 5)]) (rest := []) M hN hw.2 zh_shipOf hM hw.1 rfl rfl ⟨Nat.le_of_ble_eq_true rfl, Nat.le_of_ble_eq_true rfl⟩ ⟨Nat.le_of_ble_eq_true rfl, Nat.le_of_ble_eq_true rfl⟩ hl.1 (Nat.le_of_ble_eq_true rfl) dL_act_661) hw.2 (fun H locs hw1 hS => ?_)
      exact z_lret hx hb hr rfl hS hw1 (Nat.le_of_ble_eq_true rfl) (Nat.le_of_ble_eq_true rfl) dL_act_664 hlocks
  have sw : ∀ (H : Heap) (locs : List Loc) (ls : Array Slot), zH base D cA s H locs ad ty I L P → lv_has ls 10 [(9, .int (zaM v)), (8, .int (zaT v)), (7, .int (zaH v)), (6, .int (zaS v)), (5, .int (zaC v)), (4, .int (zaO v)), (3, .int (zaI v)), (2, .int (zif v 1 0)), (0, .ref (ad 0)), (1, .int v)] → W p l e (zRm 10 183 13 84) s m #[Value.ref (ad 0), Value.int v] below meth c H locs 0 0 (MQ below (zQl base r (fun H => ∃ ad2, (∀ κ t, ty κ = some t → ad2 κ = ad κ) ∧ zW base D cA ad2 ty2 I2 L2 P2 H)) #[Value.ref (ad 0), Value.int v] s 13 84 (fun q => base ≤ q)) (F0 m 213 ls [.int (zlow v 30)]) := by
    intro H locs ls hw hl
    have q := hv
    · refine z_topi (y := 24) q ?_
      refine lv_tableIn (off := 428) (tgt := 641) hx hb dL_act_213 (by decide) (by decide) (by decide) (by decide) ?_
      exact body H locs ls hw hl
  rcases zodd_dec v with hod | hod
  · exact z_acth_p hod M hw hl sw
  · exact z_acth_n hod M hw hl sw
set_option maxHeartbeats 4000000 in
set_option maxRecDepth 100000 in
theorem ea_way {n : Nat} {ty : zTyp} {I : zIt} {L : zLt} {P : zPt} (h : zLI n ty I L P) (hn : n ≤ 1900) (v : Int32) (hv : zlow v 30 = 25) : zEf (n + 1) ty I L P (fun l base D cA ad r W1 => zNl l base D cA yL_act cL_act 10 10 183 13 84 [.ref (ad 0), .int v] (zW base D cA ad ty I L P) r W1) := by
  obtain ⟨r, ty2, I2, L2, P2, h1, h2, h3⟩ := e_way h (zaT v) (zif v ((zaM v) - 9) (zlow (v >>> (9 &&& 31)) 4))
  refine ⟨r, ty2, I2, L2, P2, zLI_mono (Nat.le_succ n) h1, h2, fun l base D cA ad hl0 => ?_⟩
  have hM := h3 l base D cA ad hl0
  refine z_nstart (by decide +kernel) (Nat.le_of_ble_eq_true rfl) fun p e s m below meth c ls M hP hS hl hr hlocks hN => ?_
  have M : zM p s m c cL_act RL 10 base D cA := M
  obtain ⟨hx, hb, -⟩ := id M
  have hl : lv_has ls 10 [(0, .ref (ad 0)), (1, .int v)] := hl
  have hw : zH base D cA s s.heap [] ad ty I L P := ⟨hP, hS⟩
  have body : ∀ (H : Heap) (locs : List Loc) (ls : Array Slot), zH base D cA s H locs ad ty I L P → lv_has ls 10 [(9, .int (zaM v)), (8, .int (zaT v)), (7, .int (zaH v)), (6, .int (zaS v)), (5, .int (zaC v)), (4, .int (zaO v)), (3, .int (zaI v)), (2, .int (zif v 1 0)), (0, .ref (ad 0)), (1, .int v)] → W p l e (zRm 10 183 13 84) s m #[Value.ref (ad 0), Value.int v] below meth c H locs 0 0 (MQ below (zQl base r (fun H => ∃ ad2, (∀ κ t, ty κ = some t → ad2 κ = ad κ) ∧ zW base D cA ad2 ty2 I2 L2 P2 H)) #[Value.ref (ad 0), Value.int v] s 13 84 (fun q => base ≤ q)) (F0 m 665 ls []) := by
    intro H locs ls hw hl
    rcases zodd_dec v with hod | hod
    · skip
      rw [zif_p hod] at hM
      refine lv_aload_n hx hb dL_act_665 rfl (lv_at hl 8 rfl) ?_
      refine lv_iload hx hb dL_act_666 (lv_at hl 1 rfl) ?_
      refine lv_iload_n hx hb dL_act_668 rfl (lv_at hl 7 rfl) ?_
      refine z_topi (y := 1) (zif_p hod) ?_
      refine lv_if_eq (tgt := 680) hx hb dL_act_669 (by decide) (fun c1 => ?_) (fun c1 => ?_)
      · exact absurd c1 (by decide)
      refine lv_iload hx hb dL_act_672 (lv_at hl 0 rfl) ?_
      refine lv_bipush (v := 9) hx hb dL_act_674 (by decide) ?_
      refine lv_isub hx hb dL_act_676 ?_
      refine lv_goto (tgt := 688) hx hb dL_act_677 (by decide) ?_
      refine z_cl (z_runH (As := [.ref (ad 0), .int (zaT v), .int ((zaM v) - 9)]) (rest := []) M hN hw.2 zh_way hM hw.1 rfl rfl ⟨Nat.le_of_ble_eq_true rfl, Nat.le_of_ble_eq_true rfl⟩ ⟨Nat.le_of_ble_eq_true rfl, Nat.le_of_ble_eq_true rfl⟩ hl.1 (Nat.le_of_ble_eq_true rfl) dL_act_688) hw.2 (fun H locs hw1 hS => ?_)
      exact z_lret hx hb hr rfl hS hw1 (Nat.le_of_ble_eq_true rfl) (Nat.le_of_ble_eq_true rfl) dL_act_691 hlocks
    · skip
      rw [zif_n hod] at hM
      refine lv_aload_n hx hb dL_act_665 rfl (lv_at hl 8 rfl) ?_
      refine lv_iload hx hb dL_act_666 (lv_at hl 1 rfl) ?_
      refine lv_iload_n hx hb dL_act_668 rfl (lv_at hl 7 rfl) ?_
      refine z_topi (y := 0) (zif_n hod) ?_
      refine lv_if_eq (tgt := 680) hx hb dL_act_669 (by decide) (fun c1 => ?_) (fun c1 => ?_)
      rotate_left
      · exact absurd c1 (by decide)
      refine lv_iload_n hx hb dL_act_680 rfl (lv_at hl 9 rfl) ?_
      refine lv_bipush (v := 9) hx hb dL_act_681 (by decide) ?_
      refine lv_ishr hx hb dL_act_683 ?_
      refine lv_iconst (v := 4) hx hb dL_act_684 (by decide) ?_
      refine z_ci0 (z_runS (As := [.int (v >>> (9 &&& 31)), .int 4]) (rest := [.int (zaT v), .ref (ad 0)]) M hw.2 zc_L_76 (c_L_low l base D cA (zW base D cA ad ty I L P) (v >>> (9 &&& 31)) 4 (by decide)) hw.1 rfl rfl ⟨Nat.le_of_ble_eq_true rfl, Nat.le_of_ble_eq_true rfl⟩ ⟨Nat.le_of_ble_eq_true rfl, Nat.le_of_ble_eq_true rfl⟩ hl.1 (Nat.le_of_ble_eq_true rfl) dL_act_685) hw (fun H locs hw => ?_)
      refine z_cl (z_runH (As := [.ref (ad 0), .int (zaT v), .int (zlow (v >>> (9 &&& 31)) 4)]) (rest := []) M hN hw.2 zh_way hM hw.1 rfl rfl ⟨Nat.le_of_ble_eq_true rfl, Nat.le_of_ble_eq_true rfl⟩ ⟨Nat.le_of_ble_eq_true rfl, Nat.le_of_ble_eq_true rfl⟩ hl.1 (Nat.le_of_ble_eq_true rfl) dL_act_688) hw.2 (fun H locs hw1 hS => ?_)
      exact z_lret hx hb hr rfl hS hw1 (Nat.le_of_ble_eq_true rfl) (Nat.le_of_ble_eq_true rfl) dL_act_691 hlocks
  have sw : ∀ (H : Heap) (locs : List Loc) (ls : Array Slot), zH base D cA s H locs ad ty I L P → lv_has ls 10 [(9, .int (zaM v)), (8, .int (zaT v)), (7, .int (zaH v)), (6, .int (zaS v)), (5, .int (zaC v)), (4, .int (zaO v)), (3, .int (zaI v)), (2, .int (zif v 1 0)), (0, .ref (ad 0)), (1, .int v)] → W p l e (zRm 10 183 13 84) s m #[Value.ref (ad 0), Value.int v] below meth c H locs 0 0 (MQ below (zQl base r (fun H => ∃ ad2, (∀ κ t, ty κ = some t → ad2 κ = ad κ) ∧ zW base D cA ad2 ty2 I2 L2 P2 H)) #[Value.ref (ad 0), Value.int v] s 13 84 (fun q => base ≤ q)) (F0 m 213 ls [.int (zlow v 30)]) := by
    intro H locs ls hw hl
    have q := hv
    · refine z_topi (y := 25) q ?_
      refine lv_tableIn (off := 452) (tgt := 665) hx hb dL_act_213 (by decide) (by decide) (by decide) (by decide) ?_
      exact body H locs ls hw hl
  rcases zodd_dec v with hod | hod
  · exact z_acth_p hod M hw hl sw
  · exact z_acth_n hod M hw hl sw
set_option maxHeartbeats 4000000 in
set_option maxRecDepth 100000 in
theorem ea_sum {n : Nat} {ty : zTyp} {I : zIt} {L : zLt} {P : zPt} (h : zLI n ty I L P) (hn : n ≤ 1900) (v : Int32) (hv : zlow v 30 = 26) : zEf (n + 1) ty I L P (fun l base D cA ad r W1 => zNl l base D cA yL_act cL_act 10 10 183 13 84 [.ref (ad 0), .int v] (zW base D cA ad ty I L P) r W1) := by
  obtain ⟨r, ty2, I2, L2, P2, h1, h2, h3⟩ := e_sum h (zaT v) (zif v (zaM v) (zlow (v >>> (9 &&& 31)) 3))
  refine ⟨r, ty2, I2, L2, P2, zLI_mono (Nat.le_succ n) h1, h2, fun l base D cA ad hl0 => ?_⟩
  have hM := h3 l base D cA ad hl0
  refine z_nstart (by decide +kernel) (Nat.le_of_ble_eq_true rfl) fun p e s m below meth c ls M hP hS hl hr hlocks hN => ?_
  have M : zM p s m c cL_act RL 10 base D cA := M
  obtain ⟨hx, hb, -⟩ := id M
  have hl : lv_has ls 10 [(0, .ref (ad 0)), (1, .int v)] := hl
  have hw : zH base D cA s s.heap [] ad ty I L P := ⟨hP, hS⟩
  have body : ∀ (H : Heap) (locs : List Loc) (ls : Array Slot), zH base D cA s H locs ad ty I L P → lv_has ls 10 [(9, .int (zaM v)), (8, .int (zaT v)), (7, .int (zaH v)), (6, .int (zaS v)), (5, .int (zaC v)), (4, .int (zaO v)), (3, .int (zaI v)), (2, .int (zif v 1 0)), (0, .ref (ad 0)), (1, .int v)] → W p l e (zRm 10 183 13 84) s m #[Value.ref (ad 0), Value.int v] below meth c H locs 0 0 (MQ below (zQl base r (fun H => ∃ ad2, (∀ κ t, ty κ = some t → ad2 κ = ad κ) ∧ zW base D cA ad2 ty2 I2 L2 P2 H)) #[Value.ref (ad 0), Value.int v] s 13 84 (fun q => base ≤ q)) (F0 m 692 ls []) := by
    intro H locs ls hw hl
    rcases zodd_dec v with hod | hod
    · skip
      rw [zif_p hod] at hM
      refine lv_aload_n hx hb dL_act_692 rfl (lv_at hl 8 rfl) ?_
      refine lv_iload hx hb dL_act_693 (lv_at hl 1 rfl) ?_
      refine lv_iload_n hx hb dL_act_695 rfl (lv_at hl 7 rfl) ?_
      refine z_topi (y := 1) (zif_p hod) ?_
      refine lv_if_eq (tgt := 704) hx hb dL_act_696 (by decide) (fun c1 => ?_) (fun c1 => ?_)
      · exact absurd c1 (by decide)
      refine lv_iload hx hb dL_act_699 (lv_at hl 0 rfl) ?_
      refine lv_goto (tgt := 712) hx hb dL_act_701 (by decide) ?_
      refine z_cl (z_runH (As := [.ref (ad 0), .int (zaT v), .int (zaM v)]) (rest := []) M hN hw.2 zh_sum hM hw.1 rfl rfl ⟨Nat.le_of_ble_eq_true rfl, Nat.le_of_ble_eq_true rfl⟩ ⟨Nat.le_of_ble_eq_true rfl, Nat.le_of_ble_eq_true rfl⟩ hl.1 (Nat.le_of_ble_eq_true rfl) dL_act_712) hw.2 (fun H locs hw1 hS => ?_)
      exact z_lret hx hb hr rfl hS hw1 (Nat.le_of_ble_eq_true rfl) (Nat.le_of_ble_eq_true rfl) dL_act_715 hlocks
    · skip
      rw [zif_n hod] at hM
      refine lv_aload_n hx hb dL_act_692 rfl (lv_at hl 8 rfl) ?_
      refine lv_iload hx hb dL_act_693 (lv_at hl 1 rfl) ?_
      refine lv_iload_n hx hb dL_act_695 rfl (lv_at hl 7 rfl) ?_
      refine z_topi (y := 0) (zif_n hod) ?_
      refine lv_if_eq (tgt := 704) hx hb dL_act_696 (by decide) (fun c1 => ?_) (fun c1 => ?_)
      rotate_left
      · exact absurd c1 (by decide)
      refine lv_iload_n hx hb dL_act_704 rfl (lv_at hl 9 rfl) ?_
      refine lv_bipush (v := 9) hx hb dL_act_705 (by decide) ?_
      refine lv_ishr hx hb dL_act_707 ?_
      refine lv_iconst (v := 3) hx hb dL_act_708 (by decide) ?_
      refine z_ci0 (z_runS (As := [.int (v >>> (9 &&& 31)), .int 3]) (rest := [.int (zaT v), .ref (ad 0)]) M hw.2 zc_L_76 (c_L_low l base D cA (zW base D cA ad ty I L P) (v >>> (9 &&& 31)) 3 (by decide)) hw.1 rfl rfl ⟨Nat.le_of_ble_eq_true rfl, Nat.le_of_ble_eq_true rfl⟩ ⟨Nat.le_of_ble_eq_true rfl, Nat.le_of_ble_eq_true rfl⟩ hl.1 (Nat.le_of_ble_eq_true rfl) dL_act_709) hw (fun H locs hw => ?_)
      refine z_cl (z_runH (As := [.ref (ad 0), .int (zaT v), .int (zlow (v >>> (9 &&& 31)) 3)]) (rest := []) M hN hw.2 zh_sum hM hw.1 rfl rfl ⟨Nat.le_of_ble_eq_true rfl, Nat.le_of_ble_eq_true rfl⟩ ⟨Nat.le_of_ble_eq_true rfl, Nat.le_of_ble_eq_true rfl⟩ hl.1 (Nat.le_of_ble_eq_true rfl) dL_act_712) hw.2 (fun H locs hw1 hS => ?_)
      exact z_lret hx hb hr rfl hS hw1 (Nat.le_of_ble_eq_true rfl) (Nat.le_of_ble_eq_true rfl) dL_act_715 hlocks
  have sw : ∀ (H : Heap) (locs : List Loc) (ls : Array Slot), zH base D cA s H locs ad ty I L P → lv_has ls 10 [(9, .int (zaM v)), (8, .int (zaT v)), (7, .int (zaH v)), (6, .int (zaS v)), (5, .int (zaC v)), (4, .int (zaO v)), (3, .int (zaI v)), (2, .int (zif v 1 0)), (0, .ref (ad 0)), (1, .int v)] → W p l e (zRm 10 183 13 84) s m #[Value.ref (ad 0), Value.int v] below meth c H locs 0 0 (MQ below (zQl base r (fun H => ∃ ad2, (∀ κ t, ty κ = some t → ad2 κ = ad κ) ∧ zW base D cA ad2 ty2 I2 L2 P2 H)) #[Value.ref (ad 0), Value.int v] s 13 84 (fun q => base ≤ q)) (F0 m 213 ls [.int (zlow v 30)]) := by
    intro H locs ls hw hl
    have q := hv
    · refine z_topi (y := 26) q ?_
      refine lv_tableIn (off := 479) (tgt := 692) hx hb dL_act_213 (by decide) (by decide) (by decide) (by decide) ?_
      exact body H locs ls hw hl
  rcases zodd_dec v with hod | hod
  · exact z_acth_p hod M hw hl sw
  · exact z_acth_n hod M hw hl sw
set_option maxHeartbeats 4000000 in
set_option maxRecDepth 100000 in
theorem ea_account {n : Nat} {ty : zTyp} {I : zIt} {L : zLt} {P : zPt} (h : zLI n ty I L P) (hn : n ≤ 1900) (v : Int32) (hv : zlow v 30 = 27) : zEf (n + 1) ty I L P (fun l base D cA ad r W1 => zNl l base D cA yL_act cL_act 10 10 183 13 84 [.ref (ad 0), .int v] (zW base D cA ad ty I L P) r W1) := by
  obtain ⟨r, ty2, I2, L2, P2, h1, h2, h3⟩ := e_account h (zaT v) (zif v (zaM v) (zlow (v >>> (9 &&& 31)) 4))
  refine ⟨r, ty2, I2, L2, P2, zLI_mono (Nat.le_succ n) h1, h2, fun l base D cA ad hl0 => ?_⟩
  have hM := h3 l base D cA ad hl0
  refine z_nstart (by decide +kernel) (Nat.le_of_ble_eq_true rfl) fun p e s m below meth c ls M hP hS hl hr hlocks hN => ?_
  have M : zM p s m c cL_act RL 10 base D cA := M
  obtain ⟨hx, hb, -⟩ := id M
  have hl : lv_has ls 10 [(0, .ref (ad 0)), (1, .int v)] := hl
  have hw : zH base D cA s s.heap [] ad ty I L P := ⟨hP, hS⟩
  have body : ∀ (H : Heap) (locs : List Loc) (ls : Array Slot), zH base D cA s H locs ad ty I L P → lv_has ls 10 [(9, .int (zaM v)), (8, .int (zaT v)), (7, .int (zaH v)), (6, .int (zaS v)), (5, .int (zaC v)), (4, .int (zaO v)), (3, .int (zaI v)), (2, .int (zif v 1 0)), (0, .ref (ad 0)), (1, .int v)] → W p l e (zRm 10 183 13 84) s m #[Value.ref (ad 0), Value.int v] below meth c H locs 0 0 (MQ below (zQl base r (fun H => ∃ ad2, (∀ κ t, ty κ = some t → ad2 κ = ad κ) ∧ zW base D cA ad2 ty2 I2 L2 P2 H)) #[Value.ref (ad 0), Value.int v] s 13 84 (fun q => base ≤ q)) (F0 m 716 ls []) := by
    intro H locs ls hw hl
    rcases zodd_dec v with hod | hod
    · skip
      rw [zif_p hod] at hM
      refine lv_aload_n hx hb dL_act_716 rfl (lv_at hl 8 rfl) ?_
      refine lv_iload hx hb dL_act_717 (lv_at hl 1 rfl) ?_
      refine lv_iload_n hx hb dL_act_719 rfl (lv_at hl 7 rfl) ?_
      refine z_topi (y := 1) (zif_p hod) ?_
      refine lv_if_eq (tgt := 728) hx hb dL_act_720 (by decide) (fun c1 => ?_) (fun c1 => ?_)
      · exact absurd c1 (by decide)
      refine lv_iload hx hb dL_act_723 (lv_at hl 0 rfl) ?_
      refine lv_goto (tgt := 736) hx hb dL_act_725 (by decide) ?_
      refine z_cl (z_runH (As := [.ref (ad 0), .int (zaT v), .int (zaM v)]) (rest := []) M hN hw.2 zh_account hM hw.1 rfl rfl ⟨Nat.le_of_ble_eq_true rfl, Nat.le_of_ble_eq_true rfl⟩ ⟨Nat.le_of_ble_eq_true rfl, Nat.le_of_ble_eq_true rfl⟩ hl.1 (Nat.le_of_ble_eq_true rfl) dL_act_736) hw.2 (fun H locs hw1 hS => ?_)
      exact z_lret hx hb hr rfl hS hw1 (Nat.le_of_ble_eq_true rfl) (Nat.le_of_ble_eq_true rfl) dL_act_739 hlocks
    · skip
      rw [zif_n hod] at hM
      refine lv_aload_n hx hb dL_act_716 rfl (lv_at hl 8 rfl) ?_
      refine lv_iload hx hb dL_act_717 (lv_at hl 1 rfl) ?_
      refine lv_iload_n hx hb dL_act_719 rfl (lv_at hl 7 rfl) ?_
      refine z_topi (y := 0) (zif_n hod) ?_
      refine lv_if_eq (tgt := 728) hx hb dL_act_720 (by decide) (fun c1 => ?_) (fun c1 => ?_)
      rotate_left
      · exact absurd c1 (by decide)
      refine lv_iload_n hx hb dL_act_728 rfl (lv_at hl 9 rfl) ?_
      refine lv_bipush (v := 9) hx hb dL_act_729 (by decide) ?_
      refine lv_ishr hx hb dL_act_731 ?_
      refine lv_iconst (v := 4) hx hb dL_act_732 (by decide) ?_
      refine z_ci0 (z_runS (As := [.int (v >>> (9 &&& 31)), .int 4]) (rest := [.int (zaT v), .ref (ad 0)]) M hw.2 zc_L_76 (c_L_low l base D cA (zW base D cA ad ty I L P) (v >>> (9 &&& 31)) 4 (by decide)) hw.1 rfl rfl ⟨Nat.le_of_ble_eq_true rfl, Nat.le_of_ble_eq_true rfl⟩ ⟨Nat.le_of_ble_eq_true rfl, Nat.le_of_ble_eq_true rfl⟩ hl.1 (Nat.le_of_ble_eq_true rfl) dL_act_733) hw (fun H locs hw => ?_)
      refine z_cl (z_runH (As := [.ref (ad 0), .int (zaT v), .int (zlow (v >>> (9 &&& 31)) 4)]) (rest := []) M hN hw.2 zh_account hM hw.1 rfl rfl ⟨Nat.le_of_ble_eq_true rfl, Nat.le_of_ble_eq_true rfl⟩ ⟨Nat.le_of_ble_eq_true rfl, Nat.le_of_ble_eq_true rfl⟩ hl.1 (Nat.le_of_ble_eq_true rfl) dL_act_736) hw.2 (fun H locs hw1 hS => ?_)
      exact z_lret hx hb hr rfl hS hw1 (Nat.le_of_ble_eq_true rfl) (Nat.le_of_ble_eq_true rfl) dL_act_739 hlocks
  have sw : ∀ (H : Heap) (locs : List Loc) (ls : Array Slot), zH base D cA s H locs ad ty I L P → lv_has ls 10 [(9, .int (zaM v)), (8, .int (zaT v)), (7, .int (zaH v)), (6, .int (zaS v)), (5, .int (zaC v)), (4, .int (zaO v)), (3, .int (zaI v)), (2, .int (zif v 1 0)), (0, .ref (ad 0)), (1, .int v)] → W p l e (zRm 10 183 13 84) s m #[Value.ref (ad 0), Value.int v] below meth c H locs 0 0 (MQ below (zQl base r (fun H => ∃ ad2, (∀ κ t, ty κ = some t → ad2 κ = ad κ) ∧ zW base D cA ad2 ty2 I2 L2 P2 H)) #[Value.ref (ad 0), Value.int v] s 13 84 (fun q => base ≤ q)) (F0 m 213 ls [.int (zlow v 30)]) := by
    intro H locs ls hw hl
    have q := hv
    · refine z_topi (y := 27) q ?_
      refine lv_tableIn (off := 503) (tgt := 716) hx hb dL_act_213 (by decide) (by decide) (by decide) (by decide) ?_
      exact body H locs ls hw hl
  rcases zodd_dec v with hod | hod
  · exact z_acth_p hod M hw hl sw
  · exact z_acth_n hod M hw hl sw
set_option maxHeartbeats 4000000 in
set_option maxRecDepth 100000 in
theorem ea_reach {n : Nat} {ty : zTyp} {I : zIt} {L : zLt} {P : zPt} (h : zLI n ty I L P) (hn : n ≤ 1900) (v : Int32) (hv : zlow v 30 = 28) : zEf (n + 1) ty I L P (fun l base D cA ad r W1 => zNl l base D cA yL_act cL_act 10 10 183 13 84 [.ref (ad 0), .int v] (zW base D cA ad ty I L P) r W1) := by
  obtain ⟨r, ty2, I2, L2, P2, h1, h2, h3⟩ := e_reach h (zaI v)
  refine ⟨r, ty2, I2, L2, P2, zLI_mono (Nat.le_succ n) h1, h2, fun l base D cA ad hl0 => ?_⟩
  have hM := h3 l base D cA ad hl0
  refine z_nstart (by decide +kernel) (Nat.le_of_ble_eq_true rfl) fun p e s m below meth c ls M hP hS hl hr hlocks hN => ?_
  have M : zM p s m c cL_act RL 10 base D cA := M
  obtain ⟨hx, hb, -⟩ := id M
  have hl : lv_has ls 10 [(0, .ref (ad 0)), (1, .int v)] := hl
  have hw : zH base D cA s s.heap [] ad ty I L P := ⟨hP, hS⟩
  have body : ∀ (H : Heap) (locs : List Loc) (ls : Array Slot), zH base D cA s H locs ad ty I L P → lv_has ls 10 [(9, .int (zaM v)), (8, .int (zaT v)), (7, .int (zaH v)), (6, .int (zaS v)), (5, .int (zaC v)), (4, .int (zaO v)), (3, .int (zaI v)), (2, .int (zif v 1 0)), (0, .ref (ad 0)), (1, .int v)] → W p l e (zRm 10 183 13 84) s m #[Value.ref (ad 0), Value.int v] below meth c H locs 0 0 (MQ below (zQl base r (fun H => ∃ ad2, (∀ κ t, ty κ = some t → ad2 κ = ad κ) ∧ zW base D cA ad2 ty2 I2 L2 P2 H)) #[Value.ref (ad 0), Value.int v] s 13 84 (fun q => base ≤ q)) (F0 m 740 ls []) := by
    intro H locs ls hw hl
    refine lv_aload_n hx hb dL_act_740 rfl (lv_at hl 8 rfl) ?_
    refine lv_iload_n hx hb dL_act_741 rfl (lv_at hl 6 rfl) ?_
    refine z_cl (z_runH (As := [.ref (ad 0), .int (zaI v)]) (rest := []) M hN hw.2 zh_reach hM hw.1 rfl rfl ⟨Nat.le_of_ble_eq_true rfl, Nat.le_of_ble_eq_true rfl⟩ ⟨Nat.le_of_ble_eq_true rfl, Nat.le_of_ble_eq_true rfl⟩ hl.1 (Nat.le_of_ble_eq_true rfl) dL_act_742) hw.2 (fun H locs hw1 hS => ?_)
    exact z_lret hx hb hr rfl hS hw1 (Nat.le_of_ble_eq_true rfl) (Nat.le_of_ble_eq_true rfl) dL_act_745 hlocks
  have sw : ∀ (H : Heap) (locs : List Loc) (ls : Array Slot), zH base D cA s H locs ad ty I L P → lv_has ls 10 [(9, .int (zaM v)), (8, .int (zaT v)), (7, .int (zaH v)), (6, .int (zaS v)), (5, .int (zaC v)), (4, .int (zaO v)), (3, .int (zaI v)), (2, .int (zif v 1 0)), (0, .ref (ad 0)), (1, .int v)] → W p l e (zRm 10 183 13 84) s m #[Value.ref (ad 0), Value.int v] below meth c H locs 0 0 (MQ below (zQl base r (fun H => ∃ ad2, (∀ κ t, ty κ = some t → ad2 κ = ad κ) ∧ zW base D cA ad2 ty2 I2 L2 P2 H)) #[Value.ref (ad 0), Value.int v] s 13 84 (fun q => base ≤ q)) (F0 m 213 ls [.int (zlow v 30)]) := by
    intro H locs ls hw hl
    have q := hv
    · refine z_topi (y := 28) q ?_
      refine lv_tableIn (off := 527) (tgt := 740) hx hb dL_act_213 (by decide) (by decide) (by decide) (by decide) ?_
      exact body H locs ls hw hl
  rcases zodd_dec v with hod | hod
  · exact z_acth_p hod M hw hl sw
  · exact z_acth_n hod M hw hl sw
set_option maxHeartbeats 4000000 in
set_option maxRecDepth 100000 in
theorem ea_sumAnew {n : Nat} {ty : zTyp} {I : zIt} {L : zLt} {P : zPt} (h : zLI n ty I L P) (hn : n ≤ 1900) (v : Int32) (hv : ¬ zlow v 30 = 0 ∧ ¬ zlow v 30 = 1 ∧ ¬ zlow v 30 = 2 ∧ ¬ zlow v 30 = 3 ∧ ¬ zlow v 30 = 4 ∧ ¬ zlow v 30 = 5 ∧ ¬ zlow v 30 = 6 ∧ ¬ zlow v 30 = 7 ∧ ¬ zlow v 30 = 8 ∧ ¬ zlow v 30 = 9 ∧ ¬ zlow v 30 = 10 ∧ ¬ zlow v 30 = 11 ∧ ¬ zlow v 30 = 12 ∧ ¬ zlow v 30 = 13 ∧ ¬ zlow v 30 = 14 ∧ ¬ zlow v 30 = 15 ∧ ¬ zlow v 30 = 16 ∧ ¬ zlow v 30 = 17 ∧ ¬ zlow v 30 = 18 ∧ ¬ zlow v 30 = 19 ∧ ¬ zlow v 30 = 20 ∧ ¬ zlow v 30 = 21 ∧ ¬ zlow v 30 = 22 ∧ ¬ zlow v 30 = 23 ∧ ¬ zlow v 30 = 24 ∧ ¬ zlow v 30 = 25 ∧ ¬ zlow v 30 = 26 ∧ ¬ zlow v 30 = 27 ∧ ¬ zlow v 30 = 28) : zEf (n + 1) ty I L P (fun l base D cA ad r W1 => zNl l base D cA yL_act cL_act 10 10 183 13 84 [.ref (ad 0), .int v] (zW base D cA ad ty I L P) r W1) := by
  obtain ⟨r, ty2, I2, L2, P2, h1, h2, h3⟩ := e_sumAnew h (zaT v)
  refine ⟨r, ty2, I2, L2, P2, zLI_mono (Nat.le_succ n) h1, h2, fun l base D cA ad hl0 => ?_⟩
  have hM := h3 l base D cA ad hl0
  refine z_nstart (by decide +kernel) (Nat.le_of_ble_eq_true rfl) fun p e s m below meth c ls M hP hS hl hr hlocks hN => ?_
  have M : zM p s m c cL_act RL 10 base D cA := M
  obtain ⟨hx, hb, -⟩ := id M
  have hl : lv_has ls 10 [(0, .ref (ad 0)), (1, .int v)] := hl
  have hw : zH base D cA s s.heap [] ad ty I L P := ⟨hP, hS⟩
  have body : ∀ (H : Heap) (locs : List Loc) (ls : Array Slot), zH base D cA s H locs ad ty I L P → lv_has ls 10 [(9, .int (zaM v)), (8, .int (zaT v)), (7, .int (zaH v)), (6, .int (zaS v)), (5, .int (zaC v)), (4, .int (zaO v)), (3, .int (zaI v)), (2, .int (zif v 1 0)), (0, .ref (ad 0)), (1, .int v)] → W p l e (zRm 10 183 13 84) s m #[Value.ref (ad 0), Value.int v] below meth c H locs 0 0 (MQ below (zQl base r (fun H => ∃ ad2, (∀ κ t, ty κ = some t → ad2 κ = ad κ) ∧ zW base D cA ad2 ty2 I2 L2 P2 H)) #[Value.ref (ad 0), Value.int v] s 13 84 (fun q => base ≤ q)) (F0 m 746 ls []) := by
    intro H locs ls hw hl
    refine lv_aload_n hx hb dL_act_746 rfl (lv_at hl 8 rfl) ?_
    refine lv_iload hx hb dL_act_747 (lv_at hl 1 rfl) ?_
    refine z_cl (z_runH (As := [.ref (ad 0), .int (zaT v)]) (rest := []) M hN hw.2 zh_sumAnew hM hw.1 rfl rfl ⟨Nat.le_of_ble_eq_true rfl, Nat.le_of_ble_eq_true rfl⟩ ⟨Nat.le_of_ble_eq_true rfl, Nat.le_of_ble_eq_true rfl⟩ hl.1 (Nat.le_of_ble_eq_true rfl) dL_act_749) hw.2 (fun H locs hw1 hS => ?_)
    exact z_lret hx hb hr rfl hS hw1 (Nat.le_of_ble_eq_true rfl) (Nat.le_of_ble_eq_true rfl) dL_act_752 hlocks
  have sw : ∀ (H : Heap) (locs : List Loc) (ls : Array Slot), zH base D cA s H locs ad ty I L P → lv_has ls 10 [(9, .int (zaM v)), (8, .int (zaT v)), (7, .int (zaH v)), (6, .int (zaS v)), (5, .int (zaC v)), (4, .int (zaO v)), (3, .int (zaI v)), (2, .int (zif v 1 0)), (0, .ref (ad 0)), (1, .int v)] → W p l e (zRm 10 183 13 84) s m #[Value.ref (ad 0), Value.int v] below meth c H locs 0 0 (MQ below (zQl base r (fun H => ∃ ad2, (∀ κ t, ty κ = some t → ad2 κ = ad κ) ∧ zW base D cA ad2 ty2 I2 L2 P2 H)) #[Value.ref (ad 0), Value.int v] s 13 84 (fun q => base ≤ q)) (F0 m 213 ls [.int (zlow v 30)]) := by
    intro H locs ls hw hl
    obtain ⟨q0, q1, q2, q3, q4, q5, q6, q7, q8, q9, q10, q11, q12, q13, q14, q15, q16, q17, q18, q19, q20, q21, q22, q23, q24, q25, q26, q27, q28⟩ := hv
    refine lv_tableOut (tgt := 746) hx hb dL_act_213 (by have r0 := z_t1 0 rfl q0; have r1 := z_t1 1 rfl q1; have r2 := z_t1 2 rfl q2; have r3 := z_t1 3 rfl q3; have r4 := z_t1 4 rfl q4; have r5 := z_t1 5 rfl q5; have r6 := z_t1 6 rfl q6; have r7 := z_t1 7 rfl q7; have r8 := z_t1 8 rfl q8; have r9 := z_t1 9 rfl q9; have r10 := z_t1 10 rfl q10; have r11 := z_t1 11 rfl q11; have r12 := z_t1 12 rfl q12; have r13 := z_t1 13 rfl q13; have r14 := z_t1 14 rfl q14; have r15 := z_t1 15 rfl q15; have r16 := z_t1 16 rfl q16; have r17 := z_t1 17 rfl q17; have r18 := z_t1 18 rfl q18; have r19 := z_t1 19 rfl q19; have r20 := z_t1 20 rfl q20; have r21 := z_t1 21 rfl q21; have r22 := z_t1 22 rfl q22; have r23 := z_t1 23 rfl q23; have r24 := z_t1 24 rfl q24; have r25 := z_t1 25 rfl q25; have r26 := z_t1 26 rfl q26; have r27 := z_t1 27 rfl q27; have r28 := z_t1 28 rfl q28; omega) (by decide) ?_
    exact body H locs ls hw hl
  rcases zodd_dec v with hod | hod
  · exact z_acth_p hod M hw hl sw
  · exact z_acth_n hod M hw hl sw
theorem e_act {n : Nat} {ty : zTyp} {I : zIt} {L : zLt} {P : zPt} (h : zLI n ty I L P) (hn : n ≤ 1900) (v : Int32) : zEf (n + 1) ty I L P (fun l base D cA ad r W1 => zNl l base D cA yL_act cL_act 10 10 183 13 84 [.ref (ad 0), .int v] (zW base D cA ad ty I L P) r W1) := by
  by_cases q0 : zlow v 30 = 0
  · exact ea_island h hn v (Or.inl q0)
  by_cases q1 : zlow v 30 = 1
  · exact ea_island h hn v (Or.inr (Or.inl q1))
  by_cases q2 : zlow v 30 = 2
  · exact ea_island h hn v (Or.inr (Or.inr q2))
  by_cases q3 : zlow v 30 = 3
  · exact ea_cable h hn v (Or.inl q3)
  by_cases q4 : zlow v 30 = 4
  · exact ea_cable h hn v (Or.inr (Or.inl q4))
  by_cases q5 : zlow v 30 = 5
  · exact ea_cable h hn v (Or.inr (Or.inr (Or.inl q5)))
  by_cases q6 : zlow v 30 = 6
  · exact ea_cable h hn v (Or.inr (Or.inr (Or.inr (Or.inl q6))))
  by_cases q7 : zlow v 30 = 7
  · exact ea_cable h hn v (Or.inr (Or.inr (Or.inr (Or.inr q7))))
  by_cases q8 : zlow v 30 = 8
  · exact ea_price h hn v q8
  by_cases q9 : zlow v 30 = 9
  · exact ea_fault h hn v (Or.inl q9)
  by_cases q10 : zlow v 30 = 10
  · exact ea_fault h hn v (Or.inr (Or.inl q10))
  by_cases q11 : zlow v 30 = 11
  · exact ea_fault h hn v (Or.inr (Or.inr q11))
  by_cases q12 : zlow v 30 = 12
  · exact ea_ship h hn v q12
  by_cases q13 : zlow v 30 = 13
  · exact ea_send h hn v (Or.inl q13)
  by_cases q14 : zlow v 30 = 14
  · exact ea_send h hn v (Or.inr (Or.inl q14))
  by_cases q15 : zlow v 30 = 15
  · exact ea_send h hn v (Or.inr (Or.inr q15))
  by_cases q16 : zlow v 30 = 16
  · exact ea_home h hn v q16
  by_cases q17 : zlow v 30 = 17
  · exact ea_trader h hn v (Or.inl q17)
  by_cases q18 : zlow v 30 = 18
  · exact ea_trader h hn v (Or.inr q18)
  by_cases q19 : zlow v 30 = 19
  · exact ea_pass h hn v (Or.inl q19)
  by_cases q20 : zlow v 30 = 20
  · exact ea_pass h hn v (Or.inr (Or.inl q20))
  by_cases q21 : zlow v 30 = 21
  · exact ea_pass h hn v (Or.inr (Or.inr q21))
  by_cases q22 : zlow v 30 = 22
  · exact ea_works h hn v q22
  by_cases q23 : zlow v 30 = 23
  · exact ea_faultAt h hn v q23
  by_cases q24 : zlow v 30 = 24
  · exact ea_shipOf h hn v q24
  by_cases q25 : zlow v 30 = 25
  · exact ea_way h hn v q25
  by_cases q26 : zlow v 30 = 26
  · exact ea_sum h hn v q26
  by_cases q27 : zlow v 30 = 27
  · exact ea_account h hn v q27
  by_cases q28 : zlow v 30 = 28
  · exact ea_reach h hn v q28
  exact ea_sumAnew h hn v ⟨q0, q1, q2, q3, q4, q5, q6, q7, q8, q9, q10, q11, q12, q13, q14, q15, q16, q17, q18, q19, q20, q21, q22, q23, q24, q25, q26, q27, q28⟩
