/-! THE LAW'S OWN CALLS (laid by m_fin.py): a number of the script, a call of both charts -/
def zcell (Ln : Nat) (xs : Nat → Int32) (k : Nat) : Int32 := if k < Ln then xs k else 7919 * (nI k + 2297) * (nI k + 149)
def zPx (base : Nat) (D : zDD) (cA : Nat → ClassId) (b Ln : Nat) (xs : Nat → Int32) (av : List Value) (W0 : Heap → Prop) : Array Value → State → Prop := va_Pc av (fun U => (zG base D cA U ∧ va_X b Ln xs U U.heap) ∧ b < base ∧ W0 U.heap)
theorem zPx.blind {base : Nat} {D : zDD} {cA : Nat → ClassId} {b Ln : Nat} {xs : Nat → Int32} {av : List Value} {W0 : Heap → Prop} : FrameBlind (zPx base D cA b Ln xs av W0) := fun a _ g mk h => ⟨h.1, ⟨h.2.1.1.calling a g mk, h.2.1.2.moved (State.WarmedH.refl _).alike⟩, h.2.2.1, h.2.2.2⟩
set_option maxHeartbeats 4000000 in
theorem c_L_cell (l : Launch) (base : Nat) (D : zDD) (cA : Nat → ClassId) (b Ln : Nat) (xs : Nat → Int32) (W0 : Heap → Prop) (k : Nat) (hk : k < 100) (hLn : Ln ≤ 260) : Met l yL_cell [Cond.code yL_cell cL_cell 2 (some .int)] (zRm 0 0 0 0) (zPx base D cA b Ln xs [.ref b, .int (nI k)] W0) (zQi base (zcell Ln xs k) W0) 0 0 (fun q => base ≤ q) := by
  refine Met.ofW (cc := cL_cell) (maxL := 2) (ret := some .int) (by decide +kernel) rfl ?_
  intro p e s m args below meth c s₁ B hml hv
  obtain ⟨rfl, ⟨hG, hX⟩, hbb, hP⟩ := hv
  have hl := lv_entry ([.ref b, .int (nI k)]) (n := 2) (Nat.le_of_ble_eq_true rfl)
  rw [lg_entry_eq]
  generalize (lg_sl ([.ref b, .int (nI k)]) ++ List.replicate (2 - (lg_sl ([.ref b, .int (nI k)])).length) Slot.unset).toArray = ls at hl ⊢
  have hl : lv_has ls 2 [(0, .ref b), (1, .int (nI k))] := hl
  have hx : p.tables.exec = Jvm.exec := B.exec
  have hb : c.code = cL_cell := B.bytes
  have hr := B.returns
  have hlocks := B.notSynchronized
  have hbl : b < s.heap.size := Nat.lt_of_lt_of_le hbb hG.2.2.2.2
  have hbA : ¬ (fun q : Nat => base ≤ q) b := Nat.not_le.mpr hbb
  have hS : va_S (fun q => base ≤ q) s.heap s.heap [] := va_S.rf
  refine lv_iload_n hx hb dL_cell_0 rfl (lv_at hl 1 rfl) ?_
  refine lv_aload_n hx hb dL_cell_1 rfl (lv_at hl 0 rfl) ?_
  refine va_slen hx hb hX hbl hbA hS dL_cell_2 ?_
  refine lv_icmp_ge (tgt := 12) hx hb dL_cell_3 (by decide) (fun c1 => ?_) (fun c1 => ?_)
  · have hge : Ln ≤ k := by
      have c2 : nI Ln ≤ nI k := c1
      rw [Int32.le_iff_toInt_le, nI_toInt (by omega), nI_toInt (by omega)] at c2
      omega
    refine lv_sipush (v := 7919) hx hb dL_cell_12 (by decide) ?_
    refine lv_iload_n hx hb dL_cell_15 rfl (lv_at hl 1 rfl) ?_
    refine lv_sipush (v := 2297) hx hb dL_cell_16 (by decide) ?_
    refine lv_iadd hx hb dL_cell_19 ?_
    refine lv_imul hx hb dL_cell_20 ?_
    refine lv_iload_n hx hb dL_cell_21 rfl (lv_at hl 1 rfl) ?_
    refine lv_sipush (v := 149) hx hb dL_cell_22 (by decide) ?_
    refine lv_iadd hx hb dL_cell_25 ?_
    refine lv_imul hx hb dL_cell_26 ?_
    exact z_iret hx hb hr (show 7919 * (nI k + 2297) * (nI k + 149) = zcell Ln xs k from (if_neg (by omega)).symm) rfl hS hP (Nat.le_of_ble_eq_true rfl) (Nat.le_of_ble_eq_true rfl) dL_cell_27 hlocks
  · have hlt : k < Ln := by
      have c2 : ¬ nI Ln ≤ nI k := c1
      rw [Int32.le_iff_toInt_le, nI_toInt (by omega), nI_toInt (by omega)] at c2
      omega
    refine lv_aload_n hx hb dL_cell_6 rfl (lv_at hl 0 rfl) ?_
    refine lv_iload_n hx hb dL_cell_7 rfl (lv_at hl 1 rfl) ?_
    refine va_sld hx hb hX hbl hbA hS (vp_in_nI hlt (by omega)) dL_cell_8 ?_
    refine lv_goto (tgt := 27) hx hb dL_cell_9 (by decide) ?_
    exact z_iret hx hb hr (show xs (nI k).toNatClampNeg = zcell Ln xs k by rw [nI_clamp (by omega)]; exact (if_pos hlt).symm) rfl hS hP (Nat.le_of_ble_eq_true rfl) (Nat.le_of_ble_eq_true rfl) dL_cell_27 hlocks
/-- one chart has answered, the other one is to be asked -/
def zLagA (base : Nat) (G : va_G) (cA : Nat → ClassId) (n a0 b0 : Nat) (v : Int32) (r : Int64) (H : Heap) : Prop := ∃ (ad ad' : Nat → Nat) (ty ty2 : zTyp) (I I2 : zIt) (L L2 : zLt) (P P2 : zPt), zLI n ty I L P ∧ zLI (n + 1) ty2 I2 L2 P2 ∧ ad 0 = a0 ∧ ad' 0 = b0 ∧ zTw base G cA ad ad' ty2 ty I2 I L2 L P2 P H ∧ ∀ (l : Launch) (base : Nat) (D : zDD) (cA : Nat → ClassId) (ad : Nat → Nat), l.stackTraces = false → zNl l base D cA yL_act cL_act 10 10 183 13 84 [.ref (ad 0), .int v] (zW base D cA ad ty I L P) r (fun H => ∃ ad2, (∀ κ t, ty κ = some t → ad2 κ = ad κ) ∧ zW base D cA ad2 ty2 I2 L2 P2 H)
section ZLC2
variable {p : Program} {l : Launch} {e : Env} {R : Room} {s : State} {m : MethodId} {args : Array Value} {below : List Frame} {meth : Method} {c : Code} {H : Heap} {locs : List Loc} {cells slots : Nat} {Q : State → Prop} {cc : ByteArray} {nL pc base n a0 b0 : Nat} {G : va_G} {cA : Nat → ClassId} {ls : Array Slot} {rest : List Value}
theorem z_cellc {W0 : Heap → Prop} {b Ln k : Nat} {xs : Nat → Int32} {D : zDD} (M : zM p s m c cc RL nL base D cA) (hX : va_X b Ln xs s s.heap) (hbs : b < s.heap.size) (hbb : b < base) (hS : va_S (fun q => base ≤ q) s.heap H locs) (hk : k < 100) (hLn : Ln ≤ 260) (hW0 : W0 H) (hsz : ls.size = nL) (hRm : 0 + 1 ≤ R.frames ∧ 8 + (2 + 11) + 0 ≤ R.locals) (hf : cells + 0 ≤ R.cells ∧ slots + 0 ≤ R.slots) (hr8 : (rest.map fun v => v.category).sum ≤ 8) (hdg : decode cc pc = .ok (.invokestatic 121, 3))
    (kk : ∀ (H : Heap) (locs : List Loc), W0 H → va_S (fun q => base ≤ q) s.heap H locs → W p l e R s m args below meth c H locs cells slots Q (F0 m (pc + 3) ls (.int (zcell Ln xs k) :: rest))) : W p l e R s m args below meth c H locs cells slots Q (F0 m pc ls (.int (nI k) :: .ref b :: rest)) := by
  have hbA : ¬ (fun q : Nat => base ≤ q) b := Nat.not_le.mpr hbb
  have hp : PreS s H (zPx base D cA b Ln xs [.ref b, .int (nI k)] W0) [.ref b, .int (nI k)] := ⟨zPx.blind, fun U hU hW => ⟨rfl, ⟨M.2.2.2.2.go hS hU hW, by rw [hU]; exact (hX.moved hW.alike).kept (hS.2.1 b hbs hbA)⟩, hbb, by rw [hU]; exact hW0⟩⟩
  obtain ⟨hx, hbc, hml, hown, hE, hKn, -⟩ := id M
  have hC : zCS RL 121 yL_cell cL_cell 2 (some .int) 2 := zc_L_121
  obtain ⟨hC, hstt⟩ := hC
  have hW8 : 2 * (F0 m pc ls (.int (nI k) :: .ref b :: rest)).monitorRoom + (rest.map fun v => v.category).sum ≤ 8 := by rw [z_mon]; exact hr8
  have hrun : va_Run p l e R s m args below meth c H locs cells slots 0 0 (F0 m pc ls (.int (nI k) :: .ref b :: rest)) rest (zQi base (zcell Ln xs k) W0 ([.ref b, .int (nI k)] : List Value).toArray) (fun q => base ≤ q) := by
    rcases id hC.1 with hl | ⟨host, hl⟩
    · exact va_runS (Ts := []) ⟨hx, hbc, hml, hown, fun _ h => nomatch h⟩ (c_L_cell l base D cA b Ln xs W0 k hk hLn) ⟨z_CallB hE hC hRm (hE.use hl rfl), hE.use hstt rfl⟩ hp rfl rfl hsz rfl hW8 hdg hf
    · exact va_runSN (Ts := []) ⟨hx, hbc, hml, hown, fun _ h => nomatch h⟩ (c_L_cell l base D cA b Ln xs W0 k hk hLn) ⟨z_CN hE hC hRm (hE.use hl rfl), hE.use hstt rfl, trivial⟩ hp rfl rfl hsz rfl hW8 hdg hf
  exact z_ci hrun hS fun H locs h1 h2 => kk H locs h1 h2
set_option maxHeartbeats 2000000 in
theorem z1_act (v : Int32) (hn : n ≤ 1900) (hl0 : l.stackTraces = false) (M : zM p s m c cc RL nL base (G, fun _ => none) cA) (hN : zNcs s) (hS : va_S (fun q => base ≤ q) s.heap H locs) (hA : zAl base G cA n a0 b0 H) (hsz : ls.size = nL) (hR : 10 + 1 ≤ R.frames ∧ 8 + (10 + 11) + 183 ≤ R.locals) (hf : cells + 13 ≤ R.cells ∧ slots + 84 ≤ R.slots) (hr8 : (rest.map fun v => v.category).sum ≤ 8) (hdg : decode cc pc = .ok (.invokestatic 125, 3))
    (kk : ∀ (r : Int64) (H : Heap) (locs : List Loc), ((r = -9000000000000000 ∧ zAl base G cA (n + 1) a0 b0 H) ∨ (¬ r = -9000000000000000 ∧ zLagA base G cA n a0 b0 v r H)) → va_S (fun q => base ≤ q) s.heap H locs → W p l e R s m args below meth c H locs (cells + 13) (slots + 84) Q (F0 m (pc + 3) ls (.long r :: rest))) : W p l e R s m args below meth c H locs cells slots Q (F0 m pc ls (.int v :: .ref a0 :: rest)) := by
  obtain ⟨ad, ad', ty, I, L, P, hLI, ha, hb0, hTw⟩ := hA
  obtain ⟨r, ty2, I2, L2, P2, hLI2, hthr, hC⟩ := e_act hLI hn v
  have hM := hC l base (G, zfo ad' ty H) cA ad hl0
  dsimp only at hM
  rw [ha] at hM
  refine z_cl (z_runN (As := [.ref a0, .int v]) (rest := rest) (M.fr (zfo ad' ty H)) hN hS zc_L_125 hM hTw.out rfl rfl hR hf hsz hr8 hdg) hS (fun H2 locs hw1 hS => ?_)
  obtain ⟨ad2, hag, hw2⟩ := hw1
  have ha2 := (hag 0 _ (zLI_t0 hLI)).trans ha
  have hTw2 := hTw.back hw2
  refine kk r H2 locs ?_ hS
  by_cases hq : r = -9000000000000000
  · obtain ⟨q1, q2, q3, q4⟩ := hthr hq
    rw [q1, q2, q3, q4] at hTw2
    exact Or.inl ⟨hq, ad2, ad', ty, I, L, P, zLI_mono (Nat.le_succ n) hLI, ha2, hb0, hTw2⟩
  · exact Or.inr ⟨hq, ad2, ad', ty, ty2, I, I2, L, L2, P, P2, hLI, hLI2, ha2, hb0, hTw2, hC⟩
set_option maxHeartbeats 2000000 in
theorem z2_act {v : Int32} {r : Int64} (hl0 : l.stackTraces = false) (M : zM p s m c cc RL nL base (G, fun _ => none) cA) (hN : zNcs s) (hS : va_S (fun q => base ≤ q) s.heap H locs) (hA : zLagA base G cA n a0 b0 v r H) (hsz : ls.size = nL) (hR : 10 + 1 ≤ R.frames ∧ 8 + (10 + 11) + 183 ≤ R.locals) (hf : cells + 13 ≤ R.cells ∧ slots + 84 ≤ R.slots) (hr8 : (rest.map fun v => v.category).sum ≤ 8) (hdg : decode cc pc = .ok (.invokestatic 125, 3))
    (kk : ∀ (H : Heap) (locs : List Loc), zAl base G cA (n + 1) a0 b0 H → va_S (fun q => base ≤ q) s.heap H locs → W p l e R s m args below meth c H locs (cells + 13) (slots + 84) Q (F0 m (pc + 3) ls (.long r :: rest))) : W p l e R s m args below meth c H locs cells slots Q (F0 m pc ls (.int v :: .ref b0 :: rest)) := by
  obtain ⟨ad, ad', ty, ty2, I, I2, L, L2, P, P2, hLI, hLI2, ha, hb0, hTw, hC⟩ := hA
  have hM := hC l base (G, zfo ad ty2 H) cA ad' hl0
  rw [hb0] at hM
  refine z_cl (z_runN (As := [.ref b0, .int v]) (rest := rest) (M.fr (zfo ad ty2 H)) hN hS zc_L_125 hM hTw.swap.out rfl rfl hR hf hsz hr8 hdg) hS (fun H2 locs hw1 hS => ?_)
  obtain ⟨ad2, hag, hw2⟩ := hw1
  exact kk H2 locs ⟨ad, ad2, ty2, I2, L2, P2, hLI2, ha, (hag 0 _ (zLI_t0 hLI)).trans hb0, (hTw.swap.back hw2).swap⟩ hS
end ZLC2
