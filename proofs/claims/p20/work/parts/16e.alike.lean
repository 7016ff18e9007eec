/-! TWO CHARTS ALIKE (laid by m_alike.py) -/
theorem zLI_t0 {n : Nat} {ty : zTyp} {I : zIt} {L : zLt} {P : zPt} (h : zLI n ty I L P) : ty 0 = some (6, 0) := by
  obtain ⟨ni, nc, ns, nt, hrs, J, K, hT, -, -⟩ := h
  exact zc_t0 hT.1
section ZLC
variable {p : Program} {l : Launch} {e : Env} {R : Room} {s : State} {m : MethodId} {args : Array Value} {below : List Frame} {meth : Method} {c : Code} {Q : State → Prop} {pc : Nat} {st0 : List Value}
/-- a loop with a counter whose rounds make cells -/
theorem z_loopc (N c0 dc s0 ds : Nat) (Inv : Nat → Heap → List Loc → Array Slot → Prop) {H : Heap} {locs : List Loc} {ls : Array Slot} (h0 : Inv 0 H locs ls)
    (hstep : ∀ k, k ≤ N → (k < N → ∀ (H : Heap) (locs : List Loc) (ls : Array Slot), Inv (k + 1) H locs ls → W p l e R s m args below meth c H locs (c0 + dc * (k + 1)) (s0 + ds * (k + 1)) Q (F0 m pc ls st0)) → ∀ (H : Heap) (locs : List Loc) (ls : Array Slot), Inv k H locs ls → W p l e R s m args below meth c H locs (c0 + dc * k) (s0 + ds * k) Q (F0 m pc ls st0)) :
    W p l e R s m args below meth c H locs c0 s0 Q (F0 m pc ls st0) := by
  have key : ∀ (n k : Nat), k ≤ N → N + 1 ≤ k + n → ∀ (H : Heap) (locs : List Loc) (ls : Array Slot), Inv k H locs ls → W p l e R s m args below meth c H locs (c0 + dc * k) (s0 + ds * k) Q (F0 m pc ls st0) := by
    intro n
    induction n with
    | zero => intro k h1 h2; exact absurd h2 (by omega)
    | succ n ih => intro k h1 h2; exact hstep k h1 fun h3 => ih (k + 1) (by omega) (by omega)
  exact key (N + 1) 0 (Nat.zero_le _) (by omega) H locs ls h0
end ZLC
/-- what two charts with the same tables are, at the places a0 and b0 -/
def zAl (base : Nat) (G : va_G) (cA : Nat → ClassId) (n a0 b0 : Nat) (H : Heap) : Prop :=
  ∃ (ad ad' : Nat → Nat) (ty : zTyp) (I : zIt) (L : zLt) (P : zPt), zLI n ty I L P ∧ ad 0 = a0 ∧ ad' 0 = b0 ∧ zTw base G cA ad ad' ty ty I I L L P P H
section ZP1
variable {p : Program} {l : Launch} {e : Env} {R : Room} {s : State} {m : MethodId} {args : Array Value} {below : List Frame} {meth : Method} {c : Code} {H : Heap} {locs : List Loc} {cells slots : Nat} {Q : State → Prop} {cc : ByteArray} {nL pc base n a0 b0 : Nat} {G : va_G} {cA : Nat → ClassId} {ls : Array Slot} {rest : List Value}
/-- the first chart has answered this call, the second one not yet -/
def zLag_faultAt (base : Nat) (G : va_G) (cA : Nat → ClassId) (n a0 b0 : Nat) (i : Int32) (r : Int64) (H : Heap) : Prop := ∃ (ad ad' : Nat → Nat) (ty ty2 : zTyp) (I I2 : zIt) (L L2 : zLt) (P P2 : zPt), zLI n ty I L P ∧ zLI n ty2 I2 L2 P2 ∧ ad 0 = a0 ∧ ad' 0 = b0 ∧ zTw base G cA ad ad' ty2 ty I2 I L2 L P2 P H ∧ ∀ (l : Launch) (base : Nat) (D : zDD) (cA : Nat → ClassId) (ad : Nat → Nat), l.stackTraces = false → zMh l base D cA yL_faultAt cL_faultAt 3 [(0, 6, 7, 24)] 7 111 1 6 [.ref (ad 0), .int i] (zW base D cA ad ty I L P) r (fun H => ∃ ad2, (∀ κ t, ty κ = some t → ad2 κ = ad κ) ∧ zW base D cA ad2 ty2 I2 L2 P2 H)
set_option maxHeartbeats 2000000 in
theorem z1_faultAt (i : Int32) (hl0 : l.stackTraces = false) (M : zM p s m c cc RL nL base (G, fun _ => none) cA) (hN : zNcs s) (hS : va_S (fun q => base ≤ q) s.heap H locs) (hA : zAl base G cA n a0 b0 H) (hsz : ls.size = nL) (hR : 7 + 1 ≤ R.frames ∧ 8 + (3 + 11) + 111 ≤ R.locals) (hf : cells + 1 ≤ R.cells ∧ slots + 6 ≤ R.slots) (hr8 : (rest.map fun v => v.category).sum ≤ 8) (hdg : decode cc pc = .ok (.invokestatic 106, 3)) (kk : ∀ (r : Int64) (H : Heap) (locs : List Loc), zLag_faultAt base G cA n a0 b0 i r H → va_S (fun q => base ≤ q) s.heap H locs → W p l e R s m args below meth c H locs (cells + 1) (slots + 6) Q (F0 m (pc + 3) ls (.long r :: rest))) : W p l e R s m args below meth c H locs cells slots Q (F0 m pc ls (.int i :: .ref a0 :: rest)) := by
  obtain ⟨ad, ad', ty, I, L, P, hLI, ha, hb0, hTw⟩ := hA
  obtain ⟨r, ty2, I2, L2, P2, hLI2, -, hC⟩ := e_faultAt hLI i
  have hM := hC l base (G, zfo ad' ty H) cA ad hl0
  dsimp only at hM
  rw [ha] at hM
  refine z_cl (z_runH (As := [.ref a0, .int i]) (rest := rest) (M.fr (zfo ad' ty H)) hN hS zh_faultAt hM hTw.out rfl rfl hR hf hsz hr8 hdg) hS (fun H2 locs hw1 hS => ?_)
  obtain ⟨ad2, hag, hw2⟩ := hw1
  exact kk r H2 locs ⟨ad2, ad', ty, ty2, I, I2, L, L2, P, P2, hLI, hLI2, (hag 0 _ (zLI_t0 hLI)).trans ha, hb0, hTw.back hw2, hC⟩ hS
set_option maxHeartbeats 2000000 in
theorem z2_faultAt (i : Int32) (hl0 : l.stackTraces = false) (M : zM p s m c cc RL nL base (G, fun _ => none) cA) (hN : zNcs s) (hS : va_S (fun q => base ≤ q) s.heap H locs) {r : Int64} (hA : zLag_faultAt base G cA n a0 b0 i r H) (hsz : ls.size = nL) (hR : 7 + 1 ≤ R.frames ∧ 8 + (3 + 11) + 111 ≤ R.locals) (hf : cells + 1 ≤ R.cells ∧ slots + 6 ≤ R.slots) (hr8 : (rest.map fun v => v.category).sum ≤ 8) (hdg : decode cc pc = .ok (.invokestatic 106, 3)) (kk : ∀ (H : Heap) (locs : List Loc), zAl base G cA n a0 b0 H → va_S (fun q => base ≤ q) s.heap H locs → W p l e R s m args below meth c H locs (cells + 1) (slots + 6) Q (F0 m (pc + 3) ls (.long r :: rest))) : W p l e R s m args below meth c H locs cells slots Q (F0 m pc ls (.int i :: .ref b0 :: rest)) := by
  obtain ⟨ad, ad', ty, ty2, I, I2, L, L2, P, P2, hLI, hLI2, ha, hb0, hTw, hC⟩ := hA
  have hM := hC l base (G, zfo ad ty2 H) cA ad' hl0
  rw [hb0] at hM
  refine z_cl (z_runH (As := [.ref b0, .int i]) (rest := rest) (M.fr (zfo ad ty2 H)) hN hS zh_faultAt hM hTw.swap.out rfl rfl hR hf hsz hr8 hdg) hS (fun H2 locs hw1 hS => ?_)
  obtain ⟨ad2, hag, hw2⟩ := hw1
  exact kk H2 locs ⟨ad, ad2, ty2, I2, L2, P2, hLI2, ha, (hag 0 _ (zLI_t0 hLI)).trans hb0, (hTw.swap.back hw2).swap⟩ hS
/-- the first chart has answered this call, the second one not yet -/
def zLag_works (base : Nat) (G : va_G) (cA : Nat → ClassId) (n a0 b0 : Nat) (i : Int32) (r : Int64) (H : Heap) : Prop := ∃ (ad ad' : Nat → Nat) (ty ty2 : zTyp) (I I2 : zIt) (L L2 : zLt) (P P2 : zPt), zLI n ty I L P ∧ zLI n ty2 I2 L2 P2 ∧ ad 0 = a0 ∧ ad' 0 = b0 ∧ zTw base G cA ad ad' ty2 ty I2 I L2 L P2 P H ∧ ∀ (l : Launch) (base : Nat) (D : zDD) (cA : Nat → ClassId) (ad : Nat → Nat), l.stackTraces = false → zMh l base D cA yL_works cL_works 3 [(0, 13, 14, 24)] 8 132 1 6 [.ref (ad 0), .int i] (zW base D cA ad ty I L P) r (fun H => ∃ ad2, (∀ κ t, ty κ = some t → ad2 κ = ad κ) ∧ zW base D cA ad2 ty2 I2 L2 P2 H)
set_option maxHeartbeats 2000000 in
theorem z1_works (i : Int32) (hl0 : l.stackTraces = false) (M : zM p s m c cc RL nL base (G, fun _ => none) cA) (hN : zNcs s) (hS : va_S (fun q => base ≤ q) s.heap H locs) (hA : zAl base G cA n a0 b0 H) (hsz : ls.size = nL) (hR : 8 + 1 ≤ R.frames ∧ 8 + (3 + 11) + 132 ≤ R.locals) (hf : cells + 1 ≤ R.cells ∧ slots + 6 ≤ R.slots) (hr8 : (rest.map fun v => v.category).sum ≤ 8) (hdg : decode cc pc = .ok (.invokestatic 104, 3)) (kk : ∀ (r : Int64) (H : Heap) (locs : List Loc), zLag_works base G cA n a0 b0 i r H → va_S (fun q => base ≤ q) s.heap H locs → W p l e R s m args below meth c H locs (cells + 1) (slots + 6) Q (F0 m (pc + 3) ls (.long r :: rest))) : W p l e R s m args below meth c H locs cells slots Q (F0 m pc ls (.int i :: .ref a0 :: rest)) := by
  obtain ⟨ad, ad', ty, I, L, P, hLI, ha, hb0, hTw⟩ := hA
  obtain ⟨r, ty2, I2, L2, P2, hLI2, -, hC⟩ := e_works hLI i
  have hM := hC l base (G, zfo ad' ty H) cA ad hl0
  dsimp only at hM
  rw [ha] at hM
  refine z_cl (z_runH (As := [.ref a0, .int i]) (rest := rest) (M.fr (zfo ad' ty H)) hN hS zh_works hM hTw.out rfl rfl hR hf hsz hr8 hdg) hS (fun H2 locs hw1 hS => ?_)
  obtain ⟨ad2, hag, hw2⟩ := hw1
  exact kk r H2 locs ⟨ad2, ad', ty, ty2, I, I2, L, L2, P, P2, hLI, hLI2, (hag 0 _ (zLI_t0 hLI)).trans ha, hb0, hTw.back hw2, hC⟩ hS
set_option maxHeartbeats 2000000 in
theorem z2_works (i : Int32) (hl0 : l.stackTraces = false) (M : zM p s m c cc RL nL base (G, fun _ => none) cA) (hN : zNcs s) (hS : va_S (fun q => base ≤ q) s.heap H locs) {r : Int64} (hA : zLag_works base G cA n a0 b0 i r H) (hsz : ls.size = nL) (hR : 8 + 1 ≤ R.frames ∧ 8 + (3 + 11) + 132 ≤ R.locals) (hf : cells + 1 ≤ R.cells ∧ slots + 6 ≤ R.slots) (hr8 : (rest.map fun v => v.category).sum ≤ 8) (hdg : decode cc pc = .ok (.invokestatic 104, 3)) (kk : ∀ (H : Heap) (locs : List Loc), zAl base G cA n a0 b0 H → va_S (fun q => base ≤ q) s.heap H locs → W p l e R s m args below meth c H locs (cells + 1) (slots + 6) Q (F0 m (pc + 3) ls (.long r :: rest))) : W p l e R s m args below meth c H locs cells slots Q (F0 m pc ls (.int i :: .ref b0 :: rest)) := by
  obtain ⟨ad, ad', ty, ty2, I, I2, L, L2, P, P2, hLI, hLI2, ha, hb0, hTw, hC⟩ := hA
  have hM := hC l base (G, zfo ad ty2 H) cA ad' hl0
  rw [hb0] at hM
  refine z_cl (z_runH (As := [.ref b0, .int i]) (rest := rest) (M.fr (zfo ad ty2 H)) hN hS zh_works hM hTw.swap.out rfl rfl hR hf hsz hr8 hdg) hS (fun H2 locs hw1 hS => ?_)
  obtain ⟨ad2, hag, hw2⟩ := hw1
  exact kk H2 locs ⟨ad, ad2, ty2, I2, L2, P2, hLI2, ha, (hag 0 _ (zLI_t0 hLI)).trans hb0, (hTw.swap.back hw2).swap⟩ hS
/-- the first chart has answered this call, the second one not yet -/
def zLag_shipOf (base : Nat) (G : va_G) (cA : Nat → ClassId) (n a0 b0 : Nat) (i x : Int32) (r : Int64) (H : Heap) : Prop := ∃ (ad ad' : Nat → Nat) (ty ty2 : zTyp) (I I2 : zIt) (L L2 : zLt) (P P2 : zPt), zLI n ty I L P ∧ zLI n ty2 I2 L2 P2 ∧ ad 0 = a0 ∧ ad' 0 = b0 ∧ zTw base G cA ad ad' ty2 ty I2 I L2 L P2 P H ∧ ∀ (l : Launch) (base : Nat) (D : zDD) (cA : Nat → ClassId) (ad : Nat → Nat), l.stackTraces = false → zMh l base D cA yL_shipOf cL_shipOf 4 [(0, 7, 8, 24), (0, 7, 13, 14)] 8 135 2 12 [.ref (ad 0), .int i, .int x] (zW base D cA ad ty I L P) r (fun H => ∃ ad2, (∀ κ t, ty κ = some t → ad2 κ = ad κ) ∧ zW base D cA ad2 ty2 I2 L2 P2 H)
set_option maxHeartbeats 2000000 in
theorem z1_shipOf (i x : Int32) (hl0 : l.stackTraces = false) (M : zM p s m c cc RL nL base (G, fun _ => none) cA) (hN : zNcs s) (hS : va_S (fun q => base ≤ q) s.heap H locs) (hA : zAl base G cA n a0 b0 H) (hsz : ls.size = nL) (hR : 8 + 1 ≤ R.frames ∧ 8 + (4 + 11) + 135 ≤ R.locals) (hf : cells + 2 ≤ R.cells ∧ slots + 12 ≤ R.slots) (hr8 : (rest.map fun v => v.category).sum ≤ 8) (hdg : decode cc pc = .ok (.invokestatic 108, 3)) (kk : ∀ (r : Int64) (H : Heap) (locs : List Loc), zLag_shipOf base G cA n a0 b0 i x r H → va_S (fun q => base ≤ q) s.heap H locs → W p l e R s m args below meth c H locs (cells + 2) (slots + 12) Q (F0 m (pc + 3) ls (.long r :: rest))) : W p l e R s m args below meth c H locs cells slots Q (F0 m pc ls (.int x :: .int i :: .ref a0 :: rest)) := by
  obtain ⟨ad, ad', ty, I, L, P, hLI, ha, hb0, hTw⟩ := hA
  obtain ⟨r, ty2, I2, L2, P2, hLI2, -, hC⟩ := e_shipOf hLI i x
  have hM := hC l base (G, zfo ad' ty H) cA ad hl0
  dsimp only at hM
  rw [ha] at hM
  refine z_cl (z_runH (As := [.ref a0, .int i, .int x]) (rest := rest) (M.fr (zfo ad' ty H)) hN hS zh_shipOf hM hTw.out rfl rfl hR hf hsz hr8 hdg) hS (fun H2 locs hw1 hS => ?_)
  obtain ⟨ad2, hag, hw2⟩ := hw1
  exact kk r H2 locs ⟨ad2, ad', ty, ty2, I, I2, L, L2, P, P2, hLI, hLI2, (hag 0 _ (zLI_t0 hLI)).trans ha, hb0, hTw.back hw2, hC⟩ hS
set_option maxHeartbeats 2000000 in
theorem z2_shipOf (i x : Int32) (hl0 : l.stackTraces = false) (M : zM p s m c cc RL nL base (G, fun _ => none) cA) (hN : zNcs s) (hS : va_S (fun q => base ≤ q) s.heap H locs) {r : Int64} (hA : zLag_shipOf base G cA n a0 b0 i x r H) (hsz : ls.size = nL) (hR : 8 + 1 ≤ R.frames ∧ 8 + (4 + 11) + 135 ≤ R.locals) (hf : cells + 2 ≤ R.cells ∧ slots + 12 ≤ R.slots) (hr8 : (rest.map fun v => v.category).sum ≤ 8) (hdg : decode cc pc = .ok (.invokestatic 108, 3)) (kk : ∀ (H : Heap) (locs : List Loc), zAl base G cA n a0 b0 H → va_S (fun q => base ≤ q) s.heap H locs → W p l e R s m args below meth c H locs (cells + 2) (slots + 12) Q (F0 m (pc + 3) ls (.long r :: rest))) : W p l e R s m args below meth c H locs cells slots Q (F0 m pc ls (.int x :: .int i :: .ref b0 :: rest)) := by
  obtain ⟨ad, ad', ty, ty2, I, I2, L, L2, P, P2, hLI, hLI2, ha, hb0, hTw, hC⟩ := hA
  have hM := hC l base (G, zfo ad ty2 H) cA ad' hl0
  rw [hb0] at hM
  refine z_cl (z_runH (As := [.ref b0, .int i, .int x]) (rest := rest) (M.fr (zfo ad ty2 H)) hN hS zh_shipOf hM hTw.swap.out rfl rfl hR hf hsz hr8 hdg) hS (fun H2 locs hw1 hS => ?_)
  obtain ⟨ad2, hag, hw2⟩ := hw1
  exact kk H2 locs ⟨ad, ad2, ty2, I2, L2, P2, hLI2, ha, (hag 0 _ (zLI_t0 hLI)).trans hb0, (hTw.swap.back hw2).swap⟩ hS
/-- the first chart has answered this call, the second one not yet -/
def zLag_way (base : Nat) (G : va_G) (cA : Nat → ClassId) (n a0 b0 : Nat) (i x : Int32) (r : Int64) (H : Heap) : Prop := ∃ (ad ad' : Nat → Nat) (ty ty2 : zTyp) (I I2 : zIt) (L L2 : zLt) (P P2 : zPt), zLI n ty I L P ∧ zLI n ty2 I2 L2 P2 ∧ ad 0 = a0 ∧ ad' 0 = b0 ∧ zTw base G cA ad ad' ty2 ty I2 I L2 L P2 P H ∧ ∀ (l : Launch) (base : Nat) (D : zDD) (cA : Nat → ClassId) (ad : Nat → Nat), l.stackTraces = false → zMh l base D cA yL_way cL_way 4 [(0, 7, 8, 24)] 8 139 2 12 [.ref (ad 0), .int i, .int x] (zW base D cA ad ty I L P) r (fun H => ∃ ad2, (∀ κ t, ty κ = some t → ad2 κ = ad κ) ∧ zW base D cA ad2 ty2 I2 L2 P2 H)
set_option maxHeartbeats 2000000 in
theorem z1_way (i x : Int32) (hl0 : l.stackTraces = false) (M : zM p s m c cc RL nL base (G, fun _ => none) cA) (hN : zNcs s) (hS : va_S (fun q => base ≤ q) s.heap H locs) (hA : zAl base G cA n a0 b0 H) (hsz : ls.size = nL) (hR : 8 + 1 ≤ R.frames ∧ 8 + (4 + 11) + 139 ≤ R.locals) (hf : cells + 2 ≤ R.cells ∧ slots + 12 ≤ R.slots) (hr8 : (rest.map fun v => v.category).sum ≤ 8) (hdg : decode cc pc = .ok (.invokestatic 110, 3)) (kk : ∀ (r : Int64) (H : Heap) (locs : List Loc), zLag_way base G cA n a0 b0 i x r H → va_S (fun q => base ≤ q) s.heap H locs → W p l e R s m args below meth c H locs (cells + 2) (slots + 12) Q (F0 m (pc + 3) ls (.long r :: rest))) : W p l e R s m args below meth c H locs cells slots Q (F0 m pc ls (.int x :: .int i :: .ref a0 :: rest)) := by
  obtain ⟨ad, ad', ty, I, L, P, hLI, ha, hb0, hTw⟩ := hA
  obtain ⟨r, ty2, I2, L2, P2, hLI2, -, hC⟩ := e_way hLI i x
  have hM := hC l base (G, zfo ad' ty H) cA ad hl0
  dsimp only at hM
  rw [ha] at hM
  refine z_cl (z_runH (As := [.ref a0, .int i, .int x]) (rest := rest) (M.fr (zfo ad' ty H)) hN hS zh_way hM hTw.out rfl rfl hR hf hsz hr8 hdg) hS (fun H2 locs hw1 hS => ?_)
  obtain ⟨ad2, hag, hw2⟩ := hw1
  exact kk r H2 locs ⟨ad2, ad', ty, ty2, I, I2, L, L2, P, P2, hLI, hLI2, (hag 0 _ (zLI_t0 hLI)).trans ha, hb0, hTw.back hw2, hC⟩ hS
set_option maxHeartbeats 2000000 in
theorem z2_way (i x : Int32) (hl0 : l.stackTraces = false) (M : zM p s m c cc RL nL base (G, fun _ => none) cA) (hN : zNcs s) (hS : va_S (fun q => base ≤ q) s.heap H locs) {r : Int64} (hA : zLag_way base G cA n a0 b0 i x r H) (hsz : ls.size = nL) (hR : 8 + 1 ≤ R.frames ∧ 8 + (4 + 11) + 139 ≤ R.locals) (hf : cells + 2 ≤ R.cells ∧ slots + 12 ≤ R.slots) (hr8 : (rest.map fun v => v.category).sum ≤ 8) (hdg : decode cc pc = .ok (.invokestatic 110, 3)) (kk : ∀ (H : Heap) (locs : List Loc), zAl base G cA n a0 b0 H → va_S (fun q => base ≤ q) s.heap H locs → W p l e R s m args below meth c H locs (cells + 2) (slots + 12) Q (F0 m (pc + 3) ls (.long r :: rest))) : W p l e R s m args below meth c H locs cells slots Q (F0 m pc ls (.int x :: .int i :: .ref b0 :: rest)) := by
  obtain ⟨ad, ad', ty, ty2, I, I2, L, L2, P, P2, hLI, hLI2, ha, hb0, hTw, hC⟩ := hA
  have hM := hC l base (G, zfo ad ty2 H) cA ad' hl0
  rw [hb0] at hM
  refine z_cl (z_runH (As := [.ref b0, .int i, .int x]) (rest := rest) (M.fr (zfo ad ty2 H)) hN hS zh_way hM hTw.swap.out rfl rfl hR hf hsz hr8 hdg) hS (fun H2 locs hw1 hS => ?_)
  obtain ⟨ad2, hag, hw2⟩ := hw1
  exact kk H2 locs ⟨ad, ad2, ty2, I2, L2, P2, hLI2, ha, (hag 0 _ (zLI_t0 hLI)).trans hb0, (hTw.swap.back hw2).swap⟩ hS
/-- the first chart has answered this call, the second one not yet -/
def zLag_sum (base : Nat) (G : va_G) (cA : Nat → ClassId) (n a0 b0 : Nat) (i x : Int32) (r : Int64) (H : Heap) : Prop := ∃ (ad ad' : Nat → Nat) (ty ty2 : zTyp) (I I2 : zIt) (L L2 : zLt) (P P2 : zPt), zLI n ty I L P ∧ zLI n ty2 I2 L2 P2 ∧ ad 0 = a0 ∧ ad' 0 = b0 ∧ zTw base G cA ad ad' ty2 ty I2 I L2 L P2 P H ∧ ∀ (l : Launch) (base : Nat) (D : zDD) (cA : Nat → ClassId) (ad : Nat → Nat), l.stackTraces = false → zMh l base D cA yL_sum cL_sum 4 [(0, 7, 8, 24), (0, 7, 13, 14)] 8 140 2 12 [.ref (ad 0), .int i, .int x] (zW base D cA ad ty I L P) r (fun H => ∃ ad2, (∀ κ t, ty κ = some t → ad2 κ = ad κ) ∧ zW base D cA ad2 ty2 I2 L2 P2 H)
set_option maxHeartbeats 2000000 in
theorem z1_sum (i x : Int32) (hl0 : l.stackTraces = false) (M : zM p s m c cc RL nL base (G, fun _ => none) cA) (hN : zNcs s) (hS : va_S (fun q => base ≤ q) s.heap H locs) (hA : zAl base G cA n a0 b0 H) (hsz : ls.size = nL) (hR : 8 + 1 ≤ R.frames ∧ 8 + (4 + 11) + 140 ≤ R.locals) (hf : cells + 2 ≤ R.cells ∧ slots + 12 ≤ R.slots) (hr8 : (rest.map fun v => v.category).sum ≤ 8) (hdg : decode cc pc = .ok (.invokestatic 112, 3)) (kk : ∀ (r : Int64) (H : Heap) (locs : List Loc), zLag_sum base G cA n a0 b0 i x r H → va_S (fun q => base ≤ q) s.heap H locs → W p l e R s m args below meth c H locs (cells + 2) (slots + 12) Q (F0 m (pc + 3) ls (.long r :: rest))) : W p l e R s m args below meth c H locs cells slots Q (F0 m pc ls (.int x :: .int i :: .ref a0 :: rest)) := by
  obtain ⟨ad, ad', ty, I, L, P, hLI, ha, hb0, hTw⟩ := hA
  obtain ⟨r, ty2, I2, L2, P2, hLI2, -, hC⟩ := e_sum hLI i x
  have hM := hC l base (G, zfo ad' ty H) cA ad hl0
  dsimp only at hM
  rw [ha] at hM
  refine z_cl (z_runH (As := [.ref a0, .int i, .int x]) (rest := rest) (M.fr (zfo ad' ty H)) hN hS zh_sum hM hTw.out rfl rfl hR hf hsz hr8 hdg) hS (fun H2 locs hw1 hS => ?_)
  obtain ⟨ad2, hag, hw2⟩ := hw1
  exact kk r H2 locs ⟨ad2, ad', ty, ty2, I, I2, L, L2, P, P2, hLI, hLI2, (hag 0 _ (zLI_t0 hLI)).trans ha, hb0, hTw.back hw2, hC⟩ hS
set_option maxHeartbeats 2000000 in
theorem z2_sum (i x : Int32) (hl0 : l.stackTraces = false) (M : zM p s m c cc RL nL base (G, fun _ => none) cA) (hN : zNcs s) (hS : va_S (fun q => base ≤ q) s.heap H locs) {r : Int64} (hA : zLag_sum base G cA n a0 b0 i x r H) (hsz : ls.size = nL) (hR : 8 + 1 ≤ R.frames ∧ 8 + (4 + 11) + 140 ≤ R.locals) (hf : cells + 2 ≤ R.cells ∧ slots + 12 ≤ R.slots) (hr8 : (rest.map fun v => v.category).sum ≤ 8) (hdg : decode cc pc = .ok (.invokestatic 112, 3)) (kk : ∀ (H : Heap) (locs : List Loc), zAl base G cA n a0 b0 H → va_S (fun q => base ≤ q) s.heap H locs → W p l e R s m args below meth c H locs (cells + 2) (slots + 12) Q (F0 m (pc + 3) ls (.long r :: rest))) : W p l e R s m args below meth c H locs cells slots Q (F0 m pc ls (.int x :: .int i :: .ref b0 :: rest)) := by
  obtain ⟨ad, ad', ty, ty2, I, I2, L, L2, P, P2, hLI, hLI2, ha, hb0, hTw, hC⟩ := hA
  have hM := hC l base (G, zfo ad ty2 H) cA ad' hl0
  rw [hb0] at hM
  refine z_cl (z_runH (As := [.ref b0, .int i, .int x]) (rest := rest) (M.fr (zfo ad ty2 H)) hN hS zh_sum hM hTw.swap.out rfl rfl hR hf hsz hr8 hdg) hS (fun H2 locs hw1 hS => ?_)
  obtain ⟨ad2, hag, hw2⟩ := hw1
  exact kk H2 locs ⟨ad, ad2, ty2, I2, L2, P2, hLI2, ha, (hag 0 _ (zLI_t0 hLI)).trans hb0, (hTw.swap.back hw2).swap⟩ hS
/-- the first chart has answered this call, the second one not yet -/
def zLag_account (base : Nat) (G : va_G) (cA : Nat → ClassId) (n a0 b0 : Nat) (i x : Int32) (r : Int64) (H : Heap) : Prop := ∃ (ad ad' : Nat → Nat) (ty ty2 : zTyp) (I I2 : zIt) (L L2 : zLt) (P P2 : zPt), zLI n ty I L P ∧ zLI n ty2 I2 L2 P2 ∧ ad 0 = a0 ∧ ad' 0 = b0 ∧ zTw base G cA ad ad' ty2 ty I2 I L2 L P2 P H ∧ ∀ (l : Launch) (base : Nat) (D : zDD) (cA : Nat → ClassId) (ad : Nat → Nat), l.stackTraces = false → zMh l base D cA yL_account cL_account 4 [(0, 6, 7, 24), (0, 6, 12, 14)] 8 135 2 12 [.ref (ad 0), .int i, .int x] (zW base D cA ad ty I L P) r (fun H => ∃ ad2, (∀ κ t, ty κ = some t → ad2 κ = ad κ) ∧ zW base D cA ad2 ty2 I2 L2 P2 H)
set_option maxHeartbeats 2000000 in
theorem z1_account (i x : Int32) (hl0 : l.stackTraces = false) (M : zM p s m c cc RL nL base (G, fun _ => none) cA) (hN : zNcs s) (hS : va_S (fun q => base ≤ q) s.heap H locs) (hA : zAl base G cA n a0 b0 H) (hsz : ls.size = nL) (hR : 8 + 1 ≤ R.frames ∧ 8 + (4 + 11) + 135 ≤ R.locals) (hf : cells + 2 ≤ R.cells ∧ slots + 12 ≤ R.slots) (hr8 : (rest.map fun v => v.category).sum ≤ 8) (hdg : decode cc pc = .ok (.invokestatic 114, 3)) (kk : ∀ (r : Int64) (H : Heap) (locs : List Loc), zLag_account base G cA n a0 b0 i x r H → va_S (fun q => base ≤ q) s.heap H locs → W p l e R s m args below meth c H locs (cells + 2) (slots + 12) Q (F0 m (pc + 3) ls (.long r :: rest))) : W p l e R s m args below meth c H locs cells slots Q (F0 m pc ls (.int x :: .int i :: .ref a0 :: rest)) := by
  obtain ⟨ad, ad', ty, I, L, P, hLI, ha, hb0, hTw⟩ := hA
  obtain ⟨r, ty2, I2, L2, P2, hLI2, -, hC⟩ := e_account hLI i x
  have hM := hC l base (G, zfo ad' ty H) cA ad hl0
  dsimp only at hM
  rw [ha] at hM
  refine z_cl (z_runH (As := [.ref a0, .int i, .int x]) (rest := rest) (M.fr (zfo ad' ty H)) hN hS zh_account hM hTw.out rfl rfl hR hf hsz hr8 hdg) hS (fun H2 locs hw1 hS => ?_)
  obtain ⟨ad2, hag, hw2⟩ := hw1
  exact kk r H2 locs ⟨ad2, ad', ty, ty2, I, I2, L, L2, P, P2, hLI, hLI2, (hag 0 _ (zLI_t0 hLI)).trans ha, hb0, hTw.back hw2, hC⟩ hS
set_option maxHeartbeats 2000000 in
theorem z2_account (i x : Int32) (hl0 : l.stackTraces = false) (M : zM p s m c cc RL nL base (G, fun _ => none) cA) (hN : zNcs s) (hS : va_S (fun q => base ≤ q) s.heap H locs) {r : Int64} (hA : zLag_account base G cA n a0 b0 i x r H) (hsz : ls.size = nL) (hR : 8 + 1 ≤ R.frames ∧ 8 + (4 + 11) + 135 ≤ R.locals) (hf : cells + 2 ≤ R.cells ∧ slots + 12 ≤ R.slots) (hr8 : (rest.map fun v => v.category).sum ≤ 8) (hdg : decode cc pc = .ok (.invokestatic 114, 3)) (kk : ∀ (H : Heap) (locs : List Loc), zAl base G cA n a0 b0 H → va_S (fun q => base ≤ q) s.heap H locs → W p l e R s m args below meth c H locs (cells + 2) (slots + 12) Q (F0 m (pc + 3) ls (.long r :: rest))) : W p l e R s m args below meth c H locs cells slots Q (F0 m pc ls (.int x :: .int i :: .ref b0 :: rest)) := by
  obtain ⟨ad, ad', ty, ty2, I, I2, L, L2, P, P2, hLI, hLI2, ha, hb0, hTw, hC⟩ := hA
  have hM := hC l base (G, zfo ad ty2 H) cA ad' hl0
  rw [hb0] at hM
  refine z_cl (z_runH (As := [.ref b0, .int i, .int x]) (rest := rest) (M.fr (zfo ad ty2 H)) hN hS zh_account hM hTw.swap.out rfl rfl hR hf hsz hr8 hdg) hS (fun H2 locs hw1 hS => ?_)
  obtain ⟨ad2, hag, hw2⟩ := hw1
  exact kk H2 locs ⟨ad, ad2, ty2, I2, L2, P2, hLI2, ha, (hag 0 _ (zLI_t0 hLI)).trans hb0, (hTw.swap.back hw2).swap⟩ hS
/-- the first chart has answered this call, the second one not yet -/
def zLag_reach (base : Nat) (G : va_G) (cA : Nat → ClassId) (n a0 b0 : Nat) (i : Int32) (r : Int64) (H : Heap) : Prop := ∃ (ad ad' : Nat → Nat) (ty ty2 : zTyp) (I I2 : zIt) (L L2 : zLt) (P P2 : zPt), zLI n ty I L P ∧ zLI n ty2 I2 L2 P2 ∧ ad 0 = a0 ∧ ad' 0 = b0 ∧ zTw base G cA ad ad' ty2 ty I2 I L2 L P2 P H ∧ ∀ (l : Launch) (base : Nat) (D : zDD) (cA : Nat → ClassId) (ad : Nat → Nat), l.stackTraces = false → zMh l base D cA yL_reach cL_reach 3 [(0, 6, 7, 24)] 8 132 1 6 [.ref (ad 0), .int i] (zW base D cA ad ty I L P) r (fun H => ∃ ad2, (∀ κ t, ty κ = some t → ad2 κ = ad κ) ∧ zW base D cA ad2 ty2 I2 L2 P2 H)
set_option maxHeartbeats 2000000 in
theorem z1_reach (i : Int32) (hl0 : l.stackTraces = false) (M : zM p s m c cc RL nL base (G, fun _ => none) cA) (hN : zNcs s) (hS : va_S (fun q => base ≤ q) s.heap H locs) (hA : zAl base G cA n a0 b0 H) (hsz : ls.size = nL) (hR : 8 + 1 ≤ R.frames ∧ 8 + (3 + 11) + 132 ≤ R.locals) (hf : cells + 1 ≤ R.cells ∧ slots + 6 ≤ R.slots) (hr8 : (rest.map fun v => v.category).sum ≤ 8) (hdg : decode cc pc = .ok (.invokestatic 116, 3)) (kk : ∀ (r : Int64) (H : Heap) (locs : List Loc), zLag_reach base G cA n a0 b0 i r H → va_S (fun q => base ≤ q) s.heap H locs → W p l e R s m args below meth c H locs (cells + 1) (slots + 6) Q (F0 m (pc + 3) ls (.long r :: rest))) : W p l e R s m args below meth c H locs cells slots Q (F0 m pc ls (.int i :: .ref a0 :: rest)) := by
  obtain ⟨ad, ad', ty, I, L, P, hLI, ha, hb0, hTw⟩ := hA
  obtain ⟨r, ty2, I2, L2, P2, hLI2, -, hC⟩ := e_reach hLI i
  have hM := hC l base (G, zfo ad' ty H) cA ad hl0
  dsimp only at hM
  rw [ha] at hM
  refine z_cl (z_runH (As := [.ref a0, .int i]) (rest := rest) (M.fr (zfo ad' ty H)) hN hS zh_reach hM hTw.out rfl rfl hR hf hsz hr8 hdg) hS (fun H2 locs hw1 hS => ?_)
  obtain ⟨ad2, hag, hw2⟩ := hw1
  exact kk r H2 locs ⟨ad2, ad', ty, ty2, I, I2, L, L2, P, P2, hLI, hLI2, (hag 0 _ (zLI_t0 hLI)).trans ha, hb0, hTw.back hw2, hC⟩ hS
set_option maxHeartbeats 2000000 in
theorem z2_reach (i : Int32) (hl0 : l.stackTraces = false) (M : zM p s m c cc RL nL base (G, fun _ => none) cA) (hN : zNcs s) (hS : va_S (fun q => base ≤ q) s.heap H locs) {r : Int64} (hA : zLag_reach base G cA n a0 b0 i r H) (hsz : ls.size = nL) (hR : 8 + 1 ≤ R.frames ∧ 8 + (3 + 11) + 132 ≤ R.locals) (hf : cells + 1 ≤ R.cells ∧ slots + 6 ≤ R.slots) (hr8 : (rest.map fun v => v.category).sum ≤ 8) (hdg : decode cc pc = .ok (.invokestatic 116, 3)) (kk : ∀ (H : Heap) (locs : List Loc), zAl base G cA n a0 b0 H → va_S (fun q => base ≤ q) s.heap H locs → W p l e R s m args below meth c H locs (cells + 1) (slots + 6) Q (F0 m (pc + 3) ls (.long r :: rest))) : W p l e R s m args below meth c H locs cells slots Q (F0 m pc ls (.int i :: .ref b0 :: rest)) := by
  obtain ⟨ad, ad', ty, ty2, I, I2, L, L2, P, P2, hLI, hLI2, ha, hb0, hTw, hC⟩ := hA
  have hM := hC l base (G, zfo ad ty2 H) cA ad' hl0
  rw [hb0] at hM
  refine z_cl (z_runH (As := [.ref b0, .int i]) (rest := rest) (M.fr (zfo ad ty2 H)) hN hS zh_reach hM hTw.swap.out rfl rfl hR hf hsz hr8 hdg) hS (fun H2 locs hw1 hS => ?_)
  obtain ⟨ad2, hag, hw2⟩ := hw1
  exact kk H2 locs ⟨ad, ad2, ty2, I2, L2, P2, hLI2, ha, (hag 0 _ (zLI_t0 hLI)).trans hb0, (hTw.swap.back hw2).swap⟩ hS
end ZP1
set_option maxHeartbeats 8000000 in
set_option maxRecDepth 100000 in
theorem c_L_areAlike (l : Launch) (hl0 : l.stackTraces = false) (base : Nat) (G : va_G) (cA : Nat → ClassId) (n a0 b0 : Nat) (v : Int32) : zNz l base (G, fun _ => none) cA yL_areAlike cL_areAlike 5 9 163 102 612 [.ref a0, .ref b0, .int v] (zAl base G cA n a0 b0) 1 (zAl base G cA n a0 b0) := by
  refine z_nstart (by decide +kernel) (Nat.le_of_ble_eq_true rfl) fun p e s m below meth c ls M hA hS hl hr hlocks hN => ?_
  have M : zM p s m c cL_areAlike RL 5 base (G, fun _ => none) cA := M
  obtain ⟨hx, hb, -⟩ := id M
  have hl : lv_has ls 5 [(0, .ref a0), (1, .ref b0), (2, .int v)] := hl
  refine lv_aload_n hx hb dL_areAlike_0 rfl (lv_at hl 0 rfl) ?_
  refine lv_iload_n hx hb dL_areAlike_1 rfl (lv_at hl 2 rfl) ?_
  refine lv_iconst (v := 4) hx hb dL_areAlike_2 (by decide) ?_
  refine z_ci (z_runS (As := [.int v, .int 4]) (rest := [.ref a0]) M hS zc_L_76 (c_L_low l base (G, fun _ => none) cA (zAl base G cA n a0 b0) v 4 (by decide)) hA rfl rfl ⟨Nat.le_of_ble_eq_true rfl, Nat.le_of_ble_eq_true rfl⟩ ⟨(by show _ ≤ 102; omega), (by show _ ≤ 612; omega)⟩ hl.1 (Nat.le_of_ble_eq_true rfl) dL_areAlike_3) hS (fun H locs hA hS => ?_)
  refine z1_faultAt (rest := []) (zlow v 4) hl0 M hN hS hA hl.1 ⟨Nat.le_of_ble_eq_true rfl, Nat.le_of_ble_eq_true rfl⟩ ⟨(by show _ ≤ 102; omega), (by show _ ≤ 612; omega)⟩ (Nat.le_of_ble_eq_true rfl) dL_areAlike_6 (fun r H locs hA hS => ?_)
  refine lv_aload_n hx hb dL_areAlike_9 rfl (lv_at hl 1 rfl) ?_
  refine lv_iload_n hx hb dL_areAlike_10 rfl (lv_at hl 2 rfl) ?_
  refine lv_iconst (v := 4) hx hb dL_areAlike_11 (by decide) ?_
  refine z_ci (z_runS (As := [.int v, .int 4]) (rest := [.ref b0, .long r]) M hS zc_L_76 (c_L_low l base (G, fun _ => none) cA (zLag_faultAt base G cA n a0 b0 (zlow v 4) r) v 4 (by decide)) hA rfl rfl ⟨Nat.le_of_ble_eq_true rfl, Nat.le_of_ble_eq_true rfl⟩ ⟨(by show _ ≤ 102; omega), (by show _ ≤ 612; omega)⟩ hl.1 (Nat.le_of_ble_eq_true rfl) dL_areAlike_12) hS (fun H locs hA hS => ?_)
  refine z2_faultAt (rest := [.long r]) (zlow v 4) hl0 M hN hS hA hl.1 ⟨Nat.le_of_ble_eq_true rfl, Nat.le_of_ble_eq_true rfl⟩ ⟨(by show _ ≤ 102; omega), (by show _ ≤ 612; omega)⟩ (Nat.le_of_ble_eq_true rfl) dL_areAlike_15 (fun H locs hA hS => ?_)
  refine W.lcmp hx hb dL_areAlike_18 ?_
  refine lv_if_ne (tgt := 26) hx hb dL_areAlike_19 (by decide) (fun c1 => absurd ((lg_cmp_eq _ _).mpr rfl) c1) (fun c1 => ?_)
  refine lv_iconst (v := 1) hx hb dL_areAlike_22 (by decide) ?_
  refine lv_goto (tgt := 27) hx hb dL_areAlike_23 (by decide) ?_
  refine lv_istore_n (lv' := [(3, .int 1), (0, .ref a0), (1, .ref b0), (2, .int v)]) hx hb dL_areAlike_27 rfl hl (by decide) rfl (fun ls hl => ?_)
  refine lv_iconst (v := 0) hx hb dL_areAlike_28 (by decide) ?_
  refine z_topi (y := nI 0) rfl ?_
  refine lv_istore (lv' := [(4, .int (nI 0)), (3, .int 1), (0, .ref a0), (1, .ref b0), (2, .int v)]) hx hb dL_areAlike_29 hl (by decide) rfl (fun ls hl => ?_)
  refine W.widen (k := 2) (n := 12) (Nat.le_of_ble_eq_true rfl) (Nat.le_of_ble_eq_true rfl) ?_
  refine z_loopc 5 2 20 12 120 (fun k H locs ls => zAl base G cA n a0 b0 H ∧ va_S (fun q => base ≤ q) s.heap H locs ∧ lv_has ls 5 [(4, .int (nI k)), (3, .int 1), (0, .ref a0), (1, .ref b0), (2, .int v)]) ⟨hA, hS, hl⟩ (fun k hk ih H locs ls hI => ?_)
  obtain ⟨hA, hS, hl⟩ := hI
  refine lv_iload hx hb dL_areAlike_31 (lv_at hl 0 rfl) ?_
  refine lv_iconst (v := 5) hx hb dL_areAlike_33 (by decide) ?_
  refine lv_icmp_ge (tgt := 203) hx hb dL_areAlike_34 (by decide) (fun c1 => ?_) (fun c1 => ?_)
  · refine lv_iload_n hx hb dL_areAlike_203 rfl (lv_at hl 1 rfl) ?_
    exact z_iret hx hb hr rfl rfl hS hA (by show _ ≤ 102; omega) (by show _ ≤ 612; omega) dL_areAlike_204 hlocks
  · have hk5 : k < 5 := z_lt (show ¬ nI 5 ≤ nI k from c1) (by omega)
    refine lv_iload_n hx hb dL_areAlike_37 rfl (lv_at hl 1 rfl) ?_
    refine lv_if_eq (tgt := 203) hx hb dL_areAlike_38 (by decide) (fun c2 => absurd c2 (by decide)) (fun c2 => ?_)
    refine lv_aload_n hx hb dL_areAlike_41 rfl (lv_at hl 2 rfl) ?_
    refine lv_iload hx hb dL_areAlike_42 (lv_at hl 0 rfl) ?_
    refine z1_works (rest := []) (nI k) hl0 M hN hS hA hl.1 ⟨Nat.le_of_ble_eq_true rfl, Nat.le_of_ble_eq_true rfl⟩ ⟨(by show _ ≤ 102; omega), (by show _ ≤ 612; omega)⟩ (Nat.le_of_ble_eq_true rfl) dL_areAlike_44 (fun r H locs hA hS => ?_)
    refine lv_aload_n hx hb dL_areAlike_47 rfl (lv_at hl 3 rfl) ?_
    refine lv_iload hx hb dL_areAlike_48 (lv_at hl 0 rfl) ?_
    refine z2_works (rest := [.long r]) (nI k) hl0 M hN hS hA hl.1 ⟨Nat.le_of_ble_eq_true rfl, Nat.le_of_ble_eq_true rfl⟩ ⟨(by show _ ≤ 102; omega), (by show _ ≤ 612; omega)⟩ (Nat.le_of_ble_eq_true rfl) dL_areAlike_50 (fun H locs hA hS => ?_)
    refine W.lcmp hx hb dL_areAlike_53 ?_
    refine lv_if_ne (tgt := 195) hx hb dL_areAlike_54 (by decide) (fun c1 => absurd ((lg_cmp_eq _ _).mpr rfl) c1) (fun c1 => ?_)
    refine lv_aload_n hx hb dL_areAlike_57 rfl (lv_at hl 2 rfl) ?_
    refine lv_iload hx hb dL_areAlike_58 (lv_at hl 0 rfl) ?_
    refine lv_iload_n hx hb dL_areAlike_60 rfl (lv_at hl 4 rfl) ?_
    refine lv_iconst (v := 5) hx hb dL_areAlike_61 (by decide) ?_
    refine z_ci (z_runS (As := [.int v, .int 5]) (rest := [.int (nI k), .ref a0]) M hS zc_L_76 (c_L_low l base (G, fun _ => none) cA (zAl base G cA n a0 b0) v 5 (by decide)) hA rfl rfl ⟨Nat.le_of_ble_eq_true rfl, Nat.le_of_ble_eq_true rfl⟩ ⟨(by show _ ≤ 102; omega), (by show _ ≤ 612; omega)⟩ hl.1 (Nat.le_of_ble_eq_true rfl) dL_areAlike_62) hS (fun H locs hA hS => ?_)
    refine z1_shipOf (rest := []) (nI k) (zlow v 5) hl0 M hN hS hA hl.1 ⟨Nat.le_of_ble_eq_true rfl, Nat.le_of_ble_eq_true rfl⟩ ⟨(by show _ ≤ 102; omega), (by show _ ≤ 612; omega)⟩ (Nat.le_of_ble_eq_true rfl) dL_areAlike_65 (fun r H locs hA hS => ?_)
    refine lv_aload_n hx hb dL_areAlike_68 rfl (lv_at hl 3 rfl) ?_
    refine lv_iload hx hb dL_areAlike_69 (lv_at hl 0 rfl) ?_
    refine lv_iload_n hx hb dL_areAlike_71 rfl (lv_at hl 4 rfl) ?_
    refine lv_iconst (v := 5) hx hb dL_areAlike_72 (by decide) ?_
    refine z_ci (z_runS (As := [.int v, .int 5]) (rest := [.int (nI k), .ref b0, .long r]) M hS zc_L_76 (c_L_low l base (G, fun _ => none) cA (zLag_shipOf base G cA n a0 b0 (nI k) (zlow v 5) r) v 5 (by decide)) hA rfl rfl ⟨Nat.le_of_ble_eq_true rfl, Nat.le_of_ble_eq_true rfl⟩ ⟨(by show _ ≤ 102; omega), (by show _ ≤ 612; omega)⟩ hl.1 (Nat.le_of_ble_eq_true rfl) dL_areAlike_73) hS (fun H locs hA hS => ?_)
    refine z2_shipOf (rest := [.long r]) (nI k) (zlow v 5) hl0 M hN hS hA hl.1 ⟨Nat.le_of_ble_eq_true rfl, Nat.le_of_ble_eq_true rfl⟩ ⟨(by show _ ≤ 102; omega), (by show _ ≤ 612; omega)⟩ (Nat.le_of_ble_eq_true rfl) dL_areAlike_76 (fun H locs hA hS => ?_)
    refine W.lcmp hx hb dL_areAlike_79 ?_
    refine lv_if_ne (tgt := 195) hx hb dL_areAlike_80 (by decide) (fun c1 => absurd ((lg_cmp_eq _ _).mpr rfl) c1) (fun c1 => ?_)
    refine lv_aload_n hx hb dL_areAlike_83 rfl (lv_at hl 2 rfl) ?_
    refine lv_iload hx hb dL_areAlike_84 (lv_at hl 0 rfl) ?_
    refine lv_iload_n hx hb dL_areAlike_86 rfl (lv_at hl 4 rfl) ?_
    refine lv_iconst (v := 2) hx hb dL_areAlike_87 (by decide) ?_
    refine lv_ishr hx hb dL_areAlike_88 ?_
    refine lv_iconst (v := 3) hx hb dL_areAlike_89 (by decide) ?_
    refine z_ci (z_runS (As := [.int (v >>> (2 &&& 31)), .int 3]) (rest := [.int (nI k), .ref a0]) M hS zc_L_76 (c_L_low l base (G, fun _ => none) cA (zAl base G cA n a0 b0) (v >>> (2 &&& 31)) 3 (by decide)) hA rfl rfl ⟨Nat.le_of_ble_eq_true rfl, Nat.le_of_ble_eq_true rfl⟩ ⟨(by show _ ≤ 102; omega), (by show _ ≤ 612; omega)⟩ hl.1 (Nat.le_of_ble_eq_true rfl) dL_areAlike_90) hS (fun H locs hA hS => ?_)
    refine z1_way (rest := []) (nI k) (zlow (v >>> (2 &&& 31)) 3) hl0 M hN hS hA hl.1 ⟨Nat.le_of_ble_eq_true rfl, Nat.le_of_ble_eq_true rfl⟩ ⟨(by show _ ≤ 102; omega), (by show _ ≤ 612; omega)⟩ (Nat.le_of_ble_eq_true rfl) dL_areAlike_93 (fun r H locs hA hS => ?_)
    refine lv_aload_n hx hb dL_areAlike_96 rfl (lv_at hl 3 rfl) ?_
    refine lv_iload hx hb dL_areAlike_97 (lv_at hl 0 rfl) ?_
    refine lv_iload_n hx hb dL_areAlike_99 rfl (lv_at hl 4 rfl) ?_
    refine lv_iconst (v := 2) hx hb dL_areAlike_100 (by decide) ?_
    refine lv_ishr hx hb dL_areAlike_101 ?_
    refine lv_iconst (v := 3) hx hb dL_areAlike_102 (by decide) ?_
    refine z_ci (z_runS (As := [.int (v >>> (2 &&& 31)), .int 3]) (rest := [.int (nI k), .ref b0, .long r]) M hS zc_L_76 (c_L_low l base (G, fun _ => none) cA (zLag_way base G cA n a0 b0 (nI k) (zlow (v >>> (2 &&& 31)) 3) r) (v >>> (2 &&& 31)) 3 (by decide)) hA rfl rfl ⟨Nat.le_of_ble_eq_true rfl, Nat.le_of_ble_eq_true rfl⟩ ⟨(by show _ ≤ 102; omega), (by show _ ≤ 612; omega)⟩ hl.1 (Nat.le_of_ble_eq_true rfl) dL_areAlike_103) hS (fun H locs hA hS => ?_)
    refine z2_way (rest := [.long r]) (nI k) (zlow (v >>> (2 &&& 31)) 3) hl0 M hN hS hA hl.1 ⟨Nat.le_of_ble_eq_true rfl, Nat.le_of_ble_eq_true rfl⟩ ⟨(by show _ ≤ 102; omega), (by show _ ≤ 612; omega)⟩ (Nat.le_of_ble_eq_true rfl) dL_areAlike_106 (fun H locs hA hS => ?_)
    refine W.lcmp hx hb dL_areAlike_109 ?_
    refine lv_if_ne (tgt := 195) hx hb dL_areAlike_110 (by decide) (fun c1 => absurd ((lg_cmp_eq _ _).mpr rfl) c1) (fun c1 => ?_)
    refine lv_aload_n hx hb dL_areAlike_113 rfl (lv_at hl 2 rfl) ?_
    refine lv_iload hx hb dL_areAlike_114 (lv_at hl 0 rfl) ?_
    refine lv_iload_n hx hb dL_areAlike_116 rfl (lv_at hl 4 rfl) ?_
    refine lv_iconst (v := 4) hx hb dL_areAlike_117 (by decide) ?_
    refine lv_ishr hx hb dL_areAlike_118 ?_
    refine lv_iconst (v := 3) hx hb dL_areAlike_119 (by decide) ?_
    refine z_ci (z_runS (As := [.int (v >>> (4 &&& 31)), .int 3]) (rest := [.int (nI k), .ref a0]) M hS zc_L_76 (c_L_low l base (G, fun _ => none) cA (zAl base G cA n a0 b0) (v >>> (4 &&& 31)) 3 (by decide)) hA rfl rfl ⟨Nat.le_of_ble_eq_true rfl, Nat.le_of_ble_eq_true rfl⟩ ⟨(by show _ ≤ 102; omega), (by show _ ≤ 612; omega)⟩ hl.1 (Nat.le_of_ble_eq_true rfl) dL_areAlike_120) hS (fun H locs hA hS => ?_)
    refine z1_sum (rest := []) (nI k) (zlow (v >>> (4 &&& 31)) 3) hl0 M hN hS hA hl.1 ⟨Nat.le_of_ble_eq_true rfl, Nat.le_of_ble_eq_true rfl⟩ ⟨(by show _ ≤ 102; omega), (by show _ ≤ 612; omega)⟩ (Nat.le_of_ble_eq_true rfl) dL_areAlike_123 (fun r H locs hA hS => ?_)
    refine lv_aload_n hx hb dL_areAlike_126 rfl (lv_at hl 3 rfl) ?_
    refine lv_iload hx hb dL_areAlike_127 (lv_at hl 0 rfl) ?_
    refine lv_iload_n hx hb dL_areAlike_129 rfl (lv_at hl 4 rfl) ?_
    refine lv_iconst (v := 4) hx hb dL_areAlike_130 (by decide) ?_
    refine lv_ishr hx hb dL_areAlike_131 ?_
    refine lv_iconst (v := 3) hx hb dL_areAlike_132 (by decide) ?_
    refine z_ci (z_runS (As := [.int (v >>> (4 &&& 31)), .int 3]) (rest := [.int (nI k), .ref b0, .long r]) M hS zc_L_76 (c_L_low l base (G, fun _ => none) cA (zLag_sum base G cA n a0 b0 (nI k) (zlow (v >>> (4 &&& 31)) 3) r) (v >>> (4 &&& 31)) 3 (by decide)) hA rfl rfl ⟨Nat.le_of_ble_eq_true rfl, Nat.le_of_ble_eq_true rfl⟩ ⟨(by show _ ≤ 102; omega), (by show _ ≤ 612; omega)⟩ hl.1 (Nat.le_of_ble_eq_true rfl) dL_areAlike_133) hS (fun H locs hA hS => ?_)
    refine z2_sum (rest := [.long r]) (nI k) (zlow (v >>> (4 &&& 31)) 3) hl0 M hN hS hA hl.1 ⟨Nat.le_of_ble_eq_true rfl, Nat.le_of_ble_eq_true rfl⟩ ⟨(by show _ ≤ 102; omega), (by show _ ≤ 612; omega)⟩ (Nat.le_of_ble_eq_true rfl) dL_areAlike_136 (fun H locs hA hS => ?_)
    refine W.lcmp hx hb dL_areAlike_139 ?_
    refine lv_if_ne (tgt := 195) hx hb dL_areAlike_140 (by decide) (fun c1 => absurd ((lg_cmp_eq _ _).mpr rfl) c1) (fun c1 => ?_)
    refine lv_aload_n hx hb dL_areAlike_143 rfl (lv_at hl 2 rfl) ?_
    refine lv_iload hx hb dL_areAlike_144 (lv_at hl 0 rfl) ?_
    refine lv_iload_n hx hb dL_areAlike_146 rfl (lv_at hl 4 rfl) ?_
    refine lv_bipush (v := 6) hx hb dL_areAlike_147 (by decide) ?_
    refine lv_ishr hx hb dL_areAlike_149 ?_
    refine lv_iconst (v := 4) hx hb dL_areAlike_150 (by decide) ?_
    refine z_ci (z_runS (As := [.int (v >>> (6 &&& 31)), .int 4]) (rest := [.int (nI k), .ref a0]) M hS zc_L_76 (c_L_low l base (G, fun _ => none) cA (zAl base G cA n a0 b0) (v >>> (6 &&& 31)) 4 (by decide)) hA rfl rfl ⟨Nat.le_of_ble_eq_true rfl, Nat.le_of_ble_eq_true rfl⟩ ⟨(by show _ ≤ 102; omega), (by show _ ≤ 612; omega)⟩ hl.1 (Nat.le_of_ble_eq_true rfl) dL_areAlike_151) hS (fun H locs hA hS => ?_)
    refine z1_account (rest := []) (nI k) (zlow (v >>> (6 &&& 31)) 4) hl0 M hN hS hA hl.1 ⟨Nat.le_of_ble_eq_true rfl, Nat.le_of_ble_eq_true rfl⟩ ⟨(by show _ ≤ 102; omega), (by show _ ≤ 612; omega)⟩ (Nat.le_of_ble_eq_true rfl) dL_areAlike_154 (fun r H locs hA hS => ?_)
    refine lv_aload_n hx hb dL_areAlike_157 rfl (lv_at hl 3 rfl) ?_
    refine lv_iload hx hb dL_areAlike_158 (lv_at hl 0 rfl) ?_
    refine lv_iload_n hx hb dL_areAlike_160 rfl (lv_at hl 4 rfl) ?_
    refine lv_bipush (v := 6) hx hb dL_areAlike_161 (by decide) ?_
    refine lv_ishr hx hb dL_areAlike_163 ?_
    refine lv_iconst (v := 4) hx hb dL_areAlike_164 (by decide) ?_
    refine z_ci (z_runS (As := [.int (v >>> (6 &&& 31)), .int 4]) (rest := [.int (nI k), .ref b0, .long r]) M hS zc_L_76 (c_L_low l base (G, fun _ => none) cA (zLag_account base G cA n a0 b0 (nI k) (zlow (v >>> (6 &&& 31)) 4) r) (v >>> (6 &&& 31)) 4 (by decide)) hA rfl rfl ⟨Nat.le_of_ble_eq_true rfl, Nat.le_of_ble_eq_true rfl⟩ ⟨(by show _ ≤ 102; omega), (by show _ ≤ 612; omega)⟩ hl.1 (Nat.le_of_ble_eq_true rfl) dL_areAlike_165) hS (fun H locs hA hS => ?_)
    refine z2_account (rest := [.long r]) (nI k) (zlow (v >>> (6 &&& 31)) 4) hl0 M hN hS hA hl.1 ⟨Nat.le_of_ble_eq_true rfl, Nat.le_of_ble_eq_true rfl⟩ ⟨(by show _ ≤ 102; omega), (by show _ ≤ 612; omega)⟩ (Nat.le_of_ble_eq_true rfl) dL_areAlike_168 (fun H locs hA hS => ?_)
    refine W.lcmp hx hb dL_areAlike_171 ?_
    refine lv_if_ne (tgt := 195) hx hb dL_areAlike_172 (by decide) (fun c1 => absurd ((lg_cmp_eq _ _).mpr rfl) c1) (fun c1 => ?_)
    refine lv_aload_n hx hb dL_areAlike_175 rfl (lv_at hl 2 rfl) ?_
    refine lv_iload hx hb dL_areAlike_176 (lv_at hl 0 rfl) ?_
    refine z1_reach (rest := []) (nI k) hl0 M hN hS hA hl.1 ⟨Nat.le_of_ble_eq_true rfl, Nat.le_of_ble_eq_true rfl⟩ ⟨(by show _ ≤ 102; omega), (by show _ ≤ 612; omega)⟩ (Nat.le_of_ble_eq_true rfl) dL_areAlike_178 (fun r H locs hA hS => ?_)
    refine lv_aload_n hx hb dL_areAlike_181 rfl (lv_at hl 3 rfl) ?_
    refine lv_iload hx hb dL_areAlike_182 (lv_at hl 0 rfl) ?_
    refine z2_reach (rest := [.long r]) (nI k) hl0 M hN hS hA hl.1 ⟨Nat.le_of_ble_eq_true rfl, Nat.le_of_ble_eq_true rfl⟩ ⟨(by show _ ≤ 102; omega), (by show _ ≤ 612; omega)⟩ (Nat.le_of_ble_eq_true rfl) dL_areAlike_184 (fun H locs hA hS => ?_)
    refine W.lcmp hx hb dL_areAlike_187 ?_
    refine lv_if_ne (tgt := 195) hx hb dL_areAlike_188 (by decide) (fun c1 => absurd ((lg_cmp_eq _ _).mpr rfl) c1) (fun c1 => ?_)
    refine lv_iconst (v := 1) hx hb dL_areAlike_191 (by decide) ?_
    refine lv_goto (tgt := 196) hx hb dL_areAlike_192 (by decide) ?_
    refine lv_istore_n (lv' := [(3, .int 1), (4, .int (nI k)), (0, .ref a0), (1, .ref b0), (2, .int v)]) hx hb dL_areAlike_196 rfl hl (by decide) rfl (fun ls hl => ?_)
    refine lv_iinc (v := nI (k + 1)) (lv' := [(4, .int (nI (k + 1))), (3, .int 1), (0, .ref a0), (1, .ref b0), (2, .int v)]) hx hb dL_areAlike_197 hl (k := 1) rfl (nI_succ _).symm (by decide) rfl (fun ls hl => ?_)
    refine lv_goto (tgt := 31) hx hb dL_areAlike_200 (by decide) ?_
    refine W.widen (k := 2 + 20 * (k + 1)) (n := 12 + 120 * (k + 1)) (by omega) (by omega) ?_
    exact ih hk5 H locs ls ⟨hA, hS, hl⟩
