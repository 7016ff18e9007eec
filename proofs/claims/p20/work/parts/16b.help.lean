/-! THE LAW'S HELPERS, one by one, over any chart whose tables hold the invariant: what it answers, what it leaves (laid by m_ex.py) -/
theorem z_thr (x : Int32) : ¬ x.toInt64 = -9000000000000000 := by
  intro h
  have h1 := congrArg Int64.toInt h
  rw [Int32.toInt_toInt64] at h1
  have h2 := x.le_toInt
  have h3 : (-9000000000000000 : Int64).toInt = -9000000000000000 := by decide
  omega
/-- a helper's contract, whatever the chart's place is -/
def zEf (n' : Nat) (ty : zTyp) (I : zIt) (L : zLt) (P : zPt) (C : Launch → Nat → zDD → (Nat → ClassId) → (Nat → Nat) → Int64 → (Heap → Prop) → Prop) : Prop :=
  ∃ (r : Int64) (ty2 : zTyp) (I2 : zIt) (L2 : zLt) (P2 : zPt), zLI n' ty2 I2 L2 P2 ∧ (r = -9000000000000000 → ty2 = ty ∧ I2 = I ∧ L2 = L ∧ P2 = P) ∧
    ∀ (l : Launch) (base : Nat) (D : zDD) (cA : Nat → ClassId) (ad : Nat → Nat), l.stackTraces = false → C l base D cA ad r (fun H => ∃ ad2, (∀ κ t, ty κ = some t → ad2 κ = ad κ) ∧ zW base D cA ad2 ty2 I2 L2 P2 H)
section ZTK
variable {l : Launch} {base : Nat} {D : zDD} {cA : Nat → ClassId} {y : MethodName} {bytes : ByteArray} {maxL fr lo mc ms oc : Nat} {hh : List (Nat × Nat × Nat × Nat)} {av : List Value} {W0 : Heap → Prop} {V : Int64} {ad : Nat → Nat} {ty : zTyp} {A B : (Nat → Nat) → Heap → Prop}
theorem z_take (h0 : oc = 0) (z : zMh l base D cA y bytes maxL hh fr lo mc ms av W0 (if oc = 0 then V else -9000000000000000) (fun H => ∃ ad2, (∀ κ t, ty κ = some t → ad2 κ = ad κ) ∧ if oc = 0 then A ad2 H else B ad2 H)) :
    zMh l base D cA y bytes maxL hh fr lo mc ms av W0 V (fun H => ∃ ad2, (∀ κ t, ty κ = some t → ad2 κ = ad κ) ∧ A ad2 H) := by
  simp only [if_pos h0] at z
  exact z
theorem z_left (h0 : ¬ oc = 0) (z : zMh l base D cA y bytes maxL hh fr lo mc ms av W0 (if oc = 0 then V else -9000000000000000) (fun H => ∃ ad2, (∀ κ t, ty κ = some t → ad2 κ = ad κ) ∧ if oc = 0 then A ad2 H else B ad2 H)) :
    zMh l base D cA y bytes maxL hh fr lo mc ms av W0 (-9000000000000000) (fun H => ∃ ad2, (∀ κ t, ty κ = some t → ad2 κ = ad κ) ∧ B ad2 H) := by
  simp only [if_neg h0] at z
  exact z
end ZTK
set_option maxHeartbeats 2000000 in
theorem e_island {n : Nat} {ty : zTyp} {I : zIt} {L : zLt} {P : zPt} (h : zLI n ty I L P) (i j : Int32) : zEf n ty I L P (fun l base D cA ad r W1 => zMh l base D cA yL_island cL_island 4 [(0, 7, 8, 14), (0, 7, 13, 18)] 8 134 4 20 [.ref (ad 0), .int i, .int j] (zW base D cA ad ty I L P) r W1) := by
  obtain ⟨ni, nc, ns, nt, hrs, J, K, hT, hR0, hh⟩ := h
  obtain ⟨hC, hF⟩ := id hT
  have hbd := zREL_bd hR0
  have hI := zREL_inv hR0
  have ht0 := zc_t0 hC
  have hz := zt_island hbd.1 i j
  have hM : ∀ (l : Launch) (base : Nat) (D : zDD) (cA : Nat → ClassId) (ad : Nat → Nat), l.stackTraces = false → _ := fun l base D cA ad hl0 => c_X6_island l base D cA ad ty I L P hl0 ni nc ns nt hC hI (fun z => hF.1 ni (Nat.le_refl _) z) i j
  have hoc : (zsq (zo2 i 0 99) (zsq (zo2 j 0 99) (zo3 (nI ni) 10))) = 0 ∨ (zsq (zo2 i 0 99) (zsq (zo2 j 0 99) (zo3 (nI ni) 10))) = 2 ∨ (zsq (zo2 i 0 99) (zsq (zo2 j 0 99) (zo3 (nI ni) 10))) = 3 := by
    rcases hz with ⟨q, -⟩ | ⟨q, -⟩ | ⟨q, -⟩
    · rw [q]; decide
    · rw [q]; decide
    · rw [q]; decide
  by_cases h0 : (zsq (zo2 i 0 99) (zsq (zo2 j 0 99) (zo3 (nI ni) 10))) = 0
  · rcases hz with ⟨-, -, h1, h2, h3⟩ | ⟨q, -⟩ | ⟨q, -⟩
    · have r1 := s2_island hR0 h1 h2 h3
      refine ⟨((nI ni)).toInt64, (zs ty (16 + ni) (some (1, 0))), (zu (zu (zu (zs I (16 + ni) (fun _ => 0)) (16 + ni) 0 i) (16 + ni) 1 j) 0 1 (nI (ni + 1))), (zs L (16 + ni) (fun _ => 0)), (zu (zs P (16 + ni) (fun _ => none)) 2 ni (some (16 + ni))), ⟨(ni + 1), nc, ns, nt, hrs, _, _, zT_island hT h3, r1, hh⟩, fun q => absurd q (z_thr _), fun l base D cA ad hl0 => ?_⟩
      exact z_take h0 (c_L_island l base D cA ad ty I L P 0 ht0 i j (hM l base D cA ad hl0) hoc (fun H z => z))
    · exact absurd (q.symm.trans h0) (by decide)
    · exact absurd (q.symm.trans h0) (by decide)
  · refine ⟨-9000000000000000, ty, I, L, P, ⟨ni, nc, ns, nt, hrs, J, K, hT, hR0, hh⟩, fun _ => ⟨rfl, rfl, rfl, rfl⟩, fun l base D cA ad hl0 => ?_⟩
    exact z_left h0 (c_L_island l base D cA ad ty I L P 0 ht0 i j (hM l base D cA ad hl0) hoc (fun H z => z))
set_option maxHeartbeats 2000000 in
theorem e_cable {n : Nat} {ty : zTyp} {I : zIt} {L : zLt} {P : zPt} (h : zLI n ty I L P) (i j k x y : Int32) : zEf n ty I L P (fun l base D cA ad r W1 => zMh l base D cA yL_cable cL_cable 7 [(0, 12, 13, 24), (0, 12, 19, 14), (0, 12, 25, 18)] 8 137 8 48 [.ref (ad 0), .int i, .int j, .int k, .int x, .int y] (zW base D cA ad ty I L P) r W1) := by
  obtain ⟨ni, nc, ns, nt, hrs, J, K, hT, hR0, hh⟩ := h
  obtain ⟨hC, hF⟩ := id hT
  have hbd := zREL_bd hR0
  have hI := zREL_inv hR0
  have ht0 := zc_t0 hC
  have hz := zt_cable (ni := ni) hbd.2.1 i j k x y
  have hM : ∀ (l : Launch) (base : Nat) (D : zDD) (cA : Nat → ClassId) (ad : Nat → Nat), l.stackTraces = false → _ := fun l base D cA ad hl0 => c_X6_cable l base D cA ad ty I L P hl0 ni nc ns nt hC hI (fun z => hF.2.1 nc (Nat.le_refl _) z) i j k x y
  have hoc : (zsq (zo1 i ni) (zsq (zo1 j ni) (zsq (zoU i j) (zsq (zo2 k 1 8) (zsq (zo2 x 1 500) (zsq (zo2 y 0 9999) (zo3 (nI nc) 16))))))) = 0 ∨ (zsq (zo1 i ni) (zsq (zo1 j ni) (zsq (zoU i j) (zsq (zo2 k 1 8) (zsq (zo2 x 1 500) (zsq (zo2 y 0 9999) (zo3 (nI nc) 16))))))) = 1 ∨ (zsq (zo1 i ni) (zsq (zo1 j ni) (zsq (zoU i j) (zsq (zo2 k 1 8) (zsq (zo2 x 1 500) (zsq (zo2 y 0 9999) (zo3 (nI nc) 16))))))) = 2 ∨ (zsq (zo1 i ni) (zsq (zo1 j ni) (zsq (zoU i j) (zsq (zo2 k 1 8) (zsq (zo2 x 1 500) (zsq (zo2 y 0 9999) (zo3 (nI nc) 16))))))) = 3 := by
    rcases hz with ⟨q, -⟩ | ⟨q, -⟩ | ⟨q, -⟩ | ⟨q, -⟩
    · rw [q]; decide
    · rw [q]; decide
    · rw [q]; decide
    · rw [q]; decide
  by_cases h0 : (zsq (zo1 i ni) (zsq (zo1 j ni) (zsq (zoU i j) (zsq (zo2 k 1 8) (zsq (zo2 x 1 500) (zsq (zo2 y 0 9999) (zo3 (nI nc) 16))))))) = 0
  · rcases hz with ⟨-, -, h1, h2, h3, h4, h5, h6, h7⟩ | ⟨q, -⟩ | ⟨q, -⟩ | ⟨q, -⟩
    · have r1 := s2_cable hR0 h1 h2 h4 h5 h6 h7
      refine ⟨((nI nc)).toInt64, (zs ty (32 + nc) (some (0, 0))), (zu (zu (zu (zu (zu (zu (zu (zs (zu I 0 7 1) (32 + nc) (fun _ => 0)) (32 + nc) 5 0) (32 + nc) 0 (nI i.toNatClampNeg)) (32 + nc) 1 (nI j.toNatClampNeg)) (32 + nc) 2 k) (32 + nc) 3 x) (32 + nc) 4 y) 1 1 (nI (nc + 1))), (zs L (32 + nc) (fun _ => 0)), (zu (zs P (32 + nc) (fun _ => none)) 3 nc (some (32 + nc))), ⟨ni, (nc + 1), ns, nt, hrs, _, _, zT_cable hT h7, r1, hh⟩, fun q => absurd q (z_thr _), fun l base D cA ad hl0 => ?_⟩
      exact z_take h0 (c_L_cable l base D cA ad ty I L P 0 ht0 i j k x y (hM l base D cA ad hl0) hoc (fun H z => z))
    · exact absurd (q.symm.trans h0) (by decide)
    · exact absurd (q.symm.trans h0) (by decide)
    · exact absurd (q.symm.trans h0) (by decide)
  · refine ⟨-9000000000000000, ty, I, L, P, ⟨ni, nc, ns, nt, hrs, J, K, hT, hR0, hh⟩, fun _ => ⟨rfl, rfl, rfl, rfl⟩, fun l base D cA ad hl0 => ?_⟩
    exact z_left h0 (c_L_cable l base D cA ad ty I L P 0 ht0 i j k x y (hM l base D cA ad hl0) hoc (fun H z => z))
set_option maxHeartbeats 2000000 in
theorem e_price {n : Nat} {ty : zTyp} {I : zIt} {L : zLt} {P : zPt} (h : zLI n ty I L P) (i x : Int32) : zEf n ty I L P (fun l base D cA ad r W1 => zMh l base D cA yL_price cL_price 4 [(0, 7, 8, 24), (0, 7, 13, 14)] 8 135 2 12 [.ref (ad 0), .int i, .int x] (zW base D cA ad ty I L P) r W1) := by
  obtain ⟨ni, nc, ns, nt, hrs, J, K, hT, hR0, hh⟩ := h
  obtain ⟨hC, hF⟩ := id hT
  have hbd := zREL_bd hR0
  have hI := zREL_inv hR0
  have ht0 := zc_t0 hC
  have hz := zt_price (nc := nc) i x
  have hM : ∀ (l : Launch) (base : Nat) (D : zDD) (cA : Nat → ClassId) (ad : Nat → Nat), l.stackTraces = false → _ := fun l base D cA ad hl0 => c_X6_price l base D cA ad ty I L P hl0 ni nc ns nt hC hI i x
  have hoc : (zsq (zo1 i nc) (zo2 x 0 9999)) = 0 ∨ (zsq (zo1 i nc) (zo2 x 0 9999)) = 1 ∨ (zsq (zo1 i nc) (zo2 x 0 9999)) = 2 := by
    rcases hz with ⟨q, -⟩ | ⟨q, -⟩ | ⟨q, -⟩
    · rw [q]; decide
    · rw [q]; decide
    · rw [q]; decide
  by_cases h0 : (zsq (zo1 i nc) (zo2 x 0 9999)) = 0
  · rcases hz with ⟨-, -, h1, h2⟩ | ⟨q, -⟩ | ⟨q, -⟩
    · have r1 := (s2_price hR0 h1 h2).1
      refine ⟨((I (32 + i.toNatClampNeg) 4)).toInt64, ty, (zu (zu I (32 + i.toNatClampNeg) 4 x) 0 7 1), L, P, ⟨ni, nc, ns, nt, hrs, _, _, hT, r1, hh⟩, fun q => absurd q (z_thr _), fun l base D cA ad hl0 => ?_⟩
      exact z_take h0 (c_L_price l base D cA ad ty I L P 0 ht0 i x (hM l base D cA ad hl0) hoc (fun H z => ⟨ad, fun _ _ _ => rfl, z⟩))
    · exact absurd (q.symm.trans h0) (by decide)
    · exact absurd (q.symm.trans h0) (by decide)
  · refine ⟨-9000000000000000, ty, I, L, P, ⟨ni, nc, ns, nt, hrs, J, K, hT, hR0, hh⟩, fun _ => ⟨rfl, rfl, rfl, rfl⟩, fun l base D cA ad hl0 => ?_⟩
    exact z_left h0 (c_L_price l base D cA ad ty I L P 0 ht0 i x (hM l base D cA ad hl0) hoc (fun H z => ⟨ad, fun _ _ _ => rfl, z⟩))
set_option maxHeartbeats 2000000 in
theorem e_fault {n : Nat} {ty : zTyp} {I : zIt} {L : zLt} {P : zPt} (h : zLI n ty I L P) (j k : Int32) : zEf n ty I L P (fun l base D cA ad r W1 => zMh l base D cA yL_fault cL_fault 4 [(0, 7, 8, 24), (0, 7, 13, 18)] 9 155 3 18 [.ref (ad 0), .int j, .int k] (zW base D cA ad ty I L P) r W1) := by
  obtain ⟨ni, nc, ns, nt, hrs, J, K, hT, hR0, hh⟩ := h
  obtain ⟨hC, hF⟩ := id hT
  have hbd := zREL_bd hR0
  have hI := zREL_inv hR0
  have ht0 := zc_t0 hC
  have hz := zt_fault hR0.2.2.2.2.2.1 hR0.2.2.2.2.1.2.1 j k
  have hroom : (zsq (zoS I nc j k) (if zHasF I (32 + j.toNatClampNeg) k then 3 else 0)) = 0 → zNf I < 128 := by
    intro z
    rcases hz with ⟨-, -, h1, h2, h3⟩ | ⟨q, -⟩ | ⟨q, -⟩
    · exact (s2_fault hR0 h1 h2 h3).2.2
    · exact absurd (q.symm.trans z) (by decide)
    · exact absurd (q.symm.trans z) (by decide)
  have hM : ∀ (l : Launch) (base : Nat) (D : zDD) (cA : Nat → ClassId) (ad : Nat → Nat), l.stackTraces = false → _ := fun l base D cA ad hl0 => c_X6_fault l base D cA ad ty I L P hl0 ni nc ns nt hC hI j k hroom
  have hoc : (zsq (zoS I nc j k) (if zHasF I (32 + j.toNatClampNeg) k then 3 else 0)) = 0 ∨ (zsq (zoS I nc j k) (if zHasF I (32 + j.toNatClampNeg) k then 3 else 0)) = 1 ∨ (zsq (zoS I nc j k) (if zHasF I (32 + j.toNatClampNeg) k then 3 else 0)) = 3 := by
    rcases hz with ⟨q, -⟩ | ⟨q, -⟩ | ⟨q, -⟩
    · rw [q]; decide
    · rw [q]; decide
    · rw [q]; decide
  by_cases h0 : (zsq (zoS I nc j k) (if zHasF I (32 + j.toNatClampNeg) k then 3 else 0)) = 0
  · rcases hz with ⟨-, -, h1, h2, h3⟩ | ⟨q, -⟩ | ⟨q, -⟩
    · have r1 := (s2_fault hR0 h1 h2 h3).1
      refine ⟨((nI (zNf I + 1))).toInt64, ty, (zAddF (zu I 0 7 1) j.toNatClampNeg k), L, P, ⟨ni, nc, ns, nt, hrs, _, _, hT, r1, hh⟩, fun q => absurd q (z_thr _), fun l base D cA ad hl0 => ?_⟩
      exact z_take h0 (c_L_fault l base D cA ad ty I L P 0 ht0 j k (hM l base D cA ad hl0) hoc (fun H z => ⟨ad, fun _ _ _ => rfl, z⟩))
    · exact absurd (q.symm.trans h0) (by decide)
    · exact absurd (q.symm.trans h0) (by decide)
  · refine ⟨-9000000000000000, ty, I, L, P, ⟨ni, nc, ns, nt, hrs, J, K, hT, hR0, hh⟩, fun _ => ⟨rfl, rfl, rfl, rfl⟩, fun l base D cA ad hl0 => ?_⟩
    exact z_left h0 (c_L_fault l base D cA ad ty I L P 0 ht0 j k (hM l base D cA ad hl0) hoc (fun H z => ⟨ad, fun _ _ _ => rfl, z⟩))
set_option maxHeartbeats 2000000 in
theorem e_ship {n : Nat} {ty : zTyp} {I : zIt} {L : zLt} {P : zPt} (h : zLI n ty I L P) (i x : Int32) : zEf n ty I L P (fun l base D cA ad r W1 => zMh l base D cA yL_ship cL_ship 4 [(0, 7, 8, 24), (0, 7, 13, 14), (0, 7, 18, 18)] 8 134 4 26 [.ref (ad 0), .int i, .int x] (zW base D cA ad ty I L P) r W1) := by
  obtain ⟨ni, nc, ns, nt, hrs, J, K, hT, hR0, hh⟩ := h
  obtain ⟨hC, hF⟩ := id hT
  have hbd := zREL_bd hR0
  have hI := zREL_inv hR0
  have ht0 := zc_t0 hC
  have hz := zt_ship (ni := ni) hbd.2.2.1 i x
  have hM : ∀ (l : Launch) (base : Nat) (D : zDD) (cA : Nat → ClassId) (ad : Nat → Nat), l.stackTraces = false → _ := fun l base D cA ad hl0 => c_X6_ship l base D cA ad ty I L P hl0 ni nc ns nt hC hI (fun z => hF.2.2.1 ns (Nat.le_refl _) z) i x
  have hoc : (zsq (zo1 i ni) (zsq (zo2 x 1 20) (zo3 (nI ns) 4))) = 0 ∨ (zsq (zo1 i ni) (zsq (zo2 x 1 20) (zo3 (nI ns) 4))) = 1 ∨ (zsq (zo1 i ni) (zsq (zo2 x 1 20) (zo3 (nI ns) 4))) = 2 ∨ (zsq (zo1 i ni) (zsq (zo2 x 1 20) (zo3 (nI ns) 4))) = 3 := by
    rcases hz with ⟨q, -⟩ | ⟨q, -⟩ | ⟨q, -⟩ | ⟨q, -⟩
    · rw [q]; decide
    · rw [q]; decide
    · rw [q]; decide
    · rw [q]; decide
  by_cases h0 : (zsq (zo1 i ni) (zsq (zo2 x 1 20) (zo3 (nI ns) 4))) = 0
  · rcases hz with ⟨-, -, h1, h2, h3⟩ | ⟨q, -⟩ | ⟨q, -⟩ | ⟨q, -⟩
    · have r1 := s2_ship hR0 h1 h2 h3
      refine ⟨((nI ns)).toInt64, (zs ty (48 + ns) (some (3, 0))), (zu (zu (zu (zu (zu (zu (zu (zu (zu (zs I (48 + ns) (fun _ => 0)) (48 + ns) 3 0) (48 + ns) 4 0) (48 + ns) 5 (-1)) (48 + ns) 6 (-1)) (48 + ns) 7 0) (48 + ns) 1 (I (16 + i.toNatClampNeg) 0)) (48 + ns) 2 (I (16 + i.toNatClampNeg) 1)) (48 + ns) 0 x) 0 4 (nI (ns + 1))), (zs L (48 + ns) (fun _ => 0)), (zu (zs P (48 + ns) (fun _ => none)) 4 ns (some (48 + ns))), ⟨ni, nc, (ns + 1), nt, hrs, _, _, zT_ship hT h3, r1, hh⟩, fun q => absurd q (z_thr _), fun l base D cA ad hl0 => ?_⟩
      exact z_take h0 (c_L_ship l base D cA ad ty I L P 0 ht0 i x (hM l base D cA ad hl0) hoc (fun H z => z))
    · exact absurd (q.symm.trans h0) (by decide)
    · exact absurd (q.symm.trans h0) (by decide)
    · exact absurd (q.symm.trans h0) (by decide)
  · refine ⟨-9000000000000000, ty, I, L, P, ⟨ni, nc, ns, nt, hrs, J, K, hT, hR0, hh⟩, fun _ => ⟨rfl, rfl, rfl, rfl⟩, fun l base D cA ad hl0 => ?_⟩
    exact z_left h0 (c_L_ship l base D cA ad ty I L P 0 ht0 i x (hM l base D cA ad hl0) hoc (fun H z => z))
set_option maxHeartbeats 2000000 in
theorem e_send {n : Nat} {ty : zTyp} {I : zIt} {L : zLt} {P : zPt} (h : zLI n ty I L P) (i j k : Int32) : zEf n ty I L P (fun l base D cA ad r W1 => zMh l base D cA yL_send cL_send 5 [(0, 8, 9, 24), (0, 8, 15, 18)] 9 159 5 30 [.ref (ad 0), .int i, .int j, .int k] (zW base D cA ad ty I L P) r W1) := by
  obtain ⟨ni, nc, ns, nt, hrs, J, K, hT, hR0, hh⟩ := h
  obtain ⟨hC, hF⟩ := id hT
  have hbd := zREL_bd hR0
  have hI := zREL_inv hR0
  have ht0 := zc_t0 hC
  obtain ⟨a, ea0⟩ : ∃ a : Nat, a = zea I j.toNatClampNeg := ⟨_, rfl⟩
  obtain ⟨b, eb0⟩ : ∃ a : Nat, a = zeb I j.toNatClampNeg := ⟨_, rfl⟩
  have ha : zlt j nc → a < ni := fun q => by rw [ea0]; exact (hR0.2.2.2.2.1.2.2 _ (zlt_nat q).2).1
  have hb0 : zlt j nc → b < ni := fun q => by rw [eb0]; exact (hR0.2.2.2.2.1.2.2 _ (zlt_nat q).2).2
  have ea : zlt j nc → I (32 + j.toNatClampNeg) 0 = nI a := fun q => by rw [ea0]; exact (zCbs_at hR0.2.2.2.2.1.1 (zlt_nat q).2).1
  have eb : zlt j nc → I (32 + j.toNatClampNeg) 1 = nI b := fun q => by rw [eb0]; exact (zCbs_at hR0.2.2.2.2.1.1 (zlt_nat q).2).2.1
  have hz := zt_send hR0.2.2.2.2.2.1 hR0.2.2.2.2.1.2.1 (fun q hq => (hR0.2.2.2.2.2.2.1 q hq).1.2.2.2.1) i j k
  have hM : ∀ (l : Launch) (base : Nat) (D : zDD) (cA : Nat → ClassId) (ad : Nat → Nat), l.stackTraces = false → _ := fun l base D cA ad hl0 => c_X6_send l base D cA ad ty I L P hl0 ni nc ns nt hC hI i j k a b ha hb0 ea eb
  have hoc : (zoD I nc ns i j k) = 0 ∨ (zoD I nc ns i j k) = 1 ∨ (zoD I nc ns i j k) = 3 := by
    rcases hz with ⟨q, -⟩ | ⟨q, -⟩ | ⟨q, -⟩
    · rw [q]; decide
    · rw [q]; decide
    · rw [q]; decide
  by_cases h0 : (zoD I nc ns i j k) = 0
  · rcases hz with ⟨-, -, h1, h2, h3, h4, h5⟩ | ⟨q, -⟩ | ⟨q, -⟩
    · have r1 := (s2_send hR0 h1 h2 h3 h4 (ea h2) (eb h2) (ha h2) (hb0 h2)).1
      refine ⟨((zHours ((zAim I (48 + i.toNatClampNeg) (nI j.toNatClampNeg) k) (48 + i.toNatClampNeg) 1) ((zAim I (48 + i.toNatClampNeg) (nI j.toNatClampNeg) k) (48 + i.toNatClampNeg) 2) ((zAim I (48 + i.toNatClampNeg) (nI j.toNatClampNeg) k) (48 + i.toNatClampNeg) 0) (zPlace k (I (16 + a) 0) (I (16 + b) 0) (I (32 + j.toNatClampNeg) 2)) (zPlace k (I (16 + a) 1) (I (16 + b) 1) (I (32 + j.toNatClampNeg) 2)))).toInt64, ty, (zSet (zAim I (48 + i.toNatClampNeg) (nI j.toNatClampNeg) k) (48 + i.toNatClampNeg) (zPlace k (I (16 + a) 0) (I (16 + b) 0) (I (32 + j.toNatClampNeg) 2)) (zPlace k (I (16 + a) 1) (I (16 + b) 1) (I (32 + j.toNatClampNeg) 2))), L, P, ⟨ni, nc, ns, nt, hrs, _, _, hT, r1, hh⟩, fun q => absurd q (z_thr _), fun l base D cA ad hl0 => ?_⟩
      exact z_take h0 (c_L_send l base D cA ad ty I L P 0 ht0 i j k (hM l base D cA ad hl0) hoc (fun H z => ⟨ad, fun _ _ _ => rfl, z⟩))
    · exact absurd (q.symm.trans h0) (by decide)
    · exact absurd (q.symm.trans h0) (by decide)
  · refine ⟨-9000000000000000, ty, I, L, P, ⟨ni, nc, ns, nt, hrs, J, K, hT, hR0, hh⟩, fun _ => ⟨rfl, rfl, rfl, rfl⟩, fun l base D cA ad hl0 => ?_⟩
    exact z_left h0 (c_L_send l base D cA ad ty I L P 0 ht0 i j k (hM l base D cA ad hl0) hoc (fun H z => ⟨ad, fun _ _ _ => rfl, z⟩))
set_option maxHeartbeats 2000000 in
theorem e_home {n : Nat} {ty : zTyp} {I : zIt} {L : zLt} {P : zPt} (h : zLI n ty I L P) (i j : Int32) : zEf n ty I L P (fun l base D cA ad r W1 => zMh l base D cA yL_home cL_home 4 [(0, 7, 8, 24), (0, 7, 13, 18)] 8 133 3 18 [.ref (ad 0), .int i, .int j] (zW base D cA ad ty I L P) r W1) := by
  obtain ⟨ni, nc, ns, nt, hrs, J, K, hT, hR0, hh⟩ := h
  obtain ⟨hC, hF⟩ := id hT
  have hbd := zREL_bd hR0
  have hI := zREL_inv hR0
  have ht0 := zc_t0 hC
  have hz := zt_home (ni := ni) (fun q hq => (hR0.2.2.2.2.2.2.1 q hq).1.2.2.2.1) i j
  have hM : ∀ (l : Launch) (base : Nat) (D : zDD) (cA : Nat → ClassId) (ad : Nat → Nat), l.stackTraces = false → _ := fun l base D cA ad hl0 => c_X6_home l base D cA ad ty I L P hl0 ni nc ns nt hC hI i j
  have hoc : (zoH I ni ns i j) = 0 ∨ (zoH I ni ns i j) = 1 ∨ (zoH I ni ns i j) = 3 := by
    rcases hz with ⟨q, -⟩ | ⟨q, -⟩ | ⟨q, -⟩
    · rw [q]; decide
    · rw [q]; decide
    · rw [q]; decide
  by_cases h0 : (zoH I ni ns i j) = 0
  · rcases hz with ⟨-, -, h1, h2, h3⟩ | ⟨q, -⟩ | ⟨q, -⟩
    · have r1 := (s2_home hR0 h1 h2 h3).1
      refine ⟨((zHours ((zAim I (48 + i.toNatClampNeg) (-1) (-1)) (48 + i.toNatClampNeg) 1) ((zAim I (48 + i.toNatClampNeg) (-1) (-1)) (48 + i.toNatClampNeg) 2) ((zAim I (48 + i.toNatClampNeg) (-1) (-1)) (48 + i.toNatClampNeg) 0) (I (16 + j.toNatClampNeg) 0) (I (16 + j.toNatClampNeg) 1))).toInt64, ty, (zSet (zAim I (48 + i.toNatClampNeg) (-1) (-1)) (48 + i.toNatClampNeg) (I (16 + j.toNatClampNeg) 0) (I (16 + j.toNatClampNeg) 1)), L, P, ⟨ni, nc, ns, nt, hrs, _, _, hT, r1, hh⟩, fun q => absurd q (z_thr _), fun l base D cA ad hl0 => ?_⟩
      exact z_take h0 (c_L_home l base D cA ad ty I L P 0 ht0 i j (hM l base D cA ad hl0) hoc (fun H z => ⟨ad, fun _ _ _ => rfl, z⟩))
    · exact absurd (q.symm.trans h0) (by decide)
    · exact absurd (q.symm.trans h0) (by decide)
  · refine ⟨-9000000000000000, ty, I, L, P, ⟨ni, nc, ns, nt, hrs, J, K, hT, hR0, hh⟩, fun _ => ⟨rfl, rfl, rfl, rfl⟩, fun l base D cA ad hl0 => ?_⟩
    exact z_left h0 (c_L_home l base D cA ad ty I L P 0 ht0 i j (hM l base D cA ad hl0) hoc (fun H z => ⟨ad, fun _ _ _ => rfl, z⟩))
set_option maxHeartbeats 2000000 in
theorem e_trader {n : Nat} {ty : zTyp} {I : zIt} {L : zLt} {P : zPt} (h : zLI n ty I L P) (i j k x y w : Int32) : zEf n ty I L P (fun l base D cA ad r W1 => zMh l base D cA yL_trader cL_trader 8 [(0, 14, 15, 24), (0, 14, 21, 14), (0, 14, 27, 18)] 8 138 13 84 [.ref (ad 0), .int i, .int j, .int k, .int x, .int y, .int w] (zW base D cA ad ty I L P) r W1) := by
  obtain ⟨ni, nc, ns, nt, hrs, J, K, hT, hR0, hh⟩ := h
  obtain ⟨hC, hF⟩ := id hT
  have hbd := zREL_bd hR0
  have hI := zREL_inv hR0
  have ht0 := zc_t0 hC
  have hz := zt_trader (ni := ni) hbd.2.2.2 i j k x y w
  have hM : ∀ (l : Launch) (base : Nat) (D : zDD) (cA : Nat → ClassId) (ad : Nat → Nat), l.stackTraces = false → _ := fun l base D cA ad hl0 => c_X6_trader l base D cA ad ty I L P hl0 ni nc ns nt hC hI (fun z => (hF.2.2.2 nt (Nat.le_refl _) z).1) (fun z => (hF.2.2.2 nt (Nat.le_refl _) z).2.1) (fun z => (hF.2.2.2 nt (Nat.le_refl _) z).2.2) i j k x y w
  have hoc : (zsq (zo1 i ni) (zsq (zo1 j ni) (zsq (zoU i j) (zsq (zo2 k 1 5000) (zsq (zo2 x 0 9999) (zsq (zo2 y 0 9999) (zsq (zo2 w 0 1000000) (zo3 (nI nt) 12)))))))) = 0 ∨ (zsq (zo1 i ni) (zsq (zo1 j ni) (zsq (zoU i j) (zsq (zo2 k 1 5000) (zsq (zo2 x 0 9999) (zsq (zo2 y 0 9999) (zsq (zo2 w 0 1000000) (zo3 (nI nt) 12)))))))) = 1 ∨ (zsq (zo1 i ni) (zsq (zo1 j ni) (zsq (zoU i j) (zsq (zo2 k 1 5000) (zsq (zo2 x 0 9999) (zsq (zo2 y 0 9999) (zsq (zo2 w 0 1000000) (zo3 (nI nt) 12)))))))) = 2 ∨ (zsq (zo1 i ni) (zsq (zo1 j ni) (zsq (zoU i j) (zsq (zo2 k 1 5000) (zsq (zo2 x 0 9999) (zsq (zo2 y 0 9999) (zsq (zo2 w 0 1000000) (zo3 (nI nt) 12)))))))) = 3 := by
    rcases hz with ⟨q, -⟩ | ⟨q, -⟩ | ⟨q, -⟩ | ⟨q, -⟩
    · rw [q]; decide
    · rw [q]; decide
    · rw [q]; decide
    · rw [q]; decide
  by_cases h0 : (zsq (zo1 i ni) (zsq (zo1 j ni) (zsq (zoU i j) (zsq (zo2 k 1 5000) (zsq (zo2 x 0 9999) (zsq (zo2 y 0 9999) (zsq (zo2 w 0 1000000) (zo3 (nI nt) 12)))))))) = 0
  · rcases hz with ⟨-, -, h1, h2, h3, h4, h5, h6, h7, h8⟩ | ⟨q, -⟩ | ⟨q, -⟩ | ⟨q, -⟩
    · have r1 := s2_trader hR0 h1 h2 h4 h5 h6 h7 h8
      refine ⟨((nI nt)).toInt64, (zs (zs (zs ty (64 + nt) (some (4, 0))) (80 + nt) (some (5, 0))) (96 + nt) (some (8, 9))), (zu (zu (zu (zu (zu (zu (zu (zu (zu (zu (zu (zu (zu (zu (zs (zs (zs I (64 + nt) (fun _ => 0)) (80 + nt) (fun _ => 0)) (96 + nt) (fun _ => 0)) (80 + nt) 1 (-1)) (80 + nt) 2 (-1)) (80 + nt) 3 (-1)) (64 + nt) 8 0) (64 + nt) 9 0) (64 + nt) 10 0) (64 + nt) 0 (nI i.toNatClampNeg)) (64 + nt) 1 (nI j.toNatClampNeg)) (64 + nt) 2 k) (64 + nt) 3 x) (64 + nt) 4 y) (64 + nt) 5 w) 0 6 (nI (nt + 1))) 0 7 1), (zu (zs (zs (zs L (64 + nt) (fun _ => 0)) (80 + nt) (fun _ => 0)) (96 + nt) (fun _ => 0)) (64 + nt) 7 0), (zu (zu (zu (zs (zs (zs P (64 + nt) (fun _ => none)) (80 + nt) (fun _ => none)) (96 + nt) (fun _ => none)) (80 + nt) 0 (some (96 + nt))) (64 + nt) 6 (some (80 + nt))) 5 nt (some (64 + nt))), ⟨ni, nc, ns, (nt + 1), hrs, _, _, zT_trader hT h8 rfl rfl, r1, hh⟩, fun q => absurd q (z_thr _), fun l base D cA ad hl0 => ?_⟩
      exact z_take h0 (c_L_trader l base D cA ad ty I L P 0 ht0 i j k x y w (hM l base D cA ad hl0) hoc (fun H z => z))
    · exact absurd (q.symm.trans h0) (by decide)
    · exact absurd (q.symm.trans h0) (by decide)
    · exact absurd (q.symm.trans h0) (by decide)
  · refine ⟨-9000000000000000, ty, I, L, P, ⟨ni, nc, ns, nt, hrs, J, K, hT, hR0, hh⟩, fun _ => ⟨rfl, rfl, rfl, rfl⟩, fun l base D cA ad hl0 => ?_⟩
    exact z_left h0 (c_L_trader l base D cA ad ty I L P 0 ht0 i j k x y w (hM l base D cA ad hl0) hoc (fun H z => z))
set_option maxHeartbeats 2000000 in
theorem e_pass {n : Nat} {ty : zTyp} {I : zIt} {L : zLt} {P : zPt} (h : zLI n ty I L P) (hn : n ≤ 1900) (x : Int32) : zEf (n + 1) ty I L P (fun l base D cA ad r W1 => zMh l base D cA yL_pass cL_pass 3 [(0, 6, 7, 14)] 8 160 1 6 [.ref (ad 0), .int x] (zW base D cA ad ty I L P) r W1) := by
  obtain ⟨ni, nc, ns, nt, hrs, J, K, hT, hR0, hh⟩ := h
  obtain ⟨hC, hF⟩ := id hT
  have hbd := zREL_bd hR0
  have hI := zREL_inv hR0
  have ht0 := zc_t0 hC
  have hz := zt_pass x
  have hM : ∀ (l : Launch) (base : Nat) (D : zDD) (cA : Nat → ClassId) (ad : Nat → Nat), l.stackTraces = false → _ := fun l base D cA ad hl0 => c_X6_pass l base D cA ad ty I L P hl0 ni nc ns nt hC hI (zFin_ok nc) x
  have hoc : (zo2 x 1 500) = 0 ∨ (zo2 x 1 500) = 2 := by
    rcases hz with ⟨q, -⟩ | ⟨q, -⟩
    · rw [q]; decide
    · rw [q]; decide
  by_cases h0 : (zo2 x 1 500) = 0
  · rcases hz with ⟨-, -, h1⟩ | ⟨q, -⟩
    · have r1 := (s2_pass hR0 h1 (by omega)).2.1
      refine ⟨(((zHrs nc ns nt (I, L) x.toNatClampNeg).1 0 8)).toInt64, ty, (zHrs nc ns nt (I, L) x.toNatClampNeg).1, (zHrs nc ns nt (I, L) x.toNatClampNeg).2, P, ⟨ni, nc, ns, nt, hrs + x.toNatClampNeg, _, _, hT, r1, (by have := (s2_pass hR0 h1 (by omega)).1; omega)⟩, fun q => absurd q (z_thr _), fun l base D cA ad hl0 => ?_⟩
      exact z_take h0 (c_L_pass l base D cA ad ty I L P 0 ht0 x (hM l base D cA ad hl0) hoc (fun H z => ⟨ad, fun _ _ _ => rfl, z⟩))
    · exact absurd (q.symm.trans h0) (by decide)
  · refine ⟨-9000000000000000, ty, I, L, P, ⟨ni, nc, ns, nt, hrs, J, K, hT, hR0, (by omega)⟩, fun _ => ⟨rfl, rfl, rfl, rfl⟩, fun l base D cA ad hl0 => ?_⟩
    exact z_left h0 (c_L_pass l base D cA ad ty I L P 0 ht0 x (hM l base D cA ad hl0) hoc (fun H z => ⟨ad, fun _ _ _ => rfl, z⟩))
set_option maxHeartbeats 2000000 in
theorem e_works {n : Nat} {ty : zTyp} {I : zIt} {L : zLt} {P : zPt} (h : zLI n ty I L P) (i : Int32) : zEf n ty I L P (fun l base D cA ad r W1 => zMh l base D cA yL_works cL_works 3 [(0, 13, 14, 24)] 8 132 1 6 [.ref (ad 0), .int i] (zW base D cA ad ty I L P) r W1) := by
  obtain ⟨ni, nc, ns, nt, hrs, J, K, hT, hR0, hh⟩ := h
  obtain ⟨hC, hF⟩ := id hT
  have hbd := zREL_bd hR0
  have hI := zREL_inv hR0
  have ht0 := zc_t0 hC
  have hz := zt_1 (n := nc) i
  have hM : ∀ (l : Launch) (base : Nat) (D : zDD) (cA : Nat → ClassId) (ad : Nat → Nat), l.stackTraces = false → _ := fun l base D cA ad hl0 => c_X6_works l base D cA ad ty I L P hl0 ni nc ns nt hC hI i
  have hoc : (zo1 i nc) = 0 ∨ (zo1 i nc) = 1 := by
    rcases hz with ⟨q, -⟩ | ⟨q, -⟩
    · rw [q]; decide
    · rw [q]; decide
  by_cases h0 : (zo1 i nc) = 0
  · rcases hz with ⟨-, -, h1⟩ | ⟨q, -⟩
    · have r1 := hR0
      refine ⟨(if (zb (I (32 + i.toNatClampNeg) 5 = 0)) = 0 then 0 else 1 : Int64), ty, I, L, P, ⟨ni, nc, ns, nt, hrs, _, _, hT, r1, hh⟩, fun _ => ⟨rfl, rfl, rfl, rfl⟩, fun l base D cA ad hl0 => ?_⟩
      exact z_take h0 (c_L_works l base D cA ad ty I L P 0 ht0 i (hM l base D cA ad hl0) hoc (fun H z => ⟨ad, fun _ _ _ => rfl, z⟩))
    · exact absurd (q.symm.trans h0) (by decide)
  · refine ⟨-9000000000000000, ty, I, L, P, ⟨ni, nc, ns, nt, hrs, J, K, hT, hR0, hh⟩, fun _ => ⟨rfl, rfl, rfl, rfl⟩, fun l base D cA ad hl0 => ?_⟩
    exact z_left h0 (c_L_works l base D cA ad ty I L P 0 ht0 i (hM l base D cA ad hl0) hoc (fun H z => ⟨ad, fun _ _ _ => rfl, z⟩))
set_option maxHeartbeats 2000000 in
theorem e_faultAt {n : Nat} {ty : zTyp} {I : zIt} {L : zLt} {P : zPt} (h : zLI n ty I L P) (i : Int32) : zEf n ty I L P (fun l base D cA ad r W1 => zMh l base D cA yL_faultAt cL_faultAt 3 [(0, 6, 7, 24)] 7 111 1 6 [.ref (ad 0), .int i] (zW base D cA ad ty I L P) r W1) := by
  obtain ⟨ni, nc, ns, nt, hrs, J, K, hT, hR0, hh⟩ := h
  obtain ⟨hC, hF⟩ := id hT
  have hbd := zREL_bd hR0
  have hI := zREL_inv hR0
  have ht0 := zc_t0 hC
  have hz := zt_neg i
  have hM : ∀ (l : Launch) (base : Nat) (D : zDD) (cA : Nat → ClassId) (ad : Nat → Nat), l.stackTraces = false → _ := fun l base D cA ad hl0 => c_X6_faultAt l base D cA ad ty I L P hl0 ni nc ns nt hC hI i
  have hoc : (if i < 0 then 1 else 0) = 0 ∨ (if i < 0 then 1 else 0) = 1 := by
    rcases hz with ⟨q, -⟩ | ⟨q, -⟩
    · rw [q]; decide
    · rw [q]; decide
  by_cases h0 : (if i < 0 then 1 else 0) = 0
  · rcases hz with ⟨-, -, h1⟩ | ⟨q, -⟩
    · have r1 := hR0
      refine ⟨((if i.toNatClampNeg < zNf I then I 6 i.toNatClampNeg else -1)).toInt64, ty, I, L, P, ⟨ni, nc, ns, nt, hrs, _, _, hT, r1, hh⟩, fun _ => ⟨rfl, rfl, rfl, rfl⟩, fun l base D cA ad hl0 => ?_⟩
      exact z_take h0 (c_L_faultAt l base D cA ad ty I L P 0 ht0 i (hM l base D cA ad hl0) hoc (fun H z => ⟨ad, fun _ _ _ => rfl, z⟩))
    · exact absurd (q.symm.trans h0) (by decide)
  · refine ⟨-9000000000000000, ty, I, L, P, ⟨ni, nc, ns, nt, hrs, J, K, hT, hR0, hh⟩, fun _ => ⟨rfl, rfl, rfl, rfl⟩, fun l base D cA ad hl0 => ?_⟩
    exact z_left h0 (c_L_faultAt l base D cA ad ty I L P 0 ht0 i (hM l base D cA ad hl0) hoc (fun H z => ⟨ad, fun _ _ _ => rfl, z⟩))
set_option maxHeartbeats 2000000 in
theorem e_shipOf {n : Nat} {ty : zTyp} {I : zIt} {L : zLt} {P : zPt} (h : zLI n ty I L P) (i x : Int32) : zEf n ty I L P (fun l base D cA ad r W1 => zMh l base D cA yL_shipOf cL_shipOf 4 [(0, 7, 8, 24), (0, 7, 13, 14)] 8 135 2 12 [.ref (ad 0), .int i, .int x] (zW base D cA ad ty I L P) r W1) := by
  obtain ⟨ni, nc, ns, nt, hrs, J, K, hT, hR0, hh⟩ := h
  obtain ⟨hC, hF⟩ := id hT
  have hbd := zREL_bd hR0
  have hI := zREL_inv hR0
  have ht0 := zc_t0 hC
  have hz := zt_12 (n := ns) (a := 0) (b := 4) i x
  have hM : ∀ (l : Launch) (base : Nat) (D : zDD) (cA : Nat → ClassId) (ad : Nat → Nat), l.stackTraces = false → _ := fun l base D cA ad hl0 => c_X6_shipOf l base D cA ad ty I L P hl0 ni nc ns nt hC hI i x
  have hoc : (zsq (zo1 i ns) (zo2 x 0 4)) = 0 ∨ (zsq (zo1 i ns) (zo2 x 0 4)) = 1 ∨ (zsq (zo1 i ns) (zo2 x 0 4)) = 2 := by
    rcases hz with ⟨q, -⟩ | ⟨q, -⟩ | ⟨q, -⟩
    · rw [q]; decide
    · rw [q]; decide
    · rw [q]; decide
  by_cases h0 : (zsq (zo1 i ns) (zo2 x 0 4)) = 0
  · rcases hz with ⟨-, -, h1, h2⟩ | ⟨q, -⟩ | ⟨q, -⟩
    · have r1 := hR0
      refine ⟨((if x = 0 then I (48 + i.toNatClampNeg) 3 else if x = 1 then I (48 + i.toNatClampNeg) 1 else if x = 2 then I (48 + i.toNatClampNeg) 2 else if x = 3 then I (48 + i.toNatClampNeg) 4 else I (48 + i.toNatClampNeg) 7)).toInt64, ty, I, L, P, ⟨ni, nc, ns, nt, hrs, _, _, hT, r1, hh⟩, fun _ => ⟨rfl, rfl, rfl, rfl⟩, fun l base D cA ad hl0 => ?_⟩
      exact z_take h0 (c_L_shipOf l base D cA ad ty I L P 0 ht0 i x (hM l base D cA ad hl0) hoc (fun H z => ⟨ad, fun _ _ _ => rfl, z⟩))
    · exact absurd (q.symm.trans h0) (by decide)
    · exact absurd (q.symm.trans h0) (by decide)
  · refine ⟨-9000000000000000, ty, I, L, P, ⟨ni, nc, ns, nt, hrs, J, K, hT, hR0, hh⟩, fun _ => ⟨rfl, rfl, rfl, rfl⟩, fun l base D cA ad hl0 => ?_⟩
    exact z_left h0 (c_L_shipOf l base D cA ad ty I L P 0 ht0 i x (hM l base D cA ad hl0) hoc (fun H z => ⟨ad, fun _ _ _ => rfl, z⟩))
set_option maxHeartbeats 2000000 in
theorem e_way {n : Nat} {ty : zTyp} {I : zIt} {L : zLt} {P : zPt} (h : zLI n ty I L P) (i x : Int32) : zEf n ty I L P (fun l base D cA ad r W1 => zMh l base D cA yL_way cL_way 4 [(0, 7, 8, 24)] 8 139 2 12 [.ref (ad 0), .int i, .int x] (zW base D cA ad ty I L P) r W1) := by
  obtain ⟨ni, nc, ns, nt, hrs, J, K, hT, hR0, hh⟩ := h
  obtain ⟨hC, hF⟩ := id hT
  have hbd := zREL_bd hR0
  have hI := zREL_inv hR0
  have ht0 := zc_t0 hC
  have hz := zt_way (nt := nt) i x
  have hM : ∀ (l : Launch) (base : Nat) (D : zDD) (cA : Nat → ClassId) (ad : Nat → Nat), l.stackTraces = false → _ := fun l base D cA ad hl0 => c_X6_way l base D cA ad ty I L P hl0 ni nc ns nt hC hI (zFin_ok nc) (zREL_wl hR0) i x
  have hoc : (zsq (zo1 i nt) (if x < 0 then 1 else 0)) = 0 ∨ (zsq (zo1 i nt) (if x < 0 then 1 else 0)) = 1 := by
    rcases hz with ⟨q, -⟩ | ⟨q, -⟩
    · rw [q]; decide
    · rw [q]; decide
  by_cases h0 : (zsq (zo1 i nt) (if x < 0 then 1 else 0)) = 0
  · rcases hz with ⟨-, -, h1, h2⟩ | ⟨q, -⟩
    · have r1 := (zREL_stale hR0).1
      refine ⟨((if x < (zStale nc nt (I, L)).1 (80 + i.toNatClampNeg) 1 then (zStale nc nt (I, L)).1 (96 + i.toNatClampNeg) x.toNatClampNeg else -1)).toInt64, ty, (zStale nc nt (I, L)).1, (zStale nc nt (I, L)).2, P, ⟨ni, nc, ns, nt, hrs, _, _, hT, r1, hh⟩, fun q => absurd q (z_thr _), fun l base D cA ad hl0 => ?_⟩
      exact z_take h0 (c_L_way l base D cA ad ty I L P 0 ht0 i x (hM l base D cA ad hl0) hoc (fun H z => ⟨ad, fun _ _ _ => rfl, z⟩))
    · exact absurd (q.symm.trans h0) (by decide)
  · refine ⟨-9000000000000000, ty, I, L, P, ⟨ni, nc, ns, nt, hrs, J, K, hT, hR0, hh⟩, fun _ => ⟨rfl, rfl, rfl, rfl⟩, fun l base D cA ad hl0 => ?_⟩
    exact z_left h0 (c_L_way l base D cA ad ty I L P 0 ht0 i x (hM l base D cA ad hl0) hoc (fun H z => ⟨ad, fun _ _ _ => rfl, z⟩))
set_option maxHeartbeats 2000000 in
theorem e_sum {n : Nat} {ty : zTyp} {I : zIt} {L : zLt} {P : zPt} (h : zLI n ty I L P) (i x : Int32) : zEf n ty I L P (fun l base D cA ad r W1 => zMh l base D cA yL_sum cL_sum 4 [(0, 7, 8, 24), (0, 7, 13, 14)] 8 140 2 12 [.ref (ad 0), .int i, .int x] (zW base D cA ad ty I L P) r W1) := by
  obtain ⟨ni, nc, ns, nt, hrs, J, K, hT, hR0, hh⟩ := h
  obtain ⟨hC, hF⟩ := id hT
  have hbd := zREL_bd hR0
  have hI := zREL_inv hR0
  have ht0 := zc_t0 hC
  have hz := zt_12 (n := nt) (a := 0) (b := 2) i x
  have hM : ∀ (l : Launch) (base : Nat) (D : zDD) (cA : Nat → ClassId) (ad : Nat → Nat), l.stackTraces = false → _ := fun l base D cA ad hl0 => c_X6_sum l base D cA ad ty I L P hl0 ni nc ns nt hC hI (zFin_ok nc) i x
  have hoc : (zsq (zo1 i nt) (zo2 x 0 2)) = 0 ∨ (zsq (zo1 i nt) (zo2 x 0 2)) = 1 ∨ (zsq (zo1 i nt) (zo2 x 0 2)) = 2 := by
    rcases hz with ⟨q, -⟩ | ⟨q, -⟩ | ⟨q, -⟩
    · rw [q]; decide
    · rw [q]; decide
    · rw [q]; decide
  by_cases h0 : (zsq (zo1 i nt) (zo2 x 0 2)) = 0
  · rcases hz with ⟨-, -, h1, h2⟩ | ⟨q, -⟩ | ⟨q, -⟩
    · have r1 := (zREL_stale hR0).1
      refine ⟨((if x = 0 then (zStale nc nt (I, L)).1 (80 + i.toNatClampNeg) 2 else if x = 1 then (zStale nc nt (I, L)).1 (80 + i.toNatClampNeg) 3 else (zStale nc nt (I, L)).1 (80 + i.toNatClampNeg) 1)).toInt64, ty, (zStale nc nt (I, L)).1, (zStale nc nt (I, L)).2, P, ⟨ni, nc, ns, nt, hrs, _, _, hT, r1, hh⟩, fun q => absurd q (z_thr _), fun l base D cA ad hl0 => ?_⟩
      exact z_take h0 (c_L_sum l base D cA ad ty I L P 0 ht0 i x (hM l base D cA ad hl0) hoc (fun H z => ⟨ad, fun _ _ _ => rfl, z⟩))
    · exact absurd (q.symm.trans h0) (by decide)
    · exact absurd (q.symm.trans h0) (by decide)
  · refine ⟨-9000000000000000, ty, I, L, P, ⟨ni, nc, ns, nt, hrs, J, K, hT, hR0, hh⟩, fun _ => ⟨rfl, rfl, rfl, rfl⟩, fun l base D cA ad hl0 => ?_⟩
    exact z_left h0 (c_L_sum l base D cA ad ty I L P 0 ht0 i x (hM l base D cA ad hl0) hoc (fun H z => ⟨ad, fun _ _ _ => rfl, z⟩))
set_option maxHeartbeats 2000000 in
theorem e_sumAnew {n : Nat} {ty : zTyp} {I : zIt} {L : zLt} {P : zPt} (h : zLI n ty I L P) (i : Int32) : zEf n ty I L P (fun l base D cA ad r W1 => zMh l base D cA yL_sumAnew cL_sumAnew 3 [(0, 6, 7, 24)] 8 132 1 6 [.ref (ad 0), .int i] (zW base D cA ad ty I L P) r W1) := by
  obtain ⟨ni, nc, ns, nt, hrs, J, K, hT, hR0, hh⟩ := h
  obtain ⟨hC, hF⟩ := id hT
  have hbd := zREL_bd hR0
  have hI := zREL_inv hR0
  have ht0 := zc_t0 hC
  obtain ⟨u, v, hu, hv, huv⟩ : ∃ u v : Nat, u < 10 ∧ v < 10 ∧ (zlt i nt → u < ni ∧ v < ni ∧ I (64 + i.toNatClampNeg) 0 = nI u ∧ I (64 + i.toNatClampNeg) 1 = nI v) := by
    have hb9 := hbd.1
    by_cases q : zlt i nt
    · obtain ⟨u, v, h1, h2, h3, h4⟩ := hR0.2.2.2.2.2.2.2.1.1 _ (zlt_nat q).2
      exact ⟨u, v, by omega, by omega, fun _ => ⟨h1, h2, h3, h4⟩⟩
    · exact ⟨0, 0, by omega, by omega, fun z => absurd z q⟩
  have hz := zt_1 (n := nt) i
  have hM : ∀ (l : Launch) (base : Nat) (D : zDD) (cA : Nat → ClassId) (ad : Nat → Nat), l.stackTraces = false → _ := fun l base D cA ad hl0 => c_X6_sumAnew l base D cA ad ty I L P hl0 ni nc ns nt hC hI i u v hu hv (fun q => (huv q).2.2.1) (fun q => (huv q).2.2.2)
  have hoc : (zo1 i nt) = 0 ∨ (zo1 i nt) = 1 := by
    rcases hz with ⟨q, -⟩ | ⟨q, -⟩
    · rw [q]; decide
    · rw [q]; decide
  by_cases h0 : (zo1 i nt) = 0
  · rcases hz with ⟨-, -, h1⟩ | ⟨q, -⟩
    · have r1 := zREL_c (I' := zs I 8 (zPrr I nc (zS0 (I 8) u) 9)) (L' := L) (J' := J) (K' := K) (fun κ hκ h8 => zs_ne _ _ h8) (fun _ _ => rfl) (fun _ _ _ => rfl) (fun _ _ => rfl) rfl hR0
      refine ⟨((zPrr I nc (zS0 (I 8) u) 9 v)).toInt64, ty, (zs I 8 (zPrr I nc (zS0 (I 8) u) 9)), L, P, ⟨ni, nc, ns, nt, hrs, _, _, hT, r1, hh⟩, fun q => absurd q (z_thr _), fun l base D cA ad hl0 => ?_⟩
      exact z_take h0 (c_L_sumAnew l base D cA ad ty I L P 0 ht0 i (hM l base D cA ad hl0) hoc (fun H z => ⟨ad, fun _ _ _ => rfl, z⟩))
    · exact absurd (q.symm.trans h0) (by decide)
  · refine ⟨-9000000000000000, ty, I, L, P, ⟨ni, nc, ns, nt, hrs, J, K, hT, hR0, hh⟩, fun _ => ⟨rfl, rfl, rfl, rfl⟩, fun l base D cA ad hl0 => ?_⟩
    exact z_left h0 (c_L_sumAnew l base D cA ad ty I L P 0 ht0 i (hM l base D cA ad hl0) hoc (fun H z => ⟨ad, fun _ _ _ => rfl, z⟩))
set_option maxHeartbeats 2000000 in
theorem e_account {n : Nat} {ty : zTyp} {I : zIt} {L : zLt} {P : zPt} (h : zLI n ty I L P) (i x : Int32) : zEf n ty I L P (fun l base D cA ad r W1 => zMh l base D cA yL_account cL_account 4 [(0, 6, 7, 24), (0, 6, 12, 14)] 8 135 2 12 [.ref (ad 0), .int i, .int x] (zW base D cA ad ty I L P) r W1) := by
  obtain ⟨ni, nc, ns, nt, hrs, J, K, hT, hR0, hh⟩ := h
  obtain ⟨hC, hF⟩ := id hT
  have hbd := zREL_bd hR0
  have hI := zREL_inv hR0
  have ht0 := zc_t0 hC
  have hz := zt_12 (n := nt) (a := 0) (b := 3) i x
  have hM : ∀ (l : Launch) (base : Nat) (D : zDD) (cA : Nat → ClassId) (ad : Nat → Nat), l.stackTraces = false → _ := fun l base D cA ad hl0 => c_X6_account l base D cA ad ty I L P hl0 ni nc ns nt hC hI i x
  have hoc : (zsq (zo1 i nt) (zo2 x 0 3)) = 0 ∨ (zsq (zo1 i nt) (zo2 x 0 3)) = 1 ∨ (zsq (zo1 i nt) (zo2 x 0 3)) = 2 := by
    rcases hz with ⟨q, -⟩ | ⟨q, -⟩ | ⟨q, -⟩
    · rw [q]; decide
    · rw [q]; decide
    · rw [q]; decide
  by_cases h0 : (zsq (zo1 i nt) (zo2 x 0 3)) = 0
  · rcases hz with ⟨-, -, h1, h2⟩ | ⟨q, -⟩ | ⟨q, -⟩
    · have r1 := hR0
      refine ⟨(if x = 0 then L (64 + i.toNatClampNeg) 7 else if x = 1 then (I (64 + i.toNatClampNeg) 8).toInt64 else if x = 2 then (I (64 + i.toNatClampNeg) 9).toInt64 else (I (64 + i.toNatClampNeg) 10).toInt64), ty, I, L, P, ⟨ni, nc, ns, nt, hrs, _, _, hT, r1, hh⟩, fun _ => ⟨rfl, rfl, rfl, rfl⟩, fun l base D cA ad hl0 => ?_⟩
      exact z_take h0 (c_L_account l base D cA ad ty I L P 0 ht0 i x (hM l base D cA ad hl0) hoc (fun H z => ⟨ad, fun _ _ _ => rfl, z⟩))
    · exact absurd (q.symm.trans h0) (by decide)
    · exact absurd (q.symm.trans h0) (by decide)
  · refine ⟨-9000000000000000, ty, I, L, P, ⟨ni, nc, ns, nt, hrs, J, K, hT, hR0, hh⟩, fun _ => ⟨rfl, rfl, rfl, rfl⟩, fun l base D cA ad hl0 => ?_⟩
    exact z_left h0 (c_L_account l base D cA ad ty I L P 0 ht0 i x (hM l base D cA ad hl0) hoc (fun H z => ⟨ad, fun _ _ _ => rfl, z⟩))
set_option maxHeartbeats 2000000 in
theorem e_reach {n : Nat} {ty : zTyp} {I : zIt} {L : zLt} {P : zPt} (h : zLI n ty I L P) (i : Int32) : zEf n ty I L P (fun l base D cA ad r W1 => zMh l base D cA yL_reach cL_reach 3 [(0, 6, 7, 24)] 8 132 1 6 [.ref (ad 0), .int i] (zW base D cA ad ty I L P) r W1) := by
  obtain ⟨ni, nc, ns, nt, hrs, J, K, hT, hR0, hh⟩ := h
  obtain ⟨hC, hF⟩ := id hT
  have hbd := zREL_bd hR0
  have hI := zREL_inv hR0
  have ht0 := zc_t0 hC
  have hz := zt_1 (n := ni) i
  have hM : ∀ (l : Launch) (base : Nat) (D : zDD) (cA : Nat → ClassId) (ad : Nat → Nat), l.stackTraces = false → _ := fun l base D cA ad hl0 => c_X6_reach l base D cA ad ty I L P hl0 ni nc ns nt hC hI i
  have hoc : (zo1 i ni) = 0 ∨ (zo1 i ni) = 1 := by
    rcases hz with ⟨q, -⟩ | ⟨q, -⟩
    · rw [q]; decide
    · rw [q]; decide
  by_cases h0 : (zo1 i ni) = 0
  · rcases hz with ⟨-, -, h1⟩ | ⟨q, -⟩
    · have r1 := hR0
      refine ⟨((zRer I nc (1 <<< (nI i.toNatClampNeg &&& 31)) 9)).toInt64, ty, I, L, P, ⟨ni, nc, ns, nt, hrs, _, _, hT, r1, hh⟩, fun _ => ⟨rfl, rfl, rfl, rfl⟩, fun l base D cA ad hl0 => ?_⟩
      exact z_take h0 (c_L_reach l base D cA ad ty I L P 0 ht0 i (hM l base D cA ad hl0) hoc (fun H z => ⟨ad, fun _ _ _ => rfl, z⟩))
    · exact absurd (q.symm.trans h0) (by decide)
  · refine ⟨-9000000000000000, ty, I, L, P, ⟨ni, nc, ns, nt, hrs, J, K, hT, hR0, hh⟩, fun _ => ⟨rfl, rfl, rfl, rfl⟩, fun l base D cA ad hl0 => ?_⟩
    exact z_left h0 (c_L_reach l base D cA ad ty I L P 0 ht0 i (hM l base D cA ad hl0) hoc (fun H z => ⟨ad, fun _ _ _ => rfl, z⟩))
