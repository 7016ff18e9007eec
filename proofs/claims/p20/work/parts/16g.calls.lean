/-! THE CALLS OF isSo, of a chart at the place a0 (laid by m_so.py) -/
theorem zo1_0 {i : Int32} {n : Nat} (h : zlt i n) : zo1 i n = 0 := if_pos h
theorem zo1_1 {i : Int32} {n : Nat} (h : ¬ zlt i n) : zo1 i n = 1 := if_neg h
theorem zo2_0 {v a b : Int32} (h : zin v a b) : zo2 v a b = 0 := if_pos h
theorem zsq_0 {a b : Nat} (h : a = 0) : zsq a b = b := if_pos h
theorem zsq_1 {b : Nat} : zsq 1 b = 1 := rfl
theorem znn {k : Nat} (hk : k < 2 ^ 31) : ¬ nI k < 0 := by
  rw [Int32.lt_iff_toInt_lt, nI_toInt hk]
  show ¬ (k : Int) < 0
  omega
def zSo (base : Nat) (D : zDD) (cA : Nat → ClassId) (ty : zTyp) (P : zPt) (a0 : Nat) (I : zIt) (L : zLt) (H : Heap) : Prop := ∃ ad, ad 0 = a0 ∧ zW base D cA ad ty I L P H
section ZSO
variable {p : Program} {l : Launch} {e : Env} {R : Room} {s : State} {m : MethodId} {args : Array Value} {below : List Frame} {meth : Method} {c : Code} {H : Heap} {locs : List Loc} {cells slots : Nat} {Q : State → Prop} {cc : ByteArray} {nL pc base a0 : Nat} {D : zDD} {cA : Nat → ClassId} {ls : Array Slot} {rest : List Value} {ty : zTyp} {I J : zIt} {L K : zLt} {P : zPt} {ni nc ns nt hrs : Nat}
theorem zst_id (h0 : I 0 7 = 0) : zStale nc nt (I, L) = (I, L) := if_pos h0
set_option maxHeartbeats 2000000 in
theorem y_way (hl0 : l.stackTraces = false) (M : zM p s m c cc RL nL base D cA) (hN : zNcs s) (hC : zcls ni nc ns nt ty P) (hR : zREL ni nc ns nt hrs I L J K) (hA : zSo base D cA ty P a0 I L H) (hS : va_S (fun q => base ≤ q) s.heap H locs) (hsz : ls.size = nL) (hf0 : I 0 7 = 0) {t k : Nat} (ht : t < nt) (hk : k < 10) (hRm : 7 + 1 ≤ R.frames ∧ 8 + (3 + 11) + 117 ≤ R.locals) (hf : cells + 2 ≤ R.cells ∧ slots + 12 ≤ R.slots) (hr8 : (rest.map fun v => v.category).sum ≤ 8) (hdg : decode cc pc = .ok (.invokevirtual 60, 3)) (kk : ∀ (H : Heap) (locs : List Loc), zSo base D cA ty P a0 I L H → va_S (fun q => base ≤ q) s.heap H locs → W p l e R s m args below meth c H locs (cells + 2) (slots + 12) Q (F0 m (pc + 3) ls (.int (if nI k < I (80 + t) 1 then I (96 + t) k else -1) :: rest))) : W p l e R s m args below meth c H locs cells slots Q (F0 m pc ls (.int (nI k) :: .int (nI t) :: .ref a0 :: rest)) := by
  obtain ⟨ad, rfl, hw⟩ := hA
  have hb := hR.2.1
  obtain ⟨hb1, hb2, hb3, hb4⟩ := id hb
  have hst : zStale nc nt (I, L) = (I, L) := zst_id hf0
  have z := c_X6_way l base D cA ad ty I L P hl0 ni nc ns nt hC (zREL_inv hR) (zFin_ok nc) (zREL_wl hR) (nI t) (nI k)
  have hoc : zsq (zo1 (nI t) nt) (if nI k < 0 then 1 else 0) = 0 := by
    rw [zsq_0 (zo1_0 ((zlt_nI (by omega)).mpr ht)), if_neg (znn (by omega))]
  rw [hst, nI_clamp (show t < 2 ^ 31 by omega), nI_clamp (show k < 2 ^ 31 by omega)] at z
  exact z_xci (z_xrunV (As := [.int (nI t), .int (nI k)]) (rest := rest) M ⟨hw, hS⟩ (zc_t0 hC) zc_L_60 zn_L_60 z hw rfl rfl hRm hf hsz hr8 hdg) hS (fun hne ce q H locs hw0 hS hq hv hcl => absurd hoc hne) (fun _ H locs hw1 hS => kk H locs ⟨ad, rfl, hw1⟩ hS)
set_option maxHeartbeats 2000000 in
theorem y_works (hl0 : l.stackTraces = false) (M : zM p s m c cc RL nL base D cA) (hN : zNcs s) (hC : zcls ni nc ns nt ty P) (hR : zREL ni nc ns nt hrs I L J K) (hA : zSo base D cA ty P a0 I L H) (hS : va_S (fun q => base ≤ q) s.heap H locs) (hsz : ls.size = nL) {q : Nat} (hq : q < nc) (hRm : 7 + 1 ≤ R.frames ∧ 8 + (2 + 11) + 111 ≤ R.locals) (hf : cells + 1 ≤ R.cells ∧ slots + 6 ≤ R.slots) (hr8 : (rest.map fun v => v.category).sum ≤ 8) (hdg : decode cc pc = .ok (.invokevirtual 50, 3)) (kk : ∀ (H : Heap) (locs : List Loc), zSo base D cA ty P a0 I L H → va_S (fun q => base ≤ q) s.heap H locs → W p l e R s m args below meth c H locs (cells + 1) (slots + 6) Q (F0 m (pc + 3) ls (.int (zb (I (32 + q) 5 = 0)) :: rest))) : W p l e R s m args below meth c H locs cells slots Q (F0 m pc ls (.int (nI q) :: .ref a0 :: rest)) := by
  obtain ⟨ad, rfl, hw⟩ := hA
  have hb := hR.2.1
  obtain ⟨hb1, hb2, hb3, hb4⟩ := id hb
  have z := c_X6_works l base D cA ad ty I L P hl0 ni nc ns nt hC (zREL_inv hR) (nI q)
  have hoc : zo1 (nI q) nc = 0 := by
    exact zo1_0 ((zlt_nI (by omega)).mpr hq)
  rw [nI_clamp (show q < 2 ^ 31 by omega)] at z
  exact z_xci (z_xrunV (As := [.int (nI q)]) (rest := rest) M ⟨hw, hS⟩ (zc_t0 hC) zc_L_50 zn_L_50 z hw rfl rfl hRm hf hsz hr8 hdg) hS (fun hne ce q H locs hw0 hS hq hv hcl => absurd hoc hne) (fun _ H locs hw1 hS => kk H locs ⟨ad, rfl, hw1⟩ hS)
set_option maxHeartbeats 2000000 in
theorem y_sum0 (hl0 : l.stackTraces = false) (M : zM p s m c cc RL nL base D cA) (hN : zNcs s) (hC : zcls ni nc ns nt ty P) (hR : zREL ni nc ns nt hrs I L J K) (hA : zSo base D cA ty P a0 I L H) (hS : va_S (fun q => base ≤ q) s.heap H locs) (hsz : ls.size = nL) (hf0 : I 0 7 = 0) {t : Nat} (ht : t < nt) (hRm : 7 + 1 ≤ R.frames ∧ 8 + (4 + 11) + 117 ≤ R.locals) (hf : cells + 2 ≤ R.cells ∧ slots + 12 ≤ R.slots) (hr8 : (rest.map fun v => v.category).sum ≤ 8) (hdg : decode cc pc = .ok (.invokevirtual 63, 3)) (kk : ∀ (H : Heap) (locs : List Loc), zSo base D cA ty P a0 I L H → va_S (fun q => base ≤ q) s.heap H locs → W p l e R s m args below meth c H locs (cells + 2) (slots + 12) Q (F0 m (pc + 3) ls (.int (I (80 + t) 2) :: rest))) : W p l e R s m args below meth c H locs cells slots Q (F0 m pc ls (.int 0 :: .int (nI t) :: .ref a0 :: rest)) := by
  obtain ⟨ad, rfl, hw⟩ := hA
  have hb := hR.2.1
  obtain ⟨hb1, hb2, hb3, hb4⟩ := id hb
  have hst : zStale nc nt (I, L) = (I, L) := zst_id hf0
  have z := c_X6_sum l base D cA ad ty I L P hl0 ni nc ns nt hC (zREL_inv hR) (zFin_ok nc) (nI t) 0
  have hoc : zsq (zo1 (nI t) nt) (zo2 0 0 2) = 0 := by
    rw [zsq_0 (zo1_0 ((zlt_nI (by omega)).mpr ht))]
    decide
  rw [hst, nI_clamp (show t < 2 ^ 31 by omega)] at z
  rw [if_pos rfl] at z
  exact z_xci (z_xrunV (As := [.int (nI t), .int 0]) (rest := rest) M ⟨hw, hS⟩ (zc_t0 hC) zc_L_63 zn_L_63 z hw rfl rfl hRm hf hsz hr8 hdg) hS (fun hne ce q H locs hw0 hS hq hv hcl => absurd hoc hne) (fun _ H locs hw1 hS => kk H locs ⟨ad, rfl, hw1⟩ hS)
set_option maxHeartbeats 2000000 in
theorem y_sum1 (hl0 : l.stackTraces = false) (M : zM p s m c cc RL nL base D cA) (hN : zNcs s) (hC : zcls ni nc ns nt ty P) (hR : zREL ni nc ns nt hrs I L J K) (hA : zSo base D cA ty P a0 I L H) (hS : va_S (fun q => base ≤ q) s.heap H locs) (hsz : ls.size = nL) (hf0 : I 0 7 = 0) {t : Nat} (ht : t < nt) (hRm : 7 + 1 ≤ R.frames ∧ 8 + (4 + 11) + 117 ≤ R.locals) (hf : cells + 2 ≤ R.cells ∧ slots + 12 ≤ R.slots) (hr8 : (rest.map fun v => v.category).sum ≤ 8) (hdg : decode cc pc = .ok (.invokevirtual 63, 3)) (kk : ∀ (H : Heap) (locs : List Loc), zSo base D cA ty P a0 I L H → va_S (fun q => base ≤ q) s.heap H locs → W p l e R s m args below meth c H locs (cells + 2) (slots + 12) Q (F0 m (pc + 3) ls (.int (I (80 + t) 3) :: rest))) : W p l e R s m args below meth c H locs cells slots Q (F0 m pc ls (.int 1 :: .int (nI t) :: .ref a0 :: rest)) := by
  obtain ⟨ad, rfl, hw⟩ := hA
  have hb := hR.2.1
  obtain ⟨hb1, hb2, hb3, hb4⟩ := id hb
  have hst : zStale nc nt (I, L) = (I, L) := zst_id hf0
  have z := c_X6_sum l base D cA ad ty I L P hl0 ni nc ns nt hC (zREL_inv hR) (zFin_ok nc) (nI t) 1
  have hoc : zsq (zo1 (nI t) nt) (zo2 1 0 2) = 0 := by
    rw [zsq_0 (zo1_0 ((zlt_nI (by omega)).mpr ht))]
    decide
  rw [hst, nI_clamp (show t < 2 ^ 31 by omega)] at z
  rw [if_neg (by decide), if_pos rfl] at z
  exact z_xci (z_xrunV (As := [.int (nI t), .int 1]) (rest := rest) M ⟨hw, hS⟩ (zc_t0 hC) zc_L_63 zn_L_63 z hw rfl rfl hRm hf hsz hr8 hdg) hS (fun hne ce q H locs hw0 hS hq hv hcl => absurd hoc hne) (fun _ H locs hw1 hS => kk H locs ⟨ad, rfl, hw1⟩ hS)
set_option maxHeartbeats 2000000 in
theorem y_sum2 (hl0 : l.stackTraces = false) (M : zM p s m c cc RL nL base D cA) (hN : zNcs s) (hC : zcls ni nc ns nt ty P) (hR : zREL ni nc ns nt hrs I L J K) (hA : zSo base D cA ty P a0 I L H) (hS : va_S (fun q => base ≤ q) s.heap H locs) (hsz : ls.size = nL) (hf0 : I 0 7 = 0) {t : Nat} (ht : t < nt) (hRm : 7 + 1 ≤ R.frames ∧ 8 + (4 + 11) + 117 ≤ R.locals) (hf : cells + 2 ≤ R.cells ∧ slots + 12 ≤ R.slots) (hr8 : (rest.map fun v => v.category).sum ≤ 8) (hdg : decode cc pc = .ok (.invokevirtual 63, 3)) (kk : ∀ (H : Heap) (locs : List Loc), zSo base D cA ty P a0 I L H → va_S (fun q => base ≤ q) s.heap H locs → W p l e R s m args below meth c H locs (cells + 2) (slots + 12) Q (F0 m (pc + 3) ls (.int (I (80 + t) 1) :: rest))) : W p l e R s m args below meth c H locs cells slots Q (F0 m pc ls (.int 2 :: .int (nI t) :: .ref a0 :: rest)) := by
  obtain ⟨ad, rfl, hw⟩ := hA
  have hb := hR.2.1
  obtain ⟨hb1, hb2, hb3, hb4⟩ := id hb
  have hst : zStale nc nt (I, L) = (I, L) := zst_id hf0
  have z := c_X6_sum l base D cA ad ty I L P hl0 ni nc ns nt hC (zREL_inv hR) (zFin_ok nc) (nI t) 2
  have hoc : zsq (zo1 (nI t) nt) (zo2 2 0 2) = 0 := by
    rw [zsq_0 (zo1_0 ((zlt_nI (by omega)).mpr ht))]
    decide
  rw [hst, nI_clamp (show t < 2 ^ 31 by omega)] at z
  rw [if_neg (by decide), if_neg (by decide)] at z
  exact z_xci (z_xrunV (As := [.int (nI t), .int 2]) (rest := rest) M ⟨hw, hS⟩ (zc_t0 hC) zc_L_63 zn_L_63 z hw rfl rfl hRm hf hsz hr8 hdg) hS (fun hne ce q H locs hw0 hS hq hv hcl => absurd hoc hne) (fun _ H locs hw1 hS => kk H locs ⟨ad, rfl, hw1⟩ hS)
set_option maxHeartbeats 2000000 in
theorem y_sumAnew (hl0 : l.stackTraces = false) (M : zM p s m c cc RL nL base D cA) (hN : zNcs s) (hC : zcls ni nc ns nt ty P) (hR : zREL ni nc ns nt hrs I L J K) (hA : zSo base D cA ty P a0 I L H) (hS : va_S (fun q => base ≤ q) s.heap H locs) (hsz : ls.size = nL) {t u v : Nat} (ht : t < nt) (hu : u < 10) (hv : v < 10) (eu : I (64 + t) 0 = nI u) (ev : I (64 + t) 1 = nI v) (hRm : 7 + 1 ≤ R.frames ∧ 8 + (2 + 11) + 111 ≤ R.locals) (hf : cells + 1 ≤ R.cells ∧ slots + 6 ≤ R.slots) (hr8 : (rest.map fun v => v.category).sum ≤ 8) (hdg : decode cc pc = .ok (.invokevirtual 66, 3)) (kk : ∀ (H : Heap) (locs : List Loc), zSo base D cA ty P a0 (zs I 8 (zPrr I nc (zS0 (I 8) u) 9)) L H → va_S (fun q => base ≤ q) s.heap H locs → W p l e R s m args below meth c H locs (cells + 1) (slots + 6) Q (F0 m (pc + 3) ls (.int (zPrr I nc (zS0 (I 8) u) 9 v) :: rest))) : W p l e R s m args below meth c H locs cells slots Q (F0 m pc ls (.int (nI t) :: .ref a0 :: rest)) := by
  obtain ⟨ad, rfl, hw⟩ := hA
  have hb := hR.2.1
  obtain ⟨hb1, hb2, hb3, hb4⟩ := id hb
  have z := c_X6_sumAnew l base D cA ad ty I L P hl0 ni nc ns nt hC (zREL_inv hR) (nI t) u v hu hv (fun _ => by rw [nI_clamp (show t < 2 ^ 31 by omega)]; exact eu) (fun _ => by rw [nI_clamp (show t < 2 ^ 31 by omega)]; exact ev)
  have hoc : zo1 (nI t) nt = 0 := by
    exact zo1_0 ((zlt_nI (by omega)).mpr ht)
  exact z_xci (z_xrunV (As := [.int (nI t)]) (rest := rest) M ⟨hw, hS⟩ (zc_t0 hC) zc_L_66 zn_L_66 z hw rfl rfl hRm hf hsz hr8 hdg) hS (fun hne ce q H locs hw0 hS hq hv hcl => absurd hoc hne) (fun _ H locs hw1 hS => kk H locs ⟨ad, rfl, hw1⟩ hS)
set_option maxHeartbeats 2000000 in
theorem y_account2 (hl0 : l.stackTraces = false) (M : zM p s m c cc RL nL base D cA) (hN : zNcs s) (hC : zcls ni nc ns nt ty P) (hR : zREL ni nc ns nt hrs I L J K) (hA : zSo base D cA ty P a0 I L H) (hS : va_S (fun q => base ≤ q) s.heap H locs) (hsz : ls.size = nL) {t : Nat} (ht : t < nt) (hRm : 7 + 1 ≤ R.frames ∧ 8 + (4 + 11) + 112 ≤ R.locals) (hf : cells + 2 ≤ R.cells ∧ slots + 12 ≤ R.slots) (hr8 : (rest.map fun v => v.category).sum ≤ 8) (hdg : decode cc pc = .ok (.invokevirtual 69, 3)) (kk : ∀ (H : Heap) (locs : List Loc), zSo base D cA ty P a0 I L H → va_S (fun q => base ≤ q) s.heap H locs → W p l e R s m args below meth c H locs (cells + 2) (slots + 12) Q (F0 m (pc + 3) ls (.long ((I (64 + t) 9).toInt64) :: rest))) : W p l e R s m args below meth c H locs cells slots Q (F0 m pc ls (.int 2 :: .int (nI t) :: .ref a0 :: rest)) := by
  obtain ⟨ad, rfl, hw⟩ := hA
  have hb := hR.2.1
  obtain ⟨hb1, hb2, hb3, hb4⟩ := id hb
  have z := c_X6_account l base D cA ad ty I L P hl0 ni nc ns nt hC (zREL_inv hR) (nI t) 2
  have hoc : zsq (zo1 (nI t) nt) (zo2 2 0 3) = 0 := by
    rw [zsq_0 (zo1_0 ((zlt_nI (by omega)).mpr ht))]
    decide
  rw [nI_clamp (show t < 2 ^ 31 by omega)] at z
  rw [if_neg (by decide), if_neg (by decide), if_pos rfl] at z
  exact z_xcl (z_xrunV (As := [.int (nI t), .int 2]) (rest := rest) M ⟨hw, hS⟩ (zc_t0 hC) zc_L_69 zn_L_69 z hw rfl rfl hRm hf hsz hr8 hdg) hS (fun hne ce q H locs hw0 hS hq hv hcl => absurd hoc hne) (fun _ H locs hw1 hS => kk H locs ⟨ad, rfl, hw1⟩ hS)
set_option maxHeartbeats 2000000 in
theorem y_account3 (hl0 : l.stackTraces = false) (M : zM p s m c cc RL nL base D cA) (hN : zNcs s) (hC : zcls ni nc ns nt ty P) (hR : zREL ni nc ns nt hrs I L J K) (hA : zSo base D cA ty P a0 I L H) (hS : va_S (fun q => base ≤ q) s.heap H locs) (hsz : ls.size = nL) {t : Nat} (ht : t < nt) (hRm : 7 + 1 ≤ R.frames ∧ 8 + (4 + 11) + 112 ≤ R.locals) (hf : cells + 2 ≤ R.cells ∧ slots + 12 ≤ R.slots) (hr8 : (rest.map fun v => v.category).sum ≤ 8) (hdg : decode cc pc = .ok (.invokevirtual 69, 3)) (kk : ∀ (H : Heap) (locs : List Loc), zSo base D cA ty P a0 I L H → va_S (fun q => base ≤ q) s.heap H locs → W p l e R s m args below meth c H locs (cells + 2) (slots + 12) Q (F0 m (pc + 3) ls (.long ((I (64 + t) 10).toInt64) :: rest))) : W p l e R s m args below meth c H locs cells slots Q (F0 m pc ls (.int 3 :: .int (nI t) :: .ref a0 :: rest)) := by
  obtain ⟨ad, rfl, hw⟩ := hA
  have hb := hR.2.1
  obtain ⟨hb1, hb2, hb3, hb4⟩ := id hb
  have z := c_X6_account l base D cA ad ty I L P hl0 ni nc ns nt hC (zREL_inv hR) (nI t) 3
  have hoc : zsq (zo1 (nI t) nt) (zo2 3 0 3) = 0 := by
    rw [zsq_0 (zo1_0 ((zlt_nI (by omega)).mpr ht))]
    decide
  rw [nI_clamp (show t < 2 ^ 31 by omega)] at z
  rw [if_neg (by decide), if_neg (by decide), if_neg (by decide)] at z
  exact z_xcl (z_xrunV (As := [.int (nI t), .int 3]) (rest := rest) M ⟨hw, hS⟩ (zc_t0 hC) zc_L_69 zn_L_69 z hw rfl rfl hRm hf hsz hr8 hdg) hS (fun hne ce q H locs hw0 hS hq hv hcl => absurd hoc hne) (fun _ H locs hw1 hS => kk H locs ⟨ad, rfl, hw1⟩ hS)
set_option maxHeartbeats 2000000 in
theorem y_reach (hl0 : l.stackTraces = false) (M : zM p s m c cc RL nL base D cA) (hN : zNcs s) (hC : zcls ni nc ns nt ty P) (hR : zREL ni nc ns nt hrs I L J K) (hA : zSo base D cA ty P a0 I L H) (hS : va_S (fun q => base ≤ q) s.heap H locs) (hsz : ls.size = nL) {q : Nat} (hq : q < ni) (hRm : 7 + 1 ≤ R.frames ∧ 8 + (2 + 11) + 111 ≤ R.locals) (hf : cells + 1 ≤ R.cells ∧ slots + 6 ≤ R.slots) (hr8 : (rest.map fun v => v.category).sum ≤ 8) (hdg : decode cc pc = .ok (.invokevirtual 73, 3)) (kk : ∀ (H : Heap) (locs : List Loc), zSo base D cA ty P a0 I L H → va_S (fun q => base ≤ q) s.heap H locs → W p l e R s m args below meth c H locs (cells + 1) (slots + 6) Q (F0 m (pc + 3) ls (.int (zRer I nc (1 <<< (nI q &&& 31)) 9) :: rest))) : W p l e R s m args below meth c H locs cells slots Q (F0 m pc ls (.int (nI q) :: .ref a0 :: rest)) := by
  obtain ⟨ad, rfl, hw⟩ := hA
  have hb := hR.2.1
  obtain ⟨hb1, hb2, hb3, hb4⟩ := id hb
  have z := c_X6_reach l base D cA ad ty I L P hl0 ni nc ns nt hC (zREL_inv hR) (nI q)
  have hoc : zo1 (nI q) ni = 0 := by
    exact zo1_0 ((zlt_nI (by omega)).mpr hq)
  rw [nI_clamp (show q < 2 ^ 31 by omega)] at z
  exact z_xci (z_xrunV (As := [.int (nI q)]) (rest := rest) M ⟨hw, hS⟩ (zc_t0 hC) zc_L_73 zn_L_73 z hw rfl rfl hRm hf hsz hr8 hdg) hS (fun hne ce q H locs hw0 hS hq hv hcl => absurd hoc hne) (fun _ H locs hw1 hS => kk H locs ⟨ad, rfl, hw1⟩ hS)
set_option maxHeartbeats 2000000 in
theorem y_faultAt (hl0 : l.stackTraces = false) (M : zM p s m c cc RL nL base D cA) (hN : zNcs s) (hC : zcls ni nc ns nt ty P) (hR : zREL ni nc ns nt hrs I L J K) (hA : zSo base D cA ty P a0 I L H) (hS : va_S (fun q => base ≤ q) s.heap H locs) (hsz : ls.size = nL) {q : Nat} (hq : q < 10) (hRm : 6 + 1 ≤ R.frames ∧ 8 + (2 + 11) + 90 ≤ R.locals) (hf : cells + 1 ≤ R.cells ∧ slots + 6 ≤ R.slots) (hr8 : (rest.map fun v => v.category).sum ≤ 8) (hdg : decode cc pc = .ok (.invokevirtual 54, 3)) (kk : ∀ (H : Heap) (locs : List Loc), zSo base D cA ty P a0 I L H → va_S (fun q => base ≤ q) s.heap H locs → W p l e R s m args below meth c H locs (cells + 1) (slots + 6) Q (F0 m (pc + 3) ls (.int (if q < zNf I then I 6 q else -1) :: rest))) : W p l e R s m args below meth c H locs cells slots Q (F0 m pc ls (.int (nI q) :: .ref a0 :: rest)) := by
  obtain ⟨ad, rfl, hw⟩ := hA
  have hb := hR.2.1
  obtain ⟨hb1, hb2, hb3, hb4⟩ := id hb
  have z := c_X6_faultAt l base D cA ad ty I L P hl0 ni nc ns nt hC (zREL_inv hR) (nI q)
  have hoc : (if nI q < 0 then 1 else 0) = 0 := by
    rw [if_neg (znn (by omega))]
  rw [nI_clamp (show q < 2 ^ 31 by omega)] at z
  exact z_xci (z_xrunV (As := [.int (nI q)]) (rest := rest) M ⟨hw, hS⟩ (zc_t0 hC) zc_L_54 zn_L_54 z hw rfl rfl hRm hf hsz hr8 hdg) hS (fun hne ce q H locs hw0 hS hq hv hcl => absurd hoc hne) (fun _ H locs hw1 hS => kk H locs ⟨ad, rfl, hw1⟩ hS)
set_option maxHeartbeats 2000000 in
theorem y_hsum (hl0 : l.stackTraces = false) (M : zM p s m c cc RL nL base D cA) (hN : zNcs s) (hC : zcls ni nc ns nt ty P) (hR : zREL ni nc ns nt hrs I L J K) (hA : zSo base D cA ty P a0 I L H) (hS : va_S (fun q => base ≤ q) s.heap H locs) (hsz : ls.size = nL) {t : Nat} (ht : t < nt) (hRm : 8 + 1 ≤ R.frames ∧ 8 + (4 + 11) + 140 ≤ R.locals) (hf : cells + 2 ≤ R.cells ∧ slots + 12 ≤ R.slots) (hr8 : (rest.map fun v => v.category).sum ≤ 8) (hdg : decode cc pc = .ok (.invokestatic 112, 3)) (kk : ∀ (H : Heap) (locs : List Loc), zSo base D cA ty P a0 ((zStale nc nt (I, L)).1) ((zStale nc nt (I, L)).2) H → va_S (fun q => base ≤ q) s.heap H locs → W p l e R s m args below meth c H locs (cells + 2) (slots + 12) Q (F0 m (pc + 3) ls (.long (((zStale nc nt (I, L)).1 (80 + t) 2).toInt64) :: rest))) : W p l e R s m args below meth c H locs cells slots Q (F0 m pc ls (.int 0 :: .int (nI t) :: .ref a0 :: rest)) := by
  obtain ⟨ad, rfl, hw⟩ := hA
  have hb := hR.2.1
  obtain ⟨hb1, hb2, hb3, hb4⟩ := id hb
  have z := c_X6_sum l base D cA ad ty I L P hl0 ni nc ns nt hC (zREL_inv hR) (zFin_ok nc) (nI t) 0
  have hoc : zsq (zo1 (nI t) nt) (zo2 0 0 2) = 0 := by
    rw [zsq_0 (zo1_0 ((zlt_nI (by omega)).mpr ht))]
    decide
  rw [nI_clamp (show t < 2 ^ 31 by omega), if_pos rfl] at z
  have z2 := z_take hoc (c_L_sum l base D cA ad ty I L P 0 (zc_t0 hC) (nI t) 0 z (Or.inl hoc) (fun H z => ⟨ad, fun _ _ _ => rfl, z⟩))
  refine z_cl (z_runH (As := [.ref (ad 0), .int (nI t), .int 0]) (rest := rest) M hN hS zh_sum z2 hw rfl rfl hRm hf hsz hr8 hdg) hS (fun H locs hw1 hS => ?_)
  obtain ⟨ad2, hag, hw2⟩ := hw1
  exact kk H locs ⟨ad2, hag 0 _ (zc_t0 hC), hw2⟩ hS
set_option maxHeartbeats 2000000 in
theorem y_hsumx (hl0 : l.stackTraces = false) (M : zM p s m c cc RL nL base D cA) (hN : zNcs s) (hC : zcls ni nc ns nt ty P) (hR : zREL ni nc ns nt hrs I L J K) (hA : zSo base D cA ty P a0 I L H) (hS : va_S (fun q => base ≤ q) s.heap H locs) (hsz : ls.size = nL) {t : Nat} (ht : ¬ t < nt) (ht2 : t < 100) (hRm : 8 + 1 ≤ R.frames ∧ 8 + (4 + 11) + 140 ≤ R.locals) (hf : cells + 2 ≤ R.cells ∧ slots + 12 ≤ R.slots) (hr8 : (rest.map fun v => v.category).sum ≤ 8) (hdg : decode cc pc = .ok (.invokestatic 112, 3)) (kk : ∀ (H : Heap) (locs : List Loc), zSo base D cA ty P a0 I L H → va_S (fun q => base ≤ q) s.heap H locs → W p l e R s m args below meth c H locs (cells + 2) (slots + 12) Q (F0 m (pc + 3) ls (.long (-9000000000000000) :: rest))) : W p l e R s m args below meth c H locs cells slots Q (F0 m pc ls (.int 0 :: .int (nI t) :: .ref a0 :: rest)) := by
  obtain ⟨ad, rfl, hw⟩ := hA
  have hb := hR.2.1
  obtain ⟨hb1, hb2, hb3, hb4⟩ := id hb
  have z := c_X6_sum l base D cA ad ty I L P hl0 ni nc ns nt hC (zREL_inv hR) (zFin_ok nc) (nI t) 0
  have hoc : ¬ zsq (zo1 (nI t) nt) (zo2 0 0 2) = 0 := by
    rw [zo1_1 (fun q => ht ((zlt_nI (by omega)).mp q)), zsq_1]
    decide
  have z2 := z_left hoc (c_L_sum l base D cA ad ty I L P 0 (zc_t0 hC) (nI t) 0 z (Or.inr (Or.inl (by rw [zo1_1 (fun q => ht ((zlt_nI (by omega)).mp q)), zsq_1]))) (fun H z => ⟨ad, fun _ _ _ => rfl, z⟩))
  refine z_cl (z_runH (As := [.ref (ad 0), .int (nI t), .int 0]) (rest := rest) M hN hS zh_sum z2 hw rfl rfl hRm hf hsz hr8 hdg) hS (fun H locs hw1 hS => ?_)
  obtain ⟨ad2, hag, hw2⟩ := hw1
  exact kk H locs ⟨ad2, hag 0 _ (zc_t0 hC), hw2⟩ hS
set_option maxHeartbeats 2000000 in
theorem y_hreach (hl0 : l.stackTraces = false) (M : zM p s m c cc RL nL base D cA) (hN : zNcs s) (hC : zcls ni nc ns nt ty P) (hR : zREL ni nc ns nt hrs I L J K) (hA : zSo base D cA ty P a0 I L H) (hS : va_S (fun q => base ≤ q) s.heap H locs) (hsz : ls.size = nL) {q : Nat} (hq : q < ni) (hRm : 8 + 1 ≤ R.frames ∧ 8 + (3 + 11) + 132 ≤ R.locals) (hf : cells + 1 ≤ R.cells ∧ slots + 6 ≤ R.slots) (hr8 : (rest.map fun v => v.category).sum ≤ 8) (hdg : decode cc pc = .ok (.invokestatic 116, 3)) (kk : ∀ (H : Heap) (locs : List Loc), zSo base D cA ty P a0 I L H → va_S (fun q => base ≤ q) s.heap H locs → W p l e R s m args below meth c H locs (cells + 1) (slots + 6) Q (F0 m (pc + 3) ls (.long ((zRer I nc (1 <<< (nI q &&& 31)) 9).toInt64) :: rest))) : W p l e R s m args below meth c H locs cells slots Q (F0 m pc ls (.int (nI q) :: .ref a0 :: rest)) := by
  obtain ⟨ad, rfl, hw⟩ := hA
  have hb := hR.2.1
  obtain ⟨hb1, hb2, hb3, hb4⟩ := id hb
  have z := c_X6_reach l base D cA ad ty I L P hl0 ni nc ns nt hC (zREL_inv hR) (nI q)
  have hoc : zo1 (nI q) ni = 0 := by
    exact zo1_0 ((zlt_nI (by omega)).mpr hq)
  rw [nI_clamp (show q < 2 ^ 31 by omega)] at z
  have z2 := z_take hoc (c_L_reach l base D cA ad ty I L P 0 (zc_t0 hC) (nI q) z (Or.inl hoc) (fun H z => ⟨ad, fun _ _ _ => rfl, z⟩))
  refine z_cl (z_runH (As := [.ref (ad 0), .int (nI q)]) (rest := rest) M hN hS zh_reach z2 hw rfl rfl hRm hf hsz hr8 hdg) hS (fun H locs hw1 hS => ?_)
  obtain ⟨ad2, hag, hw2⟩ := hw1
  exact kk H locs ⟨ad2, hag 0 _ (zc_t0 hC), hw2⟩ hS
set_option maxHeartbeats 2000000 in
theorem y_hreachx (hl0 : l.stackTraces = false) (M : zM p s m c cc RL nL base D cA) (hN : zNcs s) (hC : zcls ni nc ns nt ty P) (hR : zREL ni nc ns nt hrs I L J K) (hA : zSo base D cA ty P a0 I L H) (hS : va_S (fun q => base ≤ q) s.heap H locs) (hsz : ls.size = nL) {q : Nat} (hq : ¬ q < ni) (hq2 : q < 100) (hRm : 8 + 1 ≤ R.frames ∧ 8 + (3 + 11) + 132 ≤ R.locals) (hf : cells + 1 ≤ R.cells ∧ slots + 6 ≤ R.slots) (hr8 : (rest.map fun v => v.category).sum ≤ 8) (hdg : decode cc pc = .ok (.invokestatic 116, 3)) (kk : ∀ (H : Heap) (locs : List Loc), zSo base D cA ty P a0 I L H → va_S (fun q => base ≤ q) s.heap H locs → W p l e R s m args below meth c H locs (cells + 1) (slots + 6) Q (F0 m (pc + 3) ls (.long (-9000000000000000) :: rest))) : W p l e R s m args below meth c H locs cells slots Q (F0 m pc ls (.int (nI q) :: .ref a0 :: rest)) := by
  obtain ⟨ad, rfl, hw⟩ := hA
  have hb := hR.2.1
  obtain ⟨hb1, hb2, hb3, hb4⟩ := id hb
  have z := c_X6_reach l base D cA ad ty I L P hl0 ni nc ns nt hC (zREL_inv hR) (nI q)
  have hoc : ¬ zo1 (nI q) ni = 0 := by
    rw [zo1_1 (fun w => hq ((zlt_nI (by omega)).mp w))]
    decide
  have z2 := z_left hoc (c_L_reach l base D cA ad ty I L P 0 (zc_t0 hC) (nI q) z (Or.inr (zo1_1 (fun w => hq ((zlt_nI (by omega)).mp w)))) (fun H z => ⟨ad, fun _ _ _ => rfl, z⟩))
  refine z_cl (z_runH (As := [.ref (ad 0), .int (nI q)]) (rest := rest) M hN hS zh_reach z2 hw rfl rfl hRm hf hsz hr8 hdg) hS (fun H locs hw1 hS => ?_)
  obtain ⟨ad2, hag, hw2⟩ := hw1
  exact kk H locs ⟨ad2, hag 0 _ (zc_t0 hC), hw2⟩ hS
set_option maxHeartbeats 2000000 in
theorem y_hfaultx (hl0 : l.stackTraces = false) (M : zM p s m c cc RL nL base D cA) (hN : zNcs s) (hC : zcls ni nc ns nt ty P) (hR : zREL ni nc ns nt hrs I L J K) (hA : zSo base D cA ty P a0 I L H) (hS : va_S (fun q => base ≤ q) s.heap H locs) (hsz : ls.size = nL)  (hRm : 7 + 1 ≤ R.frames ∧ 8 + (3 + 11) + 111 ≤ R.locals) (hf : cells + 1 ≤ R.cells ∧ slots + 6 ≤ R.slots) (hr8 : (rest.map fun v => v.category).sum ≤ 8) (hdg : decode cc pc = .ok (.invokestatic 106, 3)) (kk : ∀ (H : Heap) (locs : List Loc), zSo base D cA ty P a0 I L H → va_S (fun q => base ≤ q) s.heap H locs → W p l e R s m args below meth c H locs (cells + 1) (slots + 6) Q (F0 m (pc + 3) ls (.long (-9000000000000000) :: rest))) : W p l e R s m args below meth c H locs cells slots Q (F0 m pc ls (.int (-1) :: .ref a0 :: rest)) := by
  obtain ⟨ad, rfl, hw⟩ := hA
  have hb := hR.2.1
  obtain ⟨hb1, hb2, hb3, hb4⟩ := id hb
  have z := c_X6_faultAt l base D cA ad ty I L P hl0 ni nc ns nt hC (zREL_inv hR) (-1)
  have hoc : ¬ (if (-1 : Int32) < 0 then 1 else 0) = 0 := by
    decide
  have z2 := z_left hoc (c_L_faultAt l base D cA ad ty I L P 0 (zc_t0 hC) (-1) z (Or.inr (by decide)) (fun H z => ⟨ad, fun _ _ _ => rfl, z⟩))
  refine z_cl (z_runH (As := [.ref (ad 0), .int (-1)]) (rest := rest) M hN hS zh_faultAt z2 hw rfl rfl hRm hf hsz hr8 hdg) hS (fun H locs hw1 hS => ?_)
  obtain ⟨ad2, hag, hw2⟩ := hw1
  exact kk H locs ⟨ad2, hag 0 _ (zc_t0 hC), hw2⟩ hS
set_option maxHeartbeats 2000000 in
theorem y_hworksx (hl0 : l.stackTraces = false) (M : zM p s m c cc RL nL base D cA) (hN : zNcs s) (hC : zcls ni nc ns nt ty P) (hR : zREL ni nc ns nt hrs I L J K) (hA : zSo base D cA ty P a0 I L H) (hS : va_S (fun q => base ≤ q) s.heap H locs) (hsz : ls.size = nL) {q : Nat} (hq : ¬ q < nc) (hq2 : q < 100) (hRm : 8 + 1 ≤ R.frames ∧ 8 + (3 + 11) + 132 ≤ R.locals) (hf : cells + 1 ≤ R.cells ∧ slots + 6 ≤ R.slots) (hr8 : (rest.map fun v => v.category).sum ≤ 8) (hdg : decode cc pc = .ok (.invokestatic 104, 3)) (kk : ∀ (H : Heap) (locs : List Loc), zSo base D cA ty P a0 I L H → va_S (fun q => base ≤ q) s.heap H locs → W p l e R s m args below meth c H locs (cells + 1) (slots + 6) Q (F0 m (pc + 3) ls (.long (-9000000000000000) :: rest))) : W p l e R s m args below meth c H locs cells slots Q (F0 m pc ls (.int (nI q) :: .ref a0 :: rest)) := by
  obtain ⟨ad, rfl, hw⟩ := hA
  have hb := hR.2.1
  obtain ⟨hb1, hb2, hb3, hb4⟩ := id hb
  have z := c_X6_works l base D cA ad ty I L P hl0 ni nc ns nt hC (zREL_inv hR) (nI q)
  have hoc : ¬ zo1 (nI q) nc = 0 := by
    rw [zo1_1 (fun w => hq ((zlt_nI (by omega)).mp w))]
    decide
  have z2 := z_left hoc (c_L_works l base D cA ad ty I L P 0 (zc_t0 hC) (nI q) z (Or.inr (zo1_1 (fun w => hq ((zlt_nI (by omega)).mp w)))) (fun H z => ⟨ad, fun _ _ _ => rfl, z⟩))
  refine z_cl (z_runH (As := [.ref (ad 0), .int (nI q)]) (rest := rest) M hN hS zh_works z2 hw rfl rfl hRm hf hsz hr8 hdg) hS (fun H locs hw1 hS => ?_)
  obtain ⟨ad2, hag, hw2⟩ := hw1
  exact kk H locs ⟨ad2, hag 0 _ (zc_t0 hC), hw2⟩ hS
end ZSO
