/-! isSo (laid by m_so2.py) -/
theorem zst_0 {I : zIt} {L : zLt} {nc nt : Nat} : (zStale nc nt (I, L)).1 0 7 = 0 := by
  unfold zStale
  by_cases h : I 0 7 = 0
  · rw [if_pos h]; exact h
  · rw [if_neg h]
    show zu (zFs nc (I, L) nt).1 0 7 0 0 7 = 0
    exact zu_self _ _ _ _
theorem zREL_8 {ni nc ns nt hrs : Nat} {I J : zIt} {L K : zLt} (f : Nat → Int32) (h : zREL ni nc ns nt hrs I L J K) : zREL ni nc ns nt hrs (zs I 8 f) L J K :=
  zREL_c (I' := zs I 8 f) (L' := L) (J' := J) (K' := K) (fun κ hκ h8 => zs_ne _ _ h8) (fun _ _ => rfl) (fun _ _ _ => rfl) (fun _ _ => rfl) rfl h
theorem z_nIi {a b : Nat} (ha : a < 2 ^ 31) (hb : b < 2 ^ 31) (h : nI a = nI b) : a = b := by
  have h1 := congrArg Int32.toInt h
  rw [nI_toInt ha, nI_toInt hb] at h1
  omega
theorem z_l0 : (0 : Int64) = lN 0 := rfl
theorem z_set0 {m0 : Nat} (hm : m0 < 1024) : ¬ lg_cmp (nI m0).toInt64 0 < 0 := by
  rw [nI_l (by omega), z_l0, zcN_lt (by omega) (by omega)]
  omega
theorem z_acc0 {a b : Nat} (ha : a < 1000000) (hb : b < 1000000) : ¬ lg_cmp (lN a + lN b) 0 < 0 := by
  rw [lN_add, z_l0, zcN_lt (by omega) (by omega)]
  omega
theorem z_nlt_le {a b : Int32} (h : b ≤ a) : ¬ a < b := by
  rw [Int32.lt_iff_toInt_lt]
  rw [Int32.le_iff_toInt_le] at h
  omega
theorem z_le_nlt {a b : Int32} (h : ¬ a < b) : b ≤ a := by
  rw [Int32.lt_iff_toInt_lt] at h
  rw [Int32.le_iff_toInt_le]
  omega
section ZSI
variable {p : Program} {l : Launch} {e : Env} {s : State} {m : MethodId} {args : Array Value} {below : List Frame} {meth : Method} {c : Code} {H : Heap} {locs : List Loc} {cells slots : Nat} {Q : State → Prop} {base a0 : Nat} {D : zDD} {cA : Nat → ClassId} {ls : Array Slot} {ty : zTyp} {I J : zIt} {L K : zLt} {P : zPt} {ni nc ns nt hrs : Nat}
set_option maxHeartbeats 8000000 in
set_option maxRecDepth 100000 in
theorem z_soC (hl0 : l.stackTraces = false) (M : zM p s m c cL_isSo RL 8 base D cA) (hN : zNcs s) (hC : zcls ni nc ns nt ty P) (hR : zREL ni nc ns nt hrs I L J K) (hA : zSo base D cA ty P a0 I L H) (hS : va_S (fun q => base ≤ q) s.heap H locs) (hr : meth.sig.returnType = some .boolean) (hlocks : meth.locks = false) (hcl : cells + 20 ≤ 862) (hsl : slots + 120 ≤ 5172) (hl : lv_has ls 8 [(1, .int 1), (0, .ref a0)]) : W p l e (zRm 9 163 862 5172) s m args below meth c H locs cells slots (MQ below (zQi base 1 (fun _ => True)) args s 862 5172 (fun q => base ≤ q)) (F0 m 327 ls []) := by
  obtain ⟨hx, hb, -⟩ := id M
  have hbd := hR.2.1
  obtain ⟨hb1, hb2, hb3, hb4⟩ := id hbd
  refine lv_iconst (v := 0) hx hb dL_isSo_327 (by decide) ?_
  refine z_topi (y := nI 0) rfl ?_
  refine lv_istore_n (lv' := [(2, .int (nI 0)), (1, .int 1), (0, .ref a0)]) hx hb dL_isSo_328 rfl hl (by decide) rfl (fun ls hl => ?_)
  refine z_loopc 8 cells 2 slots 12 (fun k H locs ls => zSo base D cA ty P a0 I L H ∧ va_S (fun q => base ≤ q) s.heap H locs ∧ lv_has ls 8 [(2, .int (nI k)), (1, .int 1), (0, .ref a0)]) ⟨hA, hS, lv_sub hl [0, 1, 2] rfl⟩ (fun k hk ih H locs ls hI => ?_)
  obtain ⟨hA, hS, hl⟩ := hI
  by_cases hz : k < zNf I
  · skip
    obtain ⟨q, hq, e8, ene, ew⟩ := zfault_so hR hz
    refine lv_iload_n hx hb dL_isSo_329 rfl (lv_at hl 0 rfl) ?_
    refine lv_bipush (v := 8) hx hb dL_isSo_330 (by decide) ?_
    refine lv_icmp_ge (tgt := 373) hx hb dL_isSo_332 (by decide) (fun c1 => ?_) (fun c1 => ?_)
    · skip
      refine lv_iload_n hx hb dL_isSo_373 rfl (lv_at hl 1 rfl) ?_
      refine lv_if_eq (tgt := 420) hx hb dL_isSo_374 (by decide) (fun c2 => ?_) (fun c2 => ?_)
      · exact absurd c2 (by decide)
      refine lv_aload_n hx hb dL_isSo_377 rfl (lv_at hl 2 rfl) ?_
      refine lv_iconst (v := (-1)) hx hb dL_isSo_378 (by decide) ?_
      refine y_hfaultx (rest := []) hl0 M hN hC hR hA hS hl.1  ⟨Nat.le_of_ble_eq_true rfl, Nat.le_of_ble_eq_true rfl⟩ ⟨(by show _ ≤ 862; omega), (by show _ ≤ 5172; omega)⟩ (Nat.le_of_ble_eq_true rfl) dL_isSo_379 (fun H locs hA hS => ?_)
      refine lv_ldc2 (v := -9000000000000000) hx hb M.2.2.2.1 (M.2.2.2.2.1.use (tb 212 (by decide +kernel)) rfl) dL_isSo_382 ?_
      refine W.lcmp hx hb dL_isSo_385 ?_
      refine lv_if_ne (tgt := 420) hx hb dL_isSo_386 (by decide) (fun c3 => ?_) (fun c3 => ?_)
      · skip
        exact absurd ((lg_cmp_eq _ _).mpr rfl) c3
      · skip
        refine lv_aload_n hx hb dL_isSo_389 rfl (lv_at hl 2 rfl) ?_
        refine lv_bipush (v := 12) hx hb dL_isSo_390 (by decide) ?_
        refine z_topi (y := nI 12) rfl ?_
        refine lv_iconst (v := 0) hx hb dL_isSo_392 (by decide) ?_
        refine y_hsumx (rest := []) hl0 M hN hC hR hA hS hl.1 (t := 12) (by omega) (by omega) ⟨Nat.le_of_ble_eq_true rfl, Nat.le_of_ble_eq_true rfl⟩ ⟨(by show _ ≤ 862; omega), (by show _ ≤ 5172; omega)⟩ (Nat.le_of_ble_eq_true rfl) dL_isSo_393 (fun H locs hA hS => ?_)
        refine lv_ldc2 (v := -9000000000000000) hx hb M.2.2.2.1 (M.2.2.2.2.1.use (tb 212 (by decide +kernel)) rfl) dL_isSo_396 ?_
        refine W.lcmp hx hb dL_isSo_399 ?_
        refine lv_if_ne (tgt := 420) hx hb dL_isSo_400 (by decide) (fun c4 => ?_) (fun c4 => ?_)
        · skip
          exact absurd ((lg_cmp_eq _ _).mpr rfl) c4
        · skip
          refine lv_aload_n hx hb dL_isSo_403 rfl (lv_at hl 2 rfl) ?_
          refine lv_bipush (v := 16) hx hb dL_isSo_404 (by decide) ?_
          refine z_topi (y := nI 16) rfl ?_
          refine y_hworksx (rest := []) hl0 M hN hC hR hA hS hl.1 (q := 16) (by omega) (by omega) ⟨Nat.le_of_ble_eq_true rfl, Nat.le_of_ble_eq_true rfl⟩ ⟨(by show _ ≤ 862; omega), (by show _ ≤ 5172; omega)⟩ (Nat.le_of_ble_eq_true rfl) dL_isSo_406 (fun H locs hA hS => ?_)
          refine lv_ldc2 (v := -9000000000000000) hx hb M.2.2.2.1 (M.2.2.2.2.1.use (tb 212 (by decide +kernel)) rfl) dL_isSo_409 ?_
          refine W.lcmp hx hb dL_isSo_412 ?_
          refine lv_if_ne (tgt := 420) hx hb dL_isSo_413 (by decide) (fun c5 => ?_) (fun c5 => ?_)
          · skip
            exact absurd ((lg_cmp_eq _ _).mpr rfl) c5
          · skip
            refine lv_iconst (v := 1) hx hb dL_isSo_416 (by decide) ?_
            refine lv_goto (tgt := 421) hx hb dL_isSo_417 (by decide) ?_
            exact z_iret hx hb hr rfl rfl hS trivial (by show _ ≤ 862; omega) (by show _ ≤ 5172; omega) dL_isSo_421 hlocks
    · skip
      have hk8 : k < 8 := z_lt (show ¬ nI 8 ≤ nI k from c1) (by omega)
      refine lv_iload_n hx hb dL_isSo_335 rfl (lv_at hl 1 rfl) ?_
      refine lv_if_eq (tgt := 373) hx hb dL_isSo_336 (by decide) (fun c6 => ?_) (fun c6 => ?_)
      · exact absurd c6 (by decide)
      refine lv_aload_n hx hb dL_isSo_339 rfl (lv_at hl 2 rfl) ?_
      refine lv_iload_n hx hb dL_isSo_340 rfl (lv_at hl 0 rfl) ?_
      refine y_faultAt (rest := []) hl0 M hN hC hR hA hS hl.1 (show k < 10 by omega) ⟨Nat.le_of_ble_eq_true rfl, Nat.le_of_ble_eq_true rfl⟩ ⟨(by show _ ≤ 862; omega), (by show _ ≤ 5172; omega)⟩ (Nat.le_of_ble_eq_true rfl) dL_isSo_341 (fun H locs hA hS => ?_)
      refine z_topi (y := I 6 k) (if_pos hz) ?_
      refine lv_istore_n (lv' := [(3, .int (I 6 k)), (2, .int (nI k)), (1, .int 1), (0, .ref a0)]) hx hb dL_isSo_344 rfl hl (by decide) rfl (fun ls hl => ?_)
      refine lv_iload_n hx hb dL_isSo_345 rfl (lv_at hl 0 rfl) ?_
      refine lv_iconst (v := (-1)) hx hb dL_isSo_346 (by decide) ?_
      refine lv_icmp_eq (tgt := 361) hx hb dL_isSo_347 (by decide) (fun c7 => ?_) (fun c7 => ?_)
      · skip
        exact absurd c7 ene
      · skip
        refine lv_aload_n hx hb dL_isSo_350 rfl (lv_at hl 3 rfl) ?_
        refine lv_iload_n hx hb dL_isSo_351 rfl (lv_at hl 0 rfl) ?_
        refine lv_bipush (v := 8) hx hb dL_isSo_352 (by decide) ?_
        refine lv_idiv hx hb dL_isSo_354 (by decide) ?_
        refine z_topi (y := nI q) e8 ?_
        refine y_works (rest := []) hl0 M hN hC hR hA hS hl.1 hq ⟨Nat.le_of_ble_eq_true rfl, Nat.le_of_ble_eq_true rfl⟩ ⟨(by show _ ≤ 862; omega), (by show _ ≤ 5172; omega)⟩ (Nat.le_of_ble_eq_true rfl) dL_isSo_355 (fun H locs hA hS => ?_)
        refine lv_if_ne (tgt := 365) hx hb dL_isSo_358 (by decide) (fun c8 => ?_) (fun c8 => ?_)
        · skip
          have c8 := zb_ne0.mp c8
          exact absurd c8 ew
        · skip
          have c8 := zb_eq0.mp c8
          refine lv_iconst (v := 1) hx hb dL_isSo_361 (by decide) ?_
          refine lv_goto (tgt := 366) hx hb dL_isSo_362 (by decide) ?_
          refine lv_istore_n (lv' := [(1, .int 1), (3, .int (I 6 k)), (2, .int (nI k)), (0, .ref a0)]) hx hb dL_isSo_366 rfl hl (by decide) rfl (fun ls hl => ?_)
          refine lv_iinc (v := nI (k + 1)) (lv' := [(2, .int (nI (k + 1))), (1, .int 1), (3, .int (I 6 k)), (0, .ref a0)]) hx hb dL_isSo_367 hl (k := 2) rfl (nI_succ _).symm (by decide) rfl (fun ls hl => ?_)
          refine lv_goto (tgt := 329) hx hb dL_isSo_370 (by decide) ?_
          refine W.widen (k := cells + 2 * (k + 1)) (n := slots + 12 * (k + 1)) (by omega) (by omega) ?_
          exact ih hk8 _ _ _ ⟨hA, hS, lv_sub hl [0, 1, 3] rfl⟩
  · skip
    refine lv_iload_n hx hb dL_isSo_329 rfl (lv_at hl 0 rfl) ?_
    refine lv_bipush (v := 8) hx hb dL_isSo_330 (by decide) ?_
    refine lv_icmp_ge (tgt := 373) hx hb dL_isSo_332 (by decide) (fun c9 => ?_) (fun c9 => ?_)
    · skip
      refine lv_iload_n hx hb dL_isSo_373 rfl (lv_at hl 1 rfl) ?_
      refine lv_if_eq (tgt := 420) hx hb dL_isSo_374 (by decide) (fun c10 => ?_) (fun c10 => ?_)
      · exact absurd c10 (by decide)
      refine lv_aload_n hx hb dL_isSo_377 rfl (lv_at hl 2 rfl) ?_
      refine lv_iconst (v := (-1)) hx hb dL_isSo_378 (by decide) ?_
      refine y_hfaultx (rest := []) hl0 M hN hC hR hA hS hl.1  ⟨Nat.le_of_ble_eq_true rfl, Nat.le_of_ble_eq_true rfl⟩ ⟨(by show _ ≤ 862; omega), (by show _ ≤ 5172; omega)⟩ (Nat.le_of_ble_eq_true rfl) dL_isSo_379 (fun H locs hA hS => ?_)
      refine lv_ldc2 (v := -9000000000000000) hx hb M.2.2.2.1 (M.2.2.2.2.1.use (tb 212 (by decide +kernel)) rfl) dL_isSo_382 ?_
      refine W.lcmp hx hb dL_isSo_385 ?_
      refine lv_if_ne (tgt := 420) hx hb dL_isSo_386 (by decide) (fun c11 => ?_) (fun c11 => ?_)
      · skip
        exact absurd ((lg_cmp_eq _ _).mpr rfl) c11
      · skip
        refine lv_aload_n hx hb dL_isSo_389 rfl (lv_at hl 2 rfl) ?_
        refine lv_bipush (v := 12) hx hb dL_isSo_390 (by decide) ?_
        refine z_topi (y := nI 12) rfl ?_
        refine lv_iconst (v := 0) hx hb dL_isSo_392 (by decide) ?_
        refine y_hsumx (rest := []) hl0 M hN hC hR hA hS hl.1 (t := 12) (by omega) (by omega) ⟨Nat.le_of_ble_eq_true rfl, Nat.le_of_ble_eq_true rfl⟩ ⟨(by show _ ≤ 862; omega), (by show _ ≤ 5172; omega)⟩ (Nat.le_of_ble_eq_true rfl) dL_isSo_393 (fun H locs hA hS => ?_)
        refine lv_ldc2 (v := -9000000000000000) hx hb M.2.2.2.1 (M.2.2.2.2.1.use (tb 212 (by decide +kernel)) rfl) dL_isSo_396 ?_
        refine W.lcmp hx hb dL_isSo_399 ?_
        refine lv_if_ne (tgt := 420) hx hb dL_isSo_400 (by decide) (fun c12 => ?_) (fun c12 => ?_)
        · skip
          exact absurd ((lg_cmp_eq _ _).mpr rfl) c12
        · skip
          refine lv_aload_n hx hb dL_isSo_403 rfl (lv_at hl 2 rfl) ?_
          refine lv_bipush (v := 16) hx hb dL_isSo_404 (by decide) ?_
          refine z_topi (y := nI 16) rfl ?_
          refine y_hworksx (rest := []) hl0 M hN hC hR hA hS hl.1 (q := 16) (by omega) (by omega) ⟨Nat.le_of_ble_eq_true rfl, Nat.le_of_ble_eq_true rfl⟩ ⟨(by show _ ≤ 862; omega), (by show _ ≤ 5172; omega)⟩ (Nat.le_of_ble_eq_true rfl) dL_isSo_406 (fun H locs hA hS => ?_)
          refine lv_ldc2 (v := -9000000000000000) hx hb M.2.2.2.1 (M.2.2.2.2.1.use (tb 212 (by decide +kernel)) rfl) dL_isSo_409 ?_
          refine W.lcmp hx hb dL_isSo_412 ?_
          refine lv_if_ne (tgt := 420) hx hb dL_isSo_413 (by decide) (fun c13 => ?_) (fun c13 => ?_)
          · skip
            exact absurd ((lg_cmp_eq _ _).mpr rfl) c13
          · skip
            refine lv_iconst (v := 1) hx hb dL_isSo_416 (by decide) ?_
            refine lv_goto (tgt := 421) hx hb dL_isSo_417 (by decide) ?_
            exact z_iret hx hb hr rfl rfl hS trivial (by show _ ≤ 862; omega) (by show _ ≤ 5172; omega) dL_isSo_421 hlocks
    · skip
      have hk8 : k < 8 := z_lt (show ¬ nI 8 ≤ nI k from c9) (by omega)
      refine lv_iload_n hx hb dL_isSo_335 rfl (lv_at hl 1 rfl) ?_
      refine lv_if_eq (tgt := 373) hx hb dL_isSo_336 (by decide) (fun c14 => ?_) (fun c14 => ?_)
      · exact absurd c14 (by decide)
      refine lv_aload_n hx hb dL_isSo_339 rfl (lv_at hl 2 rfl) ?_
      refine lv_iload_n hx hb dL_isSo_340 rfl (lv_at hl 0 rfl) ?_
      refine y_faultAt (rest := []) hl0 M hN hC hR hA hS hl.1 (show k < 10 by omega) ⟨Nat.le_of_ble_eq_true rfl, Nat.le_of_ble_eq_true rfl⟩ ⟨(by show _ ≤ 862; omega), (by show _ ≤ 5172; omega)⟩ (Nat.le_of_ble_eq_true rfl) dL_isSo_341 (fun H locs hA hS => ?_)
      refine z_topi (y := (-1)) (if_neg hz) ?_
      refine lv_istore_n (lv' := [(3, .int (-1)), (2, .int (nI k)), (1, .int 1), (0, .ref a0)]) hx hb dL_isSo_344 rfl hl (by decide) rfl (fun ls hl => ?_)
      refine lv_iload_n hx hb dL_isSo_345 rfl (lv_at hl 0 rfl) ?_
      refine lv_iconst (v := (-1)) hx hb dL_isSo_346 (by decide) ?_
      refine lv_icmp_eq (tgt := 361) hx hb dL_isSo_347 (by decide) (fun c15 => ?_) (fun c15 => ?_)
      rotate_left
      · exact absurd c15 (by decide)
      refine lv_iconst (v := 1) hx hb dL_isSo_361 (by decide) ?_
      refine lv_goto (tgt := 366) hx hb dL_isSo_362 (by decide) ?_
      refine lv_istore_n (lv' := [(1, .int 1), (3, .int (-1)), (2, .int (nI k)), (0, .ref a0)]) hx hb dL_isSo_366 rfl hl (by decide) rfl (fun ls hl => ?_)
      refine lv_iinc (v := nI (k + 1)) (lv' := [(2, .int (nI (k + 1))), (1, .int 1), (3, .int (-1)), (0, .ref a0)]) hx hb dL_isSo_367 hl (k := 2) rfl (nI_succ _).symm (by decide) rfl (fun ls hl => ?_)
      refine lv_goto (tgt := 329) hx hb dL_isSo_370 (by decide) ?_
      refine W.widen (k := cells + 2 * (k + 1)) (n := slots + 12 * (k + 1)) (by omega) (by omega) ?_
      exact ih hk8 _ _ _ ⟨hA, hS, lv_sub hl [0, 1, 3] rfl⟩
set_option maxHeartbeats 8000000 in
set_option maxRecDepth 100000 in
theorem z_soB (hl0 : l.stackTraces = false) (M : zM p s m c cL_isSo RL 8 base D cA) (hN : zNcs s) (hC : zcls ni nc ns nt ty P) (hR : zREL ni nc ns nt hrs I L J K) (hA : zSo base D cA ty P a0 I L H) (hS : va_S (fun q => base ≤ q) s.heap H locs) (hr : meth.sig.returnType = some .boolean) (hlocks : meth.locks = false) (hcl : cells + 130 ≤ 862) (hsl : slots + 780 ≤ 5172) (hl : lv_has ls 8 [(1, .int 1), (0, .ref a0)]) : W p l e (zRm 9 163 862 5172) s m args below meth c H locs cells slots (MQ below (zQi base 1 (fun _ => True)) args s 862 5172 (fun q => base ≤ q)) (F0 m 221 ls []) := by
  obtain ⟨hx, hb, -⟩ := id M
  have hbd := hR.2.1
  obtain ⟨hb1, hb2, hb3, hb4⟩ := id hbd
  refine lv_iconst (v := 0) hx hb dL_isSo_221 (by decide) ?_
  refine z_topi (y := nI 0) rfl ?_
  refine lv_istore_n (lv' := [(2, .int (nI 0)), (1, .int 1), (0, .ref a0)]) hx hb dL_isSo_222 rfl hl (by decide) rfl (fun ls hl => ?_)
  refine z_loopc 10 cells 11 slots 66 (fun i H locs ls => zSo base D cA ty P a0 I L H ∧ va_S (fun q => base ≤ q) s.heap H locs ∧ lv_has ls 8 [(2, .int (nI i)), (1, .int 1), (0, .ref a0)]) ⟨hA, hS, lv_sub hl [0, 1, 2] rfl⟩ (fun i hk ih H locs ls hI => ?_)
  obtain ⟨hA, hS, hl⟩ := hI
  by_cases hi : i < ni
  · skip
    obtain ⟨m0, hm, em, hbi, hbk⟩ := zreach_so hR hi
    refine lv_iload_n hx hb dL_isSo_223 rfl (lv_at hl 0 rfl) ?_
    refine lv_bipush (v := 10) hx hb dL_isSo_224 (by decide) ?_
    refine lv_icmp_ge (tgt := 327) hx hb dL_isSo_226 (by decide) (fun c1 => ?_) (fun c1 => ?_)
    · skip
      refine W.widen (k := cells + 110) (n := slots + 660) (by omega) (by omega) ?_
      exact z_soC hl0 M hN hC hR hA hS hr hlocks (by omega) (by omega) (lv_sub hl [1, 2] rfl)
    · skip
      have hi10 : i < 10 := z_lt (show ¬ nI 10 ≤ nI i from c1) (by omega)
      refine lv_iload_n hx hb dL_isSo_229 rfl (lv_at hl 1 rfl) ?_
      refine lv_if_eq (tgt := 327) hx hb dL_isSo_230 (by decide) (fun c2 => ?_) (fun c2 => ?_)
      · exact absurd c2 (by decide)
      refine lv_aload_n hx hb dL_isSo_233 rfl (lv_at hl 2 rfl) ?_
      refine lv_iload_n hx hb dL_isSo_234 rfl (lv_at hl 0 rfl) ?_
      refine y_hreach (rest := []) hl0 M hN hC hR hA hS hl.1 hi ⟨Nat.le_of_ble_eq_true rfl, Nat.le_of_ble_eq_true rfl⟩ ⟨(by show _ ≤ 862; omega), (by show _ ≤ 5172; omega)⟩ (Nat.le_of_ble_eq_true rfl) dL_isSo_235 (fun H locs hA hS => ?_)
      refine z_topl (y := (nI m0).toInt64) (congrArg Int32.toInt64 em) ?_
      refine lv_lstore_n (lv' := [(3, .long ((nI m0).toInt64)), (2, .int (nI i)), (1, .int 1), (0, .ref a0)]) hx hb dL_isSo_238 rfl hl (by decide) rfl (fun ls hl => ?_)
      refine lv_iconst (v := 0) hx hb dL_isSo_239 (by decide) ?_
      refine z_topi (y := nI 0) rfl ?_
      refine lv_istore (lv' := [(5, .int (nI 0)), (3, .long ((nI m0).toInt64)), (2, .int (nI i)), (1, .int 1), (0, .ref a0)]) hx hb dL_isSo_240 hl (by decide) rfl (fun ls hl => ?_)
      refine z_loopc 10 _ 1 _ 6 (fun k H locs ls => zSo base D cA ty P a0 I L H ∧ va_S (fun q => base ≤ q) s.heap H locs ∧ lv_has ls 8 [(5, .int (nI k)), (3, .long ((nI m0).toInt64)), (2, .int (nI i)), (1, .int 1), (0, .ref a0)]) ⟨hA, hS, lv_sub hl [0, 1, 2, 3, 4] rfl⟩ (fun k hk2 ih2 H locs ls hI => ?_)
      obtain ⟨hA, hS, hl⟩ := hI
      by_cases hb1 : m0.testBit k = true
      · skip
        refine lv_iload hx hb dL_isSo_242 (lv_at hl 0 rfl) ?_
        refine lv_bipush (v := 10) hx hb dL_isSo_244 (by decide) ?_
        refine lv_icmp_ge (tgt := 321) hx hb dL_isSo_246 (by decide) (fun c3 => ?_) (fun c3 => ?_)
        · skip
          refine lv_iinc (v := nI (i + 1)) (lv' := [(2, .int (nI (i + 1))), (5, .int (nI k)), (3, .long ((nI m0).toInt64)), (1, .int 1), (0, .ref a0)]) hx hb dL_isSo_321 hl (k := 2) rfl (nI_succ _).symm (by decide) rfl (fun ls hl => ?_)
          refine lv_goto (tgt := 223) hx hb dL_isSo_324 (by decide) ?_
          refine W.widen (k := cells + 11 * (i + 1)) (n := slots + 66 * (i + 1)) (by omega) (by omega) ?_
          exact ih hi10 _ _ _ ⟨hA, hS, lv_sub hl [0, 3, 4] rfl⟩
        · skip
          have hk10 : k < 10 := z_lt (show ¬ nI 10 ≤ nI k from c3) (by omega)
          refine lv_iload_n hx hb dL_isSo_249 rfl (lv_at hl 3 rfl) ?_
          refine lv_if_eq (tgt := 321) hx hb dL_isSo_250 (by decide) (fun c4 => ?_) (fun c4 => ?_)
          · exact absurd c4 (by decide)
          refine lv_lload_n hx hb dL_isSo_253 rfl (lv_at hl 1 rfl) ?_
          refine lv_lconst (v := 0) hx hb dL_isSo_254 (by decide) ?_
          refine W.lcmp hx hb dL_isSo_255 ?_
          refine lv_if_lt (tgt := 321) hx hb dL_isSo_256 (by decide) (fun c5 => ?_) (fun c5 => ?_)
          · skip
            exact absurd c5 (z_set0 hm)
          · skip
            refine lv_iload_n hx hb dL_isSo_259 rfl (lv_at hl 2 rfl) ?_
            refine lv_iload hx hb dL_isSo_260 (lv_at hl 0 rfl) ?_
            refine lv_icmp_ne (tgt := 276) hx hb dL_isSo_262 (by decide) (fun c6 => ?_) (fun c6 => ?_)
            · skip
              refine lv_iconst (v := 1) hx hb dL_isSo_276 (by decide) ?_
              refine lv_goto (tgt := 281) hx hb dL_isSo_277 (by decide) ?_
              refine lv_istore_n (lv' := [(1, .int 1), (5, .int (nI k)), (3, .long ((nI m0).toInt64)), (2, .int (nI i)), (0, .ref a0)]) hx hb dL_isSo_281 rfl hl (by decide) rfl (fun ls hl => ?_)
              refine lv_iload_n hx hb dL_isSo_282 rfl (lv_at hl 0 rfl) ?_
              refine lv_if_eq (tgt := 313) hx hb dL_isSo_283 (by decide) (fun c7 => ?_) (fun c7 => ?_)
              · exact absurd c7 (by decide)
              refine lv_lload_n hx hb dL_isSo_286 rfl (lv_at hl 2 rfl) ?_
              refine lv_iload hx hb dL_isSo_287 (lv_at hl 1 rfl) ?_
              refine lv_lshr hx hb dL_isSo_289 rfl ?_
              refine lv_lconst (v := 1) hx hb dL_isSo_290 (by decide) ?_
              refine lv_land hx hb dL_isSo_291 ?_
              refine z_topl (y := 1) ((zset_at hm hk10).trans (if_pos hb1)) ?_
              refine lv_lconst (v := 0) hx hb dL_isSo_292 (by decide) ?_
              refine W.lcmp hx hb dL_isSo_293 ?_
              refine lv_if_eq (tgt := 309) hx hb dL_isSo_294 (by decide) (fun c8 => ?_) (fun c8 => ?_)
              · skip
                exact absurd c8 (by decide)
              · skip
                refine lv_aload_n hx hb dL_isSo_297 rfl (lv_at hl 4 rfl) ?_
                refine lv_iload hx hb dL_isSo_298 (lv_at hl 1 rfl) ?_
                refine y_reach (rest := []) hl0 M hN hC hR hA hS hl.1 (hbk k hk10 hb1).1 ⟨Nat.le_of_ble_eq_true rfl, Nat.le_of_ble_eq_true rfl⟩ ⟨(by show _ ≤ 862; omega), (by show _ ≤ 5172; omega)⟩ (Nat.le_of_ble_eq_true rfl) dL_isSo_300 (fun H locs hA hS => ?_)
                refine z_topi (y := nI m0) (hbk k hk10 hb1).2 ?_
                refine lv_i2l hx hb dL_isSo_303 rfl ?_
                refine lv_lload_n hx hb dL_isSo_304 rfl (lv_at hl 2 rfl) ?_
                refine W.lcmp hx hb dL_isSo_305 ?_
                refine lv_if_ne (tgt := 313) hx hb dL_isSo_306 (by decide) (fun c9 => ?_) (fun c9 => ?_)
                · skip
                  exact absurd ((lg_cmp_eq _ _).mpr rfl) c9
                · skip
                  refine lv_iconst (v := 1) hx hb dL_isSo_309 (by decide) ?_
                  refine lv_goto (tgt := 314) hx hb dL_isSo_310 (by decide) ?_
                  refine lv_istore_n (lv' := [(1, .int 1), (5, .int (nI k)), (3, .long ((nI m0).toInt64)), (2, .int (nI i)), (0, .ref a0)]) hx hb dL_isSo_314 rfl hl (by decide) rfl (fun ls hl => ?_)
                  refine lv_iinc (v := nI (k + 1)) (lv' := [(5, .int (nI (k + 1))), (1, .int 1), (3, .long ((nI m0).toInt64)), (2, .int (nI i)), (0, .ref a0)]) hx hb dL_isSo_315 hl (k := 1) rfl (nI_succ _).symm (by decide) rfl (fun ls hl => ?_)
                  refine lv_goto (tgt := 242) hx hb dL_isSo_318 (by decide) ?_
                  refine W.widen (k := cells + 11 * i + 1 + 1 * (k + 1)) (n := slots + 66 * i + 6 + 6 * (k + 1)) (by omega) (by omega) ?_
                  exact ih2 hk10 _ _ _ ⟨hA, hS, lv_sub hl [0, 2, 3, 1, 4] rfl⟩
            · skip
              refine lv_lload_n hx hb dL_isSo_265 rfl (lv_at hl 1 rfl) ?_
              refine lv_iload hx hb dL_isSo_266 (lv_at hl 0 rfl) ?_
              refine lv_lshr hx hb dL_isSo_268 rfl ?_
              refine lv_lconst (v := 1) hx hb dL_isSo_269 (by decide) ?_
              refine lv_land hx hb dL_isSo_270 ?_
              refine z_topl (y := 1) ((zset_at hm hk10).trans (if_pos hb1)) ?_
              refine lv_lconst (v := 1) hx hb dL_isSo_271 (by decide) ?_
              refine W.lcmp hx hb dL_isSo_272 ?_
              refine lv_if_ne (tgt := 280) hx hb dL_isSo_273 (by decide) (fun c10 => ?_) (fun c10 => ?_)
              · skip
                exact absurd ((lg_cmp_eq _ _).mpr rfl) c10
              · skip
                refine lv_iconst (v := 1) hx hb dL_isSo_276 (by decide) ?_
                refine lv_goto (tgt := 281) hx hb dL_isSo_277 (by decide) ?_
                refine lv_istore_n (lv' := [(1, .int 1), (5, .int (nI k)), (3, .long ((nI m0).toInt64)), (2, .int (nI i)), (0, .ref a0)]) hx hb dL_isSo_281 rfl hl (by decide) rfl (fun ls hl => ?_)
                refine lv_iload_n hx hb dL_isSo_282 rfl (lv_at hl 0 rfl) ?_
                refine lv_if_eq (tgt := 313) hx hb dL_isSo_283 (by decide) (fun c11 => ?_) (fun c11 => ?_)
                · exact absurd c11 (by decide)
                refine lv_lload_n hx hb dL_isSo_286 rfl (lv_at hl 2 rfl) ?_
                refine lv_iload hx hb dL_isSo_287 (lv_at hl 1 rfl) ?_
                refine lv_lshr hx hb dL_isSo_289 rfl ?_
                refine lv_lconst (v := 1) hx hb dL_isSo_290 (by decide) ?_
                refine lv_land hx hb dL_isSo_291 ?_
                refine z_topl (y := 1) ((zset_at hm hk10).trans (if_pos hb1)) ?_
                refine lv_lconst (v := 0) hx hb dL_isSo_292 (by decide) ?_
                refine W.lcmp hx hb dL_isSo_293 ?_
                refine lv_if_eq (tgt := 309) hx hb dL_isSo_294 (by decide) (fun c12 => ?_) (fun c12 => ?_)
                · skip
                  exact absurd c12 (by decide)
                · skip
                  refine lv_aload_n hx hb dL_isSo_297 rfl (lv_at hl 4 rfl) ?_
                  refine lv_iload hx hb dL_isSo_298 (lv_at hl 1 rfl) ?_
                  refine y_reach (rest := []) hl0 M hN hC hR hA hS hl.1 (hbk k hk10 hb1).1 ⟨Nat.le_of_ble_eq_true rfl, Nat.le_of_ble_eq_true rfl⟩ ⟨(by show _ ≤ 862; omega), (by show _ ≤ 5172; omega)⟩ (Nat.le_of_ble_eq_true rfl) dL_isSo_300 (fun H locs hA hS => ?_)
                  refine z_topi (y := nI m0) (hbk k hk10 hb1).2 ?_
                  refine lv_i2l hx hb dL_isSo_303 rfl ?_
                  refine lv_lload_n hx hb dL_isSo_304 rfl (lv_at hl 2 rfl) ?_
                  refine W.lcmp hx hb dL_isSo_305 ?_
                  refine lv_if_ne (tgt := 313) hx hb dL_isSo_306 (by decide) (fun c13 => ?_) (fun c13 => ?_)
                  · skip
                    exact absurd ((lg_cmp_eq _ _).mpr rfl) c13
                  · skip
                    refine lv_iconst (v := 1) hx hb dL_isSo_309 (by decide) ?_
                    refine lv_goto (tgt := 314) hx hb dL_isSo_310 (by decide) ?_
                    refine lv_istore_n (lv' := [(1, .int 1), (5, .int (nI k)), (3, .long ((nI m0).toInt64)), (2, .int (nI i)), (0, .ref a0)]) hx hb dL_isSo_314 rfl hl (by decide) rfl (fun ls hl => ?_)
                    refine lv_iinc (v := nI (k + 1)) (lv' := [(5, .int (nI (k + 1))), (1, .int 1), (3, .long ((nI m0).toInt64)), (2, .int (nI i)), (0, .ref a0)]) hx hb dL_isSo_315 hl (k := 1) rfl (nI_succ _).symm (by decide) rfl (fun ls hl => ?_)
                    refine lv_goto (tgt := 242) hx hb dL_isSo_318 (by decide) ?_
                    refine W.widen (k := cells + 11 * i + 1 + 1 * (k + 1)) (n := slots + 66 * i + 6 + 6 * (k + 1)) (by omega) (by omega) ?_
                    exact ih2 hk10 _ _ _ ⟨hA, hS, lv_sub hl [0, 2, 3, 1, 4] rfl⟩
      · skip
        refine lv_iload hx hb dL_isSo_242 (lv_at hl 0 rfl) ?_
        refine lv_bipush (v := 10) hx hb dL_isSo_244 (by decide) ?_
        refine lv_icmp_ge (tgt := 321) hx hb dL_isSo_246 (by decide) (fun c14 => ?_) (fun c14 => ?_)
        · skip
          refine lv_iinc (v := nI (i + 1)) (lv' := [(2, .int (nI (i + 1))), (5, .int (nI k)), (3, .long ((nI m0).toInt64)), (1, .int 1), (0, .ref a0)]) hx hb dL_isSo_321 hl (k := 2) rfl (nI_succ _).symm (by decide) rfl (fun ls hl => ?_)
          refine lv_goto (tgt := 223) hx hb dL_isSo_324 (by decide) ?_
          refine W.widen (k := cells + 11 * (i + 1)) (n := slots + 66 * (i + 1)) (by omega) (by omega) ?_
          exact ih hi10 _ _ _ ⟨hA, hS, lv_sub hl [0, 3, 4] rfl⟩
        · skip
          have hk10 : k < 10 := z_lt (show ¬ nI 10 ≤ nI k from c14) (by omega)
          refine lv_iload_n hx hb dL_isSo_249 rfl (lv_at hl 3 rfl) ?_
          refine lv_if_eq (tgt := 321) hx hb dL_isSo_250 (by decide) (fun c15 => ?_) (fun c15 => ?_)
          · exact absurd c15 (by decide)
          refine lv_lload_n hx hb dL_isSo_253 rfl (lv_at hl 1 rfl) ?_
          refine lv_lconst (v := 0) hx hb dL_isSo_254 (by decide) ?_
          refine W.lcmp hx hb dL_isSo_255 ?_
          refine lv_if_lt (tgt := 321) hx hb dL_isSo_256 (by decide) (fun c16 => ?_) (fun c16 => ?_)
          · skip
            exact absurd c16 (z_set0 hm)
          · skip
            refine lv_iload_n hx hb dL_isSo_259 rfl (lv_at hl 2 rfl) ?_
            refine lv_iload hx hb dL_isSo_260 (lv_at hl 0 rfl) ?_
            refine lv_icmp_ne (tgt := 276) hx hb dL_isSo_262 (by decide) (fun c17 => ?_) (fun c17 => ?_)
            · skip
              refine lv_iconst (v := 1) hx hb dL_isSo_276 (by decide) ?_
              refine lv_goto (tgt := 281) hx hb dL_isSo_277 (by decide) ?_
              refine lv_istore_n (lv' := [(1, .int 1), (5, .int (nI k)), (3, .long ((nI m0).toInt64)), (2, .int (nI i)), (0, .ref a0)]) hx hb dL_isSo_281 rfl hl (by decide) rfl (fun ls hl => ?_)
              refine lv_iload_n hx hb dL_isSo_282 rfl (lv_at hl 0 rfl) ?_
              refine lv_if_eq (tgt := 313) hx hb dL_isSo_283 (by decide) (fun c18 => ?_) (fun c18 => ?_)
              · exact absurd c18 (by decide)
              refine lv_lload_n hx hb dL_isSo_286 rfl (lv_at hl 2 rfl) ?_
              refine lv_iload hx hb dL_isSo_287 (lv_at hl 1 rfl) ?_
              refine lv_lshr hx hb dL_isSo_289 rfl ?_
              refine lv_lconst (v := 1) hx hb dL_isSo_290 (by decide) ?_
              refine lv_land hx hb dL_isSo_291 ?_
              refine z_topl (y := 0) ((zset_at hm hk10).trans (if_neg hb1)) ?_
              refine lv_lconst (v := 0) hx hb dL_isSo_292 (by decide) ?_
              refine W.lcmp hx hb dL_isSo_293 ?_
              refine lv_if_eq (tgt := 309) hx hb dL_isSo_294 (by decide) (fun c19 => ?_) (fun c19 => ?_)
              · skip
                refine lv_iconst (v := 1) hx hb dL_isSo_309 (by decide) ?_
                refine lv_goto (tgt := 314) hx hb dL_isSo_310 (by decide) ?_
                refine lv_istore_n (lv' := [(1, .int 1), (5, .int (nI k)), (3, .long ((nI m0).toInt64)), (2, .int (nI i)), (0, .ref a0)]) hx hb dL_isSo_314 rfl hl (by decide) rfl (fun ls hl => ?_)
                refine lv_iinc (v := nI (k + 1)) (lv' := [(5, .int (nI (k + 1))), (1, .int 1), (3, .long ((nI m0).toInt64)), (2, .int (nI i)), (0, .ref a0)]) hx hb dL_isSo_315 hl (k := 1) rfl (nI_succ _).symm (by decide) rfl (fun ls hl => ?_)
                refine lv_goto (tgt := 242) hx hb dL_isSo_318 (by decide) ?_
                refine W.widen (k := cells + 11 * i + 1 + 1 * (k + 1)) (n := slots + 66 * i + 6 + 6 * (k + 1)) (by omega) (by omega) ?_
                exact ih2 hk10 _ _ _ ⟨hA, hS, lv_sub hl [0, 2, 3, 1, 4] rfl⟩
              · skip
                exact absurd (by decide) c19
            · skip
              exact absurd (by rw [← z_nIi (by omega) (by omega) c17]; exact hbi) hb1
  · skip
    refine lv_iload_n hx hb dL_isSo_223 rfl (lv_at hl 0 rfl) ?_
    refine lv_bipush (v := 10) hx hb dL_isSo_224 (by decide) ?_
    refine lv_icmp_ge (tgt := 327) hx hb dL_isSo_226 (by decide) (fun c20 => ?_) (fun c20 => ?_)
    · skip
      refine W.widen (k := cells + 110) (n := slots + 660) (by omega) (by omega) ?_
      exact z_soC hl0 M hN hC hR hA hS hr hlocks (by omega) (by omega) (lv_sub hl [1, 2] rfl)
    · skip
      have hi10 : i < 10 := z_lt (show ¬ nI 10 ≤ nI i from c20) (by omega)
      refine lv_iload_n hx hb dL_isSo_229 rfl (lv_at hl 1 rfl) ?_
      refine lv_if_eq (tgt := 327) hx hb dL_isSo_230 (by decide) (fun c21 => ?_) (fun c21 => ?_)
      · exact absurd c21 (by decide)
      refine lv_aload_n hx hb dL_isSo_233 rfl (lv_at hl 2 rfl) ?_
      refine lv_iload_n hx hb dL_isSo_234 rfl (lv_at hl 0 rfl) ?_
      refine y_hreachx (rest := []) hl0 M hN hC hR hA hS hl.1 hi (by omega) ⟨Nat.le_of_ble_eq_true rfl, Nat.le_of_ble_eq_true rfl⟩ ⟨(by show _ ≤ 862; omega), (by show _ ≤ 5172; omega)⟩ (Nat.le_of_ble_eq_true rfl) dL_isSo_235 (fun H locs hA hS => ?_)
      refine lv_lstore_n (lv' := [(3, .long (-9000000000000000)), (2, .int (nI i)), (1, .int 1), (0, .ref a0)]) hx hb dL_isSo_238 rfl hl (by decide) rfl (fun ls hl => ?_)
      refine lv_iconst (v := 0) hx hb dL_isSo_239 (by decide) ?_
      refine lv_istore (lv' := [(5, .int 0), (3, .long (-9000000000000000)), (2, .int (nI i)), (1, .int 1), (0, .ref a0)]) hx hb dL_isSo_240 hl (by decide) rfl (fun ls hl => ?_)
      refine lv_iload hx hb dL_isSo_242 (lv_at hl 0 rfl) ?_
      refine lv_bipush (v := 10) hx hb dL_isSo_244 (by decide) ?_
      refine lv_icmp_ge (tgt := 321) hx hb dL_isSo_246 (by decide) (fun c22 => ?_) (fun c22 => ?_)
      · exact absurd c22 (by decide)
      refine lv_iload_n hx hb dL_isSo_249 rfl (lv_at hl 3 rfl) ?_
      refine lv_if_eq (tgt := 321) hx hb dL_isSo_250 (by decide) (fun c23 => ?_) (fun c23 => ?_)
      · exact absurd c23 (by decide)
      refine lv_lload_n hx hb dL_isSo_253 rfl (lv_at hl 1 rfl) ?_
      refine lv_lconst (v := 0) hx hb dL_isSo_254 (by decide) ?_
      refine W.lcmp hx hb dL_isSo_255 ?_
      refine lv_if_lt (tgt := 321) hx hb dL_isSo_256 (by decide) (fun c24 => ?_) (fun c24 => ?_)
      · skip
        refine lv_iinc (v := nI (i + 1)) (lv' := [(2, .int (nI (i + 1))), (5, .int 0), (3, .long (-9000000000000000)), (1, .int 1), (0, .ref a0)]) hx hb dL_isSo_321 hl (k := 2) rfl (nI_succ _).symm (by decide) rfl (fun ls hl => ?_)
        refine lv_goto (tgt := 223) hx hb dL_isSo_324 (by decide) ?_
        refine W.widen (k := cells + 11 * (i + 1)) (n := slots + 66 * (i + 1)) (by omega) (by omega) ?_
        exact ih hi10 _ _ _ ⟨hA, hS, lv_sub hl [0, 3, 4] rfl⟩
      · skip
        exact absurd (by decide) c24
set_option maxHeartbeats 8000000 in
set_option maxRecDepth 100000 in
theorem z_soU (hl0 : l.stackTraces = false) (M : zM p s m c cL_isSo RL 8 base D cA) (hN : zNcs s) (hC : zcls ni nc ns nt ty P) (hR : zREL ni nc ns nt hrs I L J K) (hA : zSo base D cA ty P a0 I L H) (hS : va_S (fun q => base ≤ q) s.heap H locs) (hh : hrs < 1000000) (hf0 : I 0 7 = 0) {t u v N : Nat} (ht : t < nt) (ht12 : t < 12) (hu : u < ni) (hv : v < ni) (eu : I (64 + t) 0 = nI u) (ev : I (64 + t) 1 = nI v) (hN9 : N ≤ 9) (hway : ((I (80 + t) 1 = -1 ∧ I (80 + t) 2 = -1 ∧ I (80 + t) 3 = -1 ∧ N = 0 ∧ ∀ f0, zPrr I nc (zS0 f0 u) 9 v = -1) ∨ ∃ p0 d0 : Nat, I (80 + t) 1 = nI N ∧ I (80 + t) 2 = nI p0 ∧ I (80 + t) 3 = nI d0 ∧ N ≤ d0 ∧ d0 ≤ 4500 ∧ p0 ≤ 89991 ∧ ∀ f0, zPrr I nc (zS0 f0 u) 9 v = nI p0)) (hcl : cells + 9 ≤ 862) (hsl : slots + 54 ≤ 5172) (hl : lv_has ls 8 [(5, .int (nI N)), (3, .long ((I (80 + t) 2).toInt64)), (2, .int (nI t)), (1, .int 1), (0, .ref a0)]) (kk : ∀ (I : zIt) (L : zLt) (H : Heap) (locs : List Loc) (ls : Array Slot), zREL ni nc ns nt hrs I L J K → zSo base D cA ty P a0 I L H → va_S (fun q => base ≤ q) s.heap H locs → lv_has ls 8 [(2, .int (nI (t + 1))), (1, .int 1), (0, .ref a0)] → W p l e (zRm 9 163 862 5172) s m args below meth c H locs (cells + 9) (slots + 54) Q (F0 m 4 ls [])) : W p l e (zRm 9 163 862 5172) s m args below meth c H locs cells slots Q (F0 m 125 ls []) := by
  obtain ⟨hx, hb, -⟩ := id M
  have hbd := hR.2.1
  obtain ⟨hb1, hb2, hb3, hb4⟩ := id hbd
  have epr : ∀ f0, zPrr I nc (zS0 f0 u) 9 v = I (80 + t) 2 := by
    intro f0
    rcases hway with ⟨-, q, -, -, w0⟩ | ⟨p0, d0, -, q, -, -, -, -, w0⟩
    · rw [q]; exact w0 f0
    · rw [q]; exact w0 f0
  obtain ⟨a1, b1, ha1, hb9, ea1, eb1⟩ := zacc_so hR hh ht
  obtain ⟨I2, e2⟩ : ∃ X : zIt, X = zs I 8 (zPrr I nc (zS0 (I 8) u) 9) := ⟨_, rfl⟩
  have hR2 : zREL ni nc ns nt hrs I2 L J K := by rw [e2]; exact zREL_8 _ hR
  have hf2 : I2 0 7 = 0 := by rw [e2, zs_ne _ _ (by omega)]; exact hf0
  have g8 : ∀ κ, κ ≠ 8 → I2 κ = I κ := fun κ hκ => by rw [e2, zs_ne _ _ hκ]
  rcases hway with ⟨w1, w2, w3, -, -⟩ | ⟨p0, d0, w1, w2, w3, w4, w5, w6, -⟩
  · skip
    refine lv_iload_n hx hb dL_isSo_125 rfl (lv_at hl 3 rfl) ?_
    refine lv_if_eq (tgt := 213) hx hb dL_isSo_126 (by decide) (fun c1 => ?_) (fun c1 => ?_)
    · exact absurd c1 (by decide)
    refine lv_lload_n hx hb dL_isSo_129 rfl (lv_at hl 1 rfl) ?_
    refine lv_aload_n hx hb dL_isSo_130 rfl (lv_at hl 4 rfl) ?_
    refine lv_iload_n hx hb dL_isSo_131 rfl (lv_at hl 2 rfl) ?_
    refine y_sumAnew (rest := [.long ((I (80 + t) 2).toInt64)]) hl0 M hN hC hR hA hS hl.1 ht (by omega) (by omega) eu ev ⟨Nat.le_of_ble_eq_true rfl, Nat.le_of_ble_eq_true rfl⟩ ⟨(by show _ ≤ 862; omega), (by show _ ≤ 5172; omega)⟩ (Nat.le_of_ble_eq_true rfl) dL_isSo_132 (fun H locs hA hS => ?_)
    rw [← e2] at hA
    refine z_topi (y := I (80 + t) 2) (epr _) ?_
    refine lv_i2l hx hb dL_isSo_135 rfl ?_
    refine W.lcmp hx hb dL_isSo_136 ?_
    refine lv_if_ne (tgt := 213) hx hb dL_isSo_137 (by decide) (fun c2 => ?_) (fun c2 => ?_)
    · skip
      exact absurd ((lg_cmp_eq _ _).mpr rfl) c2
    · skip
      refine lv_lload_n hx hb dL_isSo_140 rfl (lv_at hl 1 rfl) ?_
      refine lv_lconst (v := 0) hx hb dL_isSo_141 (by decide) ?_
      refine W.lcmp hx hb dL_isSo_142 ?_
      refine lv_if_ge (tgt := 169) hx hb dL_isSo_143 (by decide) (fun c3 => ?_) (fun c3 => ?_)
      · skip
        exact absurd c3 (by rw [w2]; decide)
      · skip
        refine lv_aload_n hx hb dL_isSo_146 rfl (lv_at hl 4 rfl) ?_
        refine lv_iload_n hx hb dL_isSo_147 rfl (lv_at hl 2 rfl) ?_
        refine lv_iconst (v := 2) hx hb dL_isSo_148 (by decide) ?_
        refine y_sum2 (rest := []) hl0 M hN hC hR2 hA hS hl.1 hf2 ht ⟨Nat.le_of_ble_eq_true rfl, Nat.le_of_ble_eq_true rfl⟩ ⟨(by show _ ≤ 862; omega), (by show _ ≤ 5172; omega)⟩ (Nat.le_of_ble_eq_true rfl) dL_isSo_149 (fun H locs hA hS => ?_)
        refine z_topi (y := (-1)) (by rw [g8 _ (by omega)]; exact w1) ?_
        refine lv_iconst (v := (-1)) hx hb dL_isSo_152 (by decide) ?_
        refine lv_icmp_ne (tgt := 213) hx hb dL_isSo_153 (by decide) (fun c4 => ?_) (fun c4 => ?_)
        · exact absurd c4 (by decide)
        refine lv_aload_n hx hb dL_isSo_156 rfl (lv_at hl 4 rfl) ?_
        refine lv_iload_n hx hb dL_isSo_157 rfl (lv_at hl 2 rfl) ?_
        refine lv_iconst (v := 1) hx hb dL_isSo_158 (by decide) ?_
        refine y_sum1 (rest := []) hl0 M hN hC hR2 hA hS hl.1 hf2 ht ⟨Nat.le_of_ble_eq_true rfl, Nat.le_of_ble_eq_true rfl⟩ ⟨(by show _ ≤ 862; omega), (by show _ ≤ 5172; omega)⟩ (Nat.le_of_ble_eq_true rfl) dL_isSo_159 (fun H locs hA hS => ?_)
        refine z_topi (y := (-1)) (by rw [g8 _ (by omega)]; exact w3) ?_
        refine lv_iconst (v := (-1)) hx hb dL_isSo_162 (by decide) ?_
        refine lv_icmp_ne (tgt := 213) hx hb dL_isSo_163 (by decide) (fun c5 => ?_) (fun c5 => ?_)
        · exact absurd c5 (by decide)
        refine lv_goto (tgt := 191) hx hb dL_isSo_166 (by decide) ?_
        refine lv_aload_n hx hb dL_isSo_191 rfl (lv_at hl 4 rfl) ?_
        refine lv_iload_n hx hb dL_isSo_192 rfl (lv_at hl 2 rfl) ?_
        refine lv_iconst (v := 2) hx hb dL_isSo_193 (by decide) ?_
        refine y_account2 (rest := []) hl0 M hN hC hR2 hA hS hl.1 ht ⟨Nat.le_of_ble_eq_true rfl, Nat.le_of_ble_eq_true rfl⟩ ⟨(by show _ ≤ 862; omega), (by show _ ≤ 5172; omega)⟩ (Nat.le_of_ble_eq_true rfl) dL_isSo_194 (fun H locs hA hS => ?_)
        refine z_topl (y := lN a1) (by rw [g8 _ (by omega)]; exact ea1) ?_
        refine lv_aload_n hx hb dL_isSo_197 rfl (lv_at hl 4 rfl) ?_
        refine lv_iload_n hx hb dL_isSo_198 rfl (lv_at hl 2 rfl) ?_
        refine lv_iconst (v := 3) hx hb dL_isSo_199 (by decide) ?_
        refine y_account3 (rest := [.long (lN a1)]) hl0 M hN hC hR2 hA hS hl.1 ht ⟨Nat.le_of_ble_eq_true rfl, Nat.le_of_ble_eq_true rfl⟩ ⟨(by show _ ≤ 862; omega), (by show _ ≤ 5172; omega)⟩ (Nat.le_of_ble_eq_true rfl) dL_isSo_200 (fun H locs hA hS => ?_)
        refine z_topl (y := lN b1) (by rw [g8 _ (by omega)]; exact eb1) ?_
        refine lv_ladd hx hb dL_isSo_203 ?_
        refine lv_lconst (v := 0) hx hb dL_isSo_204 (by decide) ?_
        refine W.lcmp hx hb dL_isSo_205 ?_
        refine lv_if_lt (tgt := 213) hx hb dL_isSo_206 (by decide) (fun c6 => ?_) (fun c6 => ?_)
        · skip
          exact absurd c6 (z_acc0 ha1 hb9)
        · skip
          refine lv_iconst (v := 1) hx hb dL_isSo_209 (by decide) ?_
          refine lv_goto (tgt := 214) hx hb dL_isSo_210 (by decide) ?_
          refine lv_istore_n (lv' := [(1, .int 1), (5, .int (nI N)), (3, .long ((I (80 + t) 2).toInt64)), (2, .int (nI t)), (0, .ref a0)]) hx hb dL_isSo_214 rfl hl (by decide) rfl (fun ls hl => ?_)
          refine lv_iinc (v := nI (t + 1)) (lv' := [(2, .int (nI (t + 1))), (1, .int 1), (5, .int (nI N)), (3, .long ((I (80 + t) 2).toInt64)), (0, .ref a0)]) hx hb dL_isSo_215 hl (k := 3) rfl (nI_succ _).symm (by decide) rfl (fun ls hl => ?_)
          refine lv_goto (tgt := 4) hx hb dL_isSo_218 (by decide) ?_
          refine W.widen (k := cells + 9) (n := slots + 54) (by omega) (by omega) ?_
          exact kk I2 L _ _ _ hR2 hA hS (lv_sub hl [0, 1, 4] rfl)
  · skip
    have hge : 0 ≤ lg_cmp (I (80 + t) 2).toInt64 0 := by
      rw [w2, nI_l (by omega), z_l0, zcN_ge (by omega) (by omega)]
      omega
    refine lv_iload_n hx hb dL_isSo_125 rfl (lv_at hl 3 rfl) ?_
    refine lv_if_eq (tgt := 213) hx hb dL_isSo_126 (by decide) (fun c7 => ?_) (fun c7 => ?_)
    · exact absurd c7 (by decide)
    refine lv_lload_n hx hb dL_isSo_129 rfl (lv_at hl 1 rfl) ?_
    refine lv_aload_n hx hb dL_isSo_130 rfl (lv_at hl 4 rfl) ?_
    refine lv_iload_n hx hb dL_isSo_131 rfl (lv_at hl 2 rfl) ?_
    refine y_sumAnew (rest := [.long ((I (80 + t) 2).toInt64)]) hl0 M hN hC hR hA hS hl.1 ht (by omega) (by omega) eu ev ⟨Nat.le_of_ble_eq_true rfl, Nat.le_of_ble_eq_true rfl⟩ ⟨(by show _ ≤ 862; omega), (by show _ ≤ 5172; omega)⟩ (Nat.le_of_ble_eq_true rfl) dL_isSo_132 (fun H locs hA hS => ?_)
    rw [← e2] at hA
    refine z_topi (y := I (80 + t) 2) (epr _) ?_
    refine lv_i2l hx hb dL_isSo_135 rfl ?_
    refine W.lcmp hx hb dL_isSo_136 ?_
    refine lv_if_ne (tgt := 213) hx hb dL_isSo_137 (by decide) (fun c8 => ?_) (fun c8 => ?_)
    · skip
      exact absurd ((lg_cmp_eq _ _).mpr rfl) c8
    · skip
      refine lv_lload_n hx hb dL_isSo_140 rfl (lv_at hl 1 rfl) ?_
      refine lv_lconst (v := 0) hx hb dL_isSo_141 (by decide) ?_
      refine W.lcmp hx hb dL_isSo_142 ?_
      refine lv_if_ge (tgt := 169) hx hb dL_isSo_143 (by decide) (fun c9 => ?_) (fun c9 => ?_)
      · skip
        refine lv_iload hx hb dL_isSo_169 (lv_at hl 0 rfl) ?_
        refine lv_aload_n hx hb dL_isSo_171 rfl (lv_at hl 4 rfl) ?_
        refine lv_iload_n hx hb dL_isSo_172 rfl (lv_at hl 2 rfl) ?_
        refine lv_iconst (v := 2) hx hb dL_isSo_173 (by decide) ?_
        refine y_sum2 (rest := [.int (nI N)]) hl0 M hN hC hR2 hA hS hl.1 hf2 ht ⟨Nat.le_of_ble_eq_true rfl, Nat.le_of_ble_eq_true rfl⟩ ⟨(by show _ ≤ 862; omega), (by show _ ≤ 5172; omega)⟩ (Nat.le_of_ble_eq_true rfl) dL_isSo_174 (fun H locs hA hS => ?_)
        refine z_topi (y := nI N) (by rw [g8 _ (by omega)]; exact w1) ?_
        refine lv_icmp_ne (tgt := 213) hx hb dL_isSo_177 (by decide) (fun c10 => ?_) (fun c10 => ?_)
        · skip
          exact absurd rfl c10
        · skip
          refine lv_aload_n hx hb dL_isSo_180 rfl (lv_at hl 4 rfl) ?_
          refine lv_iload_n hx hb dL_isSo_181 rfl (lv_at hl 2 rfl) ?_
          refine lv_iconst (v := 1) hx hb dL_isSo_182 (by decide) ?_
          refine y_sum1 (rest := []) hl0 M hN hC hR2 hA hS hl.1 hf2 ht ⟨Nat.le_of_ble_eq_true rfl, Nat.le_of_ble_eq_true rfl⟩ ⟨(by show _ ≤ 862; omega), (by show _ ≤ 5172; omega)⟩ (Nat.le_of_ble_eq_true rfl) dL_isSo_183 (fun H locs hA hS => ?_)
          refine z_topi (y := nI d0) (by rw [g8 _ (by omega)]; exact w3) ?_
          refine lv_iload hx hb dL_isSo_186 (lv_at hl 0 rfl) ?_
          refine lv_icmp_lt (tgt := 213) hx hb dL_isSo_188 (by decide) (fun c11 => ?_) (fun c11 => ?_)
          · skip
            exact absurd ((znI_lt (by omega) (by omega)).mp c11) (by omega)
          · skip
            refine lv_aload_n hx hb dL_isSo_191 rfl (lv_at hl 4 rfl) ?_
            refine lv_iload_n hx hb dL_isSo_192 rfl (lv_at hl 2 rfl) ?_
            refine lv_iconst (v := 2) hx hb dL_isSo_193 (by decide) ?_
            refine y_account2 (rest := []) hl0 M hN hC hR2 hA hS hl.1 ht ⟨Nat.le_of_ble_eq_true rfl, Nat.le_of_ble_eq_true rfl⟩ ⟨(by show _ ≤ 862; omega), (by show _ ≤ 5172; omega)⟩ (Nat.le_of_ble_eq_true rfl) dL_isSo_194 (fun H locs hA hS => ?_)
            refine z_topl (y := lN a1) (by rw [g8 _ (by omega)]; exact ea1) ?_
            refine lv_aload_n hx hb dL_isSo_197 rfl (lv_at hl 4 rfl) ?_
            refine lv_iload_n hx hb dL_isSo_198 rfl (lv_at hl 2 rfl) ?_
            refine lv_iconst (v := 3) hx hb dL_isSo_199 (by decide) ?_
            refine y_account3 (rest := [.long (lN a1)]) hl0 M hN hC hR2 hA hS hl.1 ht ⟨Nat.le_of_ble_eq_true rfl, Nat.le_of_ble_eq_true rfl⟩ ⟨(by show _ ≤ 862; omega), (by show _ ≤ 5172; omega)⟩ (Nat.le_of_ble_eq_true rfl) dL_isSo_200 (fun H locs hA hS => ?_)
            refine z_topl (y := lN b1) (by rw [g8 _ (by omega)]; exact eb1) ?_
            refine lv_ladd hx hb dL_isSo_203 ?_
            refine lv_lconst (v := 0) hx hb dL_isSo_204 (by decide) ?_
            refine W.lcmp hx hb dL_isSo_205 ?_
            refine lv_if_lt (tgt := 213) hx hb dL_isSo_206 (by decide) (fun c12 => ?_) (fun c12 => ?_)
            · skip
              exact absurd c12 (z_acc0 ha1 hb9)
            · skip
              refine lv_iconst (v := 1) hx hb dL_isSo_209 (by decide) ?_
              refine lv_goto (tgt := 214) hx hb dL_isSo_210 (by decide) ?_
              refine lv_istore_n (lv' := [(1, .int 1), (5, .int (nI N)), (3, .long ((I (80 + t) 2).toInt64)), (2, .int (nI t)), (0, .ref a0)]) hx hb dL_isSo_214 rfl hl (by decide) rfl (fun ls hl => ?_)
              refine lv_iinc (v := nI (t + 1)) (lv' := [(2, .int (nI (t + 1))), (1, .int 1), (5, .int (nI N)), (3, .long ((I (80 + t) 2).toInt64)), (0, .ref a0)]) hx hb dL_isSo_215 hl (k := 3) rfl (nI_succ _).symm (by decide) rfl (fun ls hl => ?_)
              refine lv_goto (tgt := 4) hx hb dL_isSo_218 (by decide) ?_
              refine W.widen (k := cells + 9) (n := slots + 54) (by omega) (by omega) ?_
              exact kk I2 L _ _ _ hR2 hA hS (lv_sub hl [0, 1, 4] rfl)
      · skip
        exact absurd hge c9
set_option maxHeartbeats 8000000 in
set_option maxRecDepth 100000 in
theorem z_soT (hl0 : l.stackTraces = false) (M : zM p s m c cL_isSo RL 8 base D cA) (hN : zNcs s) (hC : zcls ni nc ns nt ty P) (hR : zREL ni nc ns nt hrs I L J K) (hA : zSo base D cA ty P a0 I L H) (hS : va_S (fun q => base ≤ q) s.heap H locs) (hh : hrs < 1000000) {t : Nat} (ht12 : t < 12) (hcl : cells + 61 ≤ 862) (hsl : slots + 366 ≤ 5172) (hl : lv_has ls 8 [(2, .int (nI t)), (1, .int 1), (0, .ref a0)]) (kk : ∀ (I : zIt) (L : zLt) (H : Heap) (locs : List Loc) (ls : Array Slot), zREL ni nc ns nt hrs I L J K → zSo base D cA ty P a0 I L H → va_S (fun q => base ≤ q) s.heap H locs → lv_has ls 8 [(2, .int (nI (t + 1))), (1, .int 1), (0, .ref a0)] → W p l e (zRm 9 163 862 5172) s m args below meth c H locs (cells + 61) (slots + 366) Q (F0 m 4 ls [])) : W p l e (zRm 9 163 862 5172) s m args below meth c H locs cells slots Q (F0 m 14 ls []) := by
  obtain ⟨hx, hb, -⟩ := id M
  have hbd := hR.2.1
  obtain ⟨hb1, hb2, hb3, hb4⟩ := id hbd
  by_cases ht : t < nt
  · skip
    refine lv_aload_n hx hb dL_isSo_14 rfl (lv_at hl 2 rfl) ?_
    refine lv_iload_n hx hb dL_isSo_15 rfl (lv_at hl 0 rfl) ?_
    refine lv_iconst (v := 0) hx hb dL_isSo_16 (by decide) ?_
    refine y_hsum (rest := []) hl0 M hN hC hR hA hS hl.1 ht ⟨Nat.le_of_ble_eq_true rfl, Nat.le_of_ble_eq_true rfl⟩ ⟨(by show _ ≤ 862; omega), (by show _ ≤ 5172; omega)⟩ (Nat.le_of_ble_eq_true rfl) dL_isSo_17 (fun H locs hA hS => ?_)
    obtain ⟨I1, e1⟩ : ∃ X : zIt, X = (zStale nc nt (I, L)).1 := ⟨_, rfl⟩
    obtain ⟨L1, e1l⟩ : ∃ X : zLt, X = (zStale nc nt (I, L)).2 := ⟨_, rfl⟩
    have hR1 := (zREL_stale hR).1
    have hf1 : I1 0 7 = 0 := by rw [e1]; exact zst_0
    rw [← e1, ← e1l] at hA hR1
    rw [← e1]
    obtain ⟨u, v, N, hu, hv, eu, ev, hN9, hlt, hrow, hway⟩ := zway_so hR1 hf1 ht
    refine lv_lstore_n (lv' := [(3, .long ((I1 (80 + t) 2).toInt64)), (2, .int (nI t)), (1, .int 1), (0, .ref a0)]) hx hb dL_isSo_20 rfl hl (by decide) rfl (fun ls hl => ?_)
    refine lv_lload_n hx hb dL_isSo_21 rfl (lv_at hl 0 rfl) ?_
    refine lv_ldc2 (v := -9000000000000000) hx hb M.2.2.2.1 (M.2.2.2.2.1.use (tb 212 (by decide +kernel)) rfl) dL_isSo_22 ?_
    refine W.lcmp hx hb dL_isSo_25 ?_
    refine lv_if_eq (tgt := 215) hx hb dL_isSo_26 (by decide) (fun c1 => ?_) (fun c1 => ?_)
    · skip
      exact absurd ((lg_cmp_eq _ _).mp c1) (z_thr _)
    · skip
      refine lv_iconst (v := 0) hx hb dL_isSo_29 (by decide) ?_
      refine z_topi (y := nI 0) rfl ?_
      refine lv_istore (lv' := [(5, .int (nI 0)), (3, .long ((I1 (80 + t) 2).toInt64)), (2, .int (nI t)), (1, .int 1), (0, .ref a0)]) hx hb dL_isSo_30 hl (by decide) rfl (fun ls hl => ?_)
      refine lv_iconst (v := 0) hx hb dL_isSo_32 (by decide) ?_
      refine z_topi (y := nI 0) rfl ?_
      refine lv_istore (lv' := [(6, .int (nI 0)), (5, .int (nI 0)), (3, .long ((I1 (80 + t) 2).toInt64)), (2, .int (nI t)), (1, .int 1), (0, .ref a0)]) hx hb dL_isSo_33 hl (by decide) rfl (fun ls hl => ?_)
      refine z_loopc 10 (cells + 2) 5 (slots + 12) 30 (fun k H locs ls => zSo base D cA ty P a0 I1 L1 H ∧ va_S (fun q => base ≤ q) s.heap H locs ∧ lv_has ls 8 [(6, .int (nI k)), (5, .int (nI (min k N))), (3, .long ((I1 (80 + t) 2).toInt64)), (2, .int (nI t)), (1, .int 1), (0, .ref a0)]) ⟨hA, hS, (by rw [Nat.zero_min]; exact lv_sub hl [0, 1, 2, 3, 4, 5] rfl)⟩ (fun k hk ih H locs ls hI => ?_)
      obtain ⟨hA, hS, hl⟩ := hI
      by_cases hkN : k < N
      · skip
        obtain ⟨q, hq, eq, ew⟩ := hrow k hkN
        refine lv_iload hx hb dL_isSo_35 (lv_at hl 0 rfl) ?_
        refine lv_bipush (v := 10) hx hb dL_isSo_37 (by decide) ?_
        refine lv_icmp_ge (tgt := 125) hx hb dL_isSo_39 (by decide) (fun c2 => ?_) (fun c2 => ?_)
        · skip
          have hmin : min k N = N := by have := z_ge (show nI 10 ≤ nI k from c2) (by omega) (by omega); omega
          rw [hmin] at hl
          refine W.widen (k := cells + 52) (n := slots + 312) (by omega) (by omega) ?_
          refine z_soU hl0 M hN hC hR1 hA hS hh hf1 ht ht12 hu hv eu ev hN9 hway (by omega) (by omega) (lv_sub hl [1, 2, 3, 4, 5] rfl) ?_
          intro I L H locs ls q1 q2 q3 q4
          exact kk I L H locs ls q1 q2 q3 q4
        · skip
          have hk10 : k < 10 := z_lt (show ¬ nI 10 ≤ nI k from c2) (by omega)
          refine lv_aload_n hx hb dL_isSo_42 rfl (lv_at hl 5 rfl) ?_
          refine lv_iload_n hx hb dL_isSo_43 rfl (lv_at hl 3 rfl) ?_
          refine lv_iload hx hb dL_isSo_44 (lv_at hl 0 rfl) ?_
          refine y_way (rest := []) hl0 M hN hC hR1 hA hS hl.1 hf1 ht hk10 ⟨Nat.le_of_ble_eq_true rfl, Nat.le_of_ble_eq_true rfl⟩ ⟨(by show _ ≤ 862; omega), (by show _ ≤ 5172; omega)⟩ (Nat.le_of_ble_eq_true rfl) dL_isSo_46 (fun H locs hA hS => ?_)
          refine z_topi (y := nI q) ((if_pos ((hlt k hk10).mpr hkN)).trans eq) ?_
          refine lv_istore (lv' := [(7, .int (nI q)), (6, .int (nI k)), (5, .int (nI (min k N))), (3, .long ((I1 (80 + t) 2).toInt64)), (2, .int (nI t)), (1, .int 1), (0, .ref a0)]) hx hb dL_isSo_49 hl (by decide) rfl (fun ls hl => ?_)
          refine lv_iload hx hb dL_isSo_51 (lv_at hl 2 rfl) ?_
          refine lv_iload hx hb dL_isSo_53 (lv_at hl 0 rfl) ?_
          refine lv_if_lt (tgt := 62) hx hb dL_isSo_55 (by decide) (fun c3 => ?_) (fun c3 => ?_)
          · skip
            exact absurd c3 (znn (by omega))
          · skip
            refine lv_iconst (v := 1) hx hb dL_isSo_58 (by decide) ?_
            refine lv_goto (tgt := 63) hx hb dL_isSo_59 (by decide) ?_
            refine lv_iadd hx hb dL_isSo_63 ?_
            refine z_topi (y := nI (min (k + 1) N)) (by rw [show min k N = k by omega, show min (k + 1) N = k + 1 by omega]; exact (nI_succ k).symm) ?_
            refine lv_istore (lv' := [(5, .int (nI (min (k + 1) N))), (7, .int (nI q)), (6, .int (nI k)), (3, .long ((I1 (80 + t) 2).toInt64)), (2, .int (nI t)), (1, .int 1), (0, .ref a0)]) hx hb dL_isSo_64 hl (by decide) rfl (fun ls hl => ?_)
            refine lv_iload_n hx hb dL_isSo_66 rfl (lv_at hl 5 rfl) ?_
            refine lv_if_eq (tgt := 117) hx hb dL_isSo_67 (by decide) (fun c4 => ?_) (fun c4 => ?_)
            · exact absurd c4 (by decide)
            refine lv_iload hx hb dL_isSo_70 (lv_at hl 1 rfl) ?_
            refine lv_if_lt (tgt := 84) hx hb dL_isSo_72 (by decide) (fun c5 => ?_) (fun c5 => ?_)
            · skip
              exact absurd c5 (znn (by omega))
            · skip
              refine lv_aload_n hx hb dL_isSo_75 rfl (lv_at hl 6 rfl) ?_
              refine lv_iload hx hb dL_isSo_76 (lv_at hl 1 rfl) ?_
              refine y_works (rest := []) hl0 M hN hC hR1 hA hS hl.1 hq ⟨Nat.le_of_ble_eq_true rfl, Nat.le_of_ble_eq_true rfl⟩ ⟨(by show _ ≤ 862; omega), (by show _ ≤ 5172; omega)⟩ (Nat.le_of_ble_eq_true rfl) dL_isSo_78 (fun H locs hA hS => ?_)
              refine lv_if_eq (tgt := 117) hx hb dL_isSo_81 (by decide) (fun c6 => ?_) (fun c6 => ?_)
              · skip
                have c6 := zb_eq0.mp c6
                exact absurd ew c6
              · skip
                have c6 := zb_ne0.mp c6
                refine lv_iload hx hb dL_isSo_84 (lv_at hl 1 rfl) ?_
                refine lv_if_lt (tgt := 93) hx hb dL_isSo_86 (by decide) (fun c7 => ?_) (fun c7 => ?_)
                · skip
                  exact absurd c7 (znn (by omega))
                · skip
                  refine lv_iconst (v := 1) hx hb dL_isSo_89 (by decide) ?_
                  refine lv_goto (tgt := 94) hx hb dL_isSo_90 (by decide) ?_
                  refine lv_iload hx hb dL_isSo_94 (lv_at hl 2 rfl) ?_
                  refine lv_aload_n hx hb dL_isSo_96 rfl (lv_at hl 6 rfl) ?_
                  refine lv_iload_n hx hb dL_isSo_97 rfl (lv_at hl 4 rfl) ?_
                  refine lv_iconst (v := 2) hx hb dL_isSo_98 (by decide) ?_
                  refine y_sum2 (rest := [.int (nI k), .int 1]) hl0 M hN hC hR1 hA hS hl.1 hf1 ht ⟨Nat.le_of_ble_eq_true rfl, Nat.le_of_ble_eq_true rfl⟩ ⟨(by show _ ≤ 862; omega), (by show _ ≤ 5172; omega)⟩ (Nat.le_of_ble_eq_true rfl) dL_isSo_99 (fun H locs hA hS => ?_)
                  refine lv_icmp_ge (tgt := 109) hx hb dL_isSo_102 (by decide) (fun c8 => ?_) (fun c8 => ?_)
                  · skip
                    exact absurd ((hlt k hk10).mpr hkN) (z_nlt_le c8)
                  · skip
                    refine lv_iconst (v := 1) hx hb dL_isSo_105 (by decide) ?_
                    refine lv_goto (tgt := 110) hx hb dL_isSo_106 (by decide) ?_
                    refine lv_icmp_ne (tgt := 117) hx hb dL_isSo_110 (by decide) (fun c9 => ?_) (fun c9 => ?_)
                    · exact absurd c9 (by decide)
                    refine lv_iconst (v := 1) hx hb dL_isSo_113 (by decide) ?_
                    refine lv_goto (tgt := 118) hx hb dL_isSo_114 (by decide) ?_
                    refine lv_istore_n (lv' := [(1, .int 1), (5, .int (nI (min (k + 1) N))), (7, .int (nI q)), (6, .int (nI k)), (3, .long ((I1 (80 + t) 2).toInt64)), (2, .int (nI t)), (0, .ref a0)]) hx hb dL_isSo_118 rfl hl (by decide) rfl (fun ls hl => ?_)
                    refine lv_iinc (v := nI (k + 1)) (lv' := [(6, .int (nI (k + 1))), (1, .int 1), (5, .int (nI (min (k + 1) N))), (7, .int (nI q)), (3, .long ((I1 (80 + t) 2).toInt64)), (2, .int (nI t)), (0, .ref a0)]) hx hb dL_isSo_119 hl (k := 3) rfl (nI_succ _).symm (by decide) rfl (fun ls hl => ?_)
                    refine lv_goto (tgt := 35) hx hb dL_isSo_122 (by decide) ?_
                    refine W.widen (k := cells + 2 + 5 * (k + 1)) (n := slots + 12 + 30 * (k + 1)) (by omega) (by omega) ?_
                    exact ih hk10 _ _ _ ⟨hA, hS, lv_sub hl [0, 2, 4, 5, 1, 6] rfl⟩
      · skip
        refine lv_iload hx hb dL_isSo_35 (lv_at hl 0 rfl) ?_
        refine lv_bipush (v := 10) hx hb dL_isSo_37 (by decide) ?_
        refine lv_icmp_ge (tgt := 125) hx hb dL_isSo_39 (by decide) (fun c10 => ?_) (fun c10 => ?_)
        · skip
          have hmin : min k N = N := by have := z_ge (show nI 10 ≤ nI k from c10) (by omega) (by omega); omega
          rw [hmin] at hl
          refine W.widen (k := cells + 52) (n := slots + 312) (by omega) (by omega) ?_
          refine z_soU hl0 M hN hC hR1 hA hS hh hf1 ht ht12 hu hv eu ev hN9 hway (by omega) (by omega) (lv_sub hl [1, 2, 3, 4, 5] rfl) ?_
          intro I L H locs ls q1 q2 q3 q4
          exact kk I L H locs ls q1 q2 q3 q4
        · skip
          have hk10 : k < 10 := z_lt (show ¬ nI 10 ≤ nI k from c10) (by omega)
          refine lv_aload_n hx hb dL_isSo_42 rfl (lv_at hl 5 rfl) ?_
          refine lv_iload_n hx hb dL_isSo_43 rfl (lv_at hl 3 rfl) ?_
          refine lv_iload hx hb dL_isSo_44 (lv_at hl 0 rfl) ?_
          refine y_way (rest := []) hl0 M hN hC hR1 hA hS hl.1 hf1 ht hk10 ⟨Nat.le_of_ble_eq_true rfl, Nat.le_of_ble_eq_true rfl⟩ ⟨(by show _ ≤ 862; omega), (by show _ ≤ 5172; omega)⟩ (Nat.le_of_ble_eq_true rfl) dL_isSo_46 (fun H locs hA hS => ?_)
          refine z_topi (y := (-1)) (if_neg (fun z => hkN ((hlt k hk10).mp z))) ?_
          refine lv_istore (lv' := [(7, .int (-1)), (6, .int (nI k)), (5, .int (nI (min k N))), (3, .long ((I1 (80 + t) 2).toInt64)), (2, .int (nI t)), (1, .int 1), (0, .ref a0)]) hx hb dL_isSo_49 hl (by decide) rfl (fun ls hl => ?_)
          refine lv_iload hx hb dL_isSo_51 (lv_at hl 2 rfl) ?_
          refine lv_iload hx hb dL_isSo_53 (lv_at hl 0 rfl) ?_
          refine lv_if_lt (tgt := 62) hx hb dL_isSo_55 (by decide) (fun c11 => ?_) (fun c11 => ?_)
          rotate_left
          · exact absurd c11 (by decide)
          refine lv_iconst (v := 0) hx hb dL_isSo_62 (by decide) ?_
          refine lv_iadd hx hb dL_isSo_63 ?_
          refine z_topi (y := nI (min (k + 1) N)) (by rw [show min (k + 1) N = min k N by omega]; exact Int32.add_zero _) ?_
          refine lv_istore (lv' := [(5, .int (nI (min (k + 1) N))), (7, .int (-1)), (6, .int (nI k)), (3, .long ((I1 (80 + t) 2).toInt64)), (2, .int (nI t)), (1, .int 1), (0, .ref a0)]) hx hb dL_isSo_64 hl (by decide) rfl (fun ls hl => ?_)
          refine lv_iload_n hx hb dL_isSo_66 rfl (lv_at hl 5 rfl) ?_
          refine lv_if_eq (tgt := 117) hx hb dL_isSo_67 (by decide) (fun c12 => ?_) (fun c12 => ?_)
          · exact absurd c12 (by decide)
          refine lv_iload hx hb dL_isSo_70 (lv_at hl 1 rfl) ?_
          refine lv_if_lt (tgt := 84) hx hb dL_isSo_72 (by decide) (fun c13 => ?_) (fun c13 => ?_)
          rotate_left
          · exact absurd c13 (by decide)
          refine lv_iload hx hb dL_isSo_84 (lv_at hl 1 rfl) ?_
          refine lv_if_lt (tgt := 93) hx hb dL_isSo_86 (by decide) (fun c14 => ?_) (fun c14 => ?_)
          rotate_left
          · exact absurd c14 (by decide)
          refine lv_iconst (v := 0) hx hb dL_isSo_93 (by decide) ?_
          refine lv_iload hx hb dL_isSo_94 (lv_at hl 2 rfl) ?_
          refine lv_aload_n hx hb dL_isSo_96 rfl (lv_at hl 6 rfl) ?_
          refine lv_iload_n hx hb dL_isSo_97 rfl (lv_at hl 4 rfl) ?_
          refine lv_iconst (v := 2) hx hb dL_isSo_98 (by decide) ?_
          refine y_sum2 (rest := [.int (nI k), .int 0]) hl0 M hN hC hR1 hA hS hl.1 hf1 ht ⟨Nat.le_of_ble_eq_true rfl, Nat.le_of_ble_eq_true rfl⟩ ⟨(by show _ ≤ 862; omega), (by show _ ≤ 5172; omega)⟩ (Nat.le_of_ble_eq_true rfl) dL_isSo_99 (fun H locs hA hS => ?_)
          refine lv_icmp_ge (tgt := 109) hx hb dL_isSo_102 (by decide) (fun c15 => ?_) (fun c15 => ?_)
          · skip
            refine lv_iconst (v := 0) hx hb dL_isSo_109 (by decide) ?_
            refine lv_icmp_ne (tgt := 117) hx hb dL_isSo_110 (by decide) (fun c16 => ?_) (fun c16 => ?_)
            · exact absurd c16 (by decide)
            refine lv_iconst (v := 1) hx hb dL_isSo_113 (by decide) ?_
            refine lv_goto (tgt := 118) hx hb dL_isSo_114 (by decide) ?_
            refine lv_istore_n (lv' := [(1, .int 1), (5, .int (nI (min (k + 1) N))), (7, .int (-1)), (6, .int (nI k)), (3, .long ((I1 (80 + t) 2).toInt64)), (2, .int (nI t)), (0, .ref a0)]) hx hb dL_isSo_118 rfl hl (by decide) rfl (fun ls hl => ?_)
            refine lv_iinc (v := nI (k + 1)) (lv' := [(6, .int (nI (k + 1))), (1, .int 1), (5, .int (nI (min (k + 1) N))), (7, .int (-1)), (3, .long ((I1 (80 + t) 2).toInt64)), (2, .int (nI t)), (0, .ref a0)]) hx hb dL_isSo_119 hl (k := 3) rfl (nI_succ _).symm (by decide) rfl (fun ls hl => ?_)
            refine lv_goto (tgt := 35) hx hb dL_isSo_122 (by decide) ?_
            refine W.widen (k := cells + 2 + 5 * (k + 1)) (n := slots + 12 + 30 * (k + 1)) (by omega) (by omega) ?_
            exact ih hk10 _ _ _ ⟨hA, hS, lv_sub hl [0, 2, 4, 5, 1, 6] rfl⟩
          · skip
            exact absurd (z_le_nlt (fun z => hkN ((hlt k hk10).mp z))) c15
  · skip
    refine lv_aload_n hx hb dL_isSo_14 rfl (lv_at hl 2 rfl) ?_
    refine lv_iload_n hx hb dL_isSo_15 rfl (lv_at hl 0 rfl) ?_
    refine lv_iconst (v := 0) hx hb dL_isSo_16 (by decide) ?_
    refine y_hsumx (rest := []) hl0 M hN hC hR hA hS hl.1 ht (by omega) ⟨Nat.le_of_ble_eq_true rfl, Nat.le_of_ble_eq_true rfl⟩ ⟨(by show _ ≤ 862; omega), (by show _ ≤ 5172; omega)⟩ (Nat.le_of_ble_eq_true rfl) dL_isSo_17 (fun H locs hA hS => ?_)
    refine lv_lstore_n (lv' := [(3, .long (-9000000000000000)), (2, .int (nI t)), (1, .int 1), (0, .ref a0)]) hx hb dL_isSo_20 rfl hl (by decide) rfl (fun ls hl => ?_)
    refine lv_lload_n hx hb dL_isSo_21 rfl (lv_at hl 0 rfl) ?_
    refine lv_ldc2 (v := -9000000000000000) hx hb M.2.2.2.1 (M.2.2.2.2.1.use (tb 212 (by decide +kernel)) rfl) dL_isSo_22 ?_
    refine W.lcmp hx hb dL_isSo_25 ?_
    refine lv_if_eq (tgt := 215) hx hb dL_isSo_26 (by decide) (fun c17 => ?_) (fun c17 => ?_)
    · skip
      refine lv_iinc (v := nI (t + 1)) (lv' := [(2, .int (nI (t + 1))), (3, .long (-9000000000000000)), (1, .int 1), (0, .ref a0)]) hx hb dL_isSo_215 hl (k := 1) rfl (nI_succ _).symm (by decide) rfl (fun ls hl => ?_)
      refine lv_goto (tgt := 4) hx hb dL_isSo_218 (by decide) ?_
      refine W.widen (k := cells + 61) (n := slots + 366) (by omega) (by omega) ?_
      exact kk I L _ _ _ hR hA hS (lv_sub hl [0, 2, 3] rfl)
    · skip
      exact absurd ((lg_cmp_eq _ _).mpr rfl) c17
end ZSI
set_option maxHeartbeats 8000000 in
set_option maxRecDepth 100000 in
theorem c_L_isSo (l : Launch) (hl0 : l.stackTraces = false) (base : Nat) (D : zDD) (cA : Nat → ClassId) (a0 : Nat) {ty : zTyp} {I J : zIt} {L K : zLt} {P : zPt} {ni nc ns nt hrs : Nat} (hC : zcls ni nc ns nt ty P) (hR : zREL ni nc ns nt hrs I L J K) (hh : hrs < 1000000) : zNz l base D cA yL_isSo cL_isSo 8 9 163 862 5172 [.ref a0] (zSo base D cA ty P a0 I L) 1 (fun _ => True) := by
  refine z_nstart (by decide +kernel) (Nat.le_of_ble_eq_true rfl) fun p e s m below meth c ls M hA hS hl hr hlocks hN => ?_
  have M : zM p s m c cL_isSo RL 8 base D cA := M
  obtain ⟨hx, hb, -⟩ := id M
  have hl : lv_has ls 8 [(0, .ref a0)] := hl
  refine lv_iconst (v := 1) hx hb dL_isSo_0 (by decide) ?_
  refine lv_istore_n (lv' := [(1, .int 1), (0, .ref a0)]) hx hb dL_isSo_1 rfl hl (by decide) rfl (fun ls hl => ?_)
  refine lv_iconst (v := 0) hx hb dL_isSo_2 (by decide) ?_
  refine z_topi (y := nI 0) rfl ?_
  refine lv_istore_n (lv' := [(2, .int (nI 0)), (1, .int 1), (0, .ref a0)]) hx hb dL_isSo_3 rfl hl (by decide) rfl (fun ls hl => ?_)
  refine z_loopc 12 0 61 0 366 (fun t H locs ls => (∃ I L, zREL ni nc ns nt hrs I L J K ∧ zSo base D cA ty P a0 I L H) ∧ va_S (fun q => base ≤ q) s.heap H locs ∧ lv_has ls 8 [(2, .int (nI t)), (1, .int 1), (0, .ref a0)]) ⟨⟨I, L, hR, hA⟩, hS, lv_sub hl [0, 1, 2] rfl⟩ (fun t hk ih H locs ls hI => ?_)
  obtain ⟨⟨I, L, hR, hA⟩, hS, hl⟩ := hI
  refine lv_iload_n hx hb dL_isSo_4 rfl (lv_at hl 0 rfl) ?_
  refine lv_bipush (v := 12) hx hb dL_isSo_5 (by decide) ?_
  refine lv_icmp_ge (tgt := 221) hx hb dL_isSo_7 (by decide) (fun c1 => ?_) (fun c1 => ?_)
  · skip
    refine W.widen (k := 732) (n := 4392) (by omega) (by omega) ?_
    exact z_soB hl0 M hN hC hR hA hS hr hlocks (by omega) (by omega) (lv_sub hl [1, 2] rfl)
  · skip
    have ht12 : t < 12 := z_lt (show ¬ nI 12 ≤ nI t from c1) (by omega)
    refine lv_iload_n hx hb dL_isSo_10 rfl (lv_at hl 1 rfl) ?_
    refine lv_if_eq (tgt := 221) hx hb dL_isSo_11 (by decide) (fun c2 => ?_) (fun c2 => ?_)
    · exact absurd c2 (by decide)
    refine z_soT hl0 M hN hC hR hA hS hh ht12 (by omega) (by omega) (lv_sub hl [0, 1, 2] rfl) ?_
    intro I L H locs ls q1 q2 q3 q4
    refine W.widen (k := 0 + 61 * (t + 1)) (n := 0 + 366 * (t + 1)) (by omega) (by omega) ?_
    exact ih ht12 H locs ls ⟨⟨I, L, q1, q2⟩, q3, q4⟩
