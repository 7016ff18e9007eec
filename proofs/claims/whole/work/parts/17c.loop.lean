/-! THE LAW'S LOOP (laid by m_fin.py) -/
theorem z_len7 {Ln : Nat} (hL : Ln ≤ 3584) : (nI Ln - 7).toInt = (Ln : Int) - 7 := by
  by_cases h : 7 ≤ Ln
  · obtain ⟨k, rfl⟩ : ∃ k, Ln = k + 7 := ⟨Ln - 7, by omega⟩
    have e : nI (k + 7) - 7 = nI k := by
      rw [← nI_add k 7]
      exact Int32.add_sub_cancel _ _
    rw [e, nI_toInt (by omega)]
    omega
  · have key : ∀ n, n < 7 → (nI n - 7).toInt = (n : Int) - 7 := by decide +kernel
    exact key Ln (by omega)
theorem zLI_mono {n : Nat} {ty : zTyp} {I : zIt} {L : zLt} {P : zPt} (h : zLI n ty I L P) : zLI (n + 1) ty I L P := by
  obtain ⟨ni, nc, ns, nt, hrs, h1, h2, h3⟩ := h
  exact ⟨ni, nc, ns, nt, hrs, h1, h2, by omega⟩
section ZLL
variable {p : Program} {l : Launch} {e : Env} {s : State} {m : MethodId} {below : List Frame} {meth : Method} {c : Code} {b Ln : Nat} {xs : Nat → Int32} {D : va_G} {cA : Nat → ClassId}
set_option maxHeartbeats 4000000 in
set_option maxRecDepth 100000 in
theorem z_lawloop (hl0 : l.stackTraces = false) (M : zM p s m c cL_law RL 8 s.heap.size D cA) (hN : zNcs s) (hX : va_X b Ln xs s s.heap) (hbl : b < s.heap.size) (hL : Ln ≤ 3584) (hr : meth.sig.returnType = ret) (hlocks : meth.locks = false) :
    ∀ (k n : Nat), 514 ≤ n + k → n ≤ 512 → ∀ (ad : Nat → Nat) (ty : zTyp) (I : zIt) (L : zLt) (P : zPt) (H : Heap) (locs : List Loc) (ls : Array Slot), zLI n ty I L P → zH s.heap.size D cA s H locs ad ty I L P → lv_has ls 8 [(4, .int (nI (7 * n))), (3, .ref (ad 160)), (2, .ref (ad 128)), (1, .ref (ad 0)), (0, .ref b)] → W p l e room_1 s m #[Value.ref b] below meth c H locs (40 + 13 * n) (700 + 84 * n) (lw_Z below #[Value.ref b] s) (F0 m 23 ls []) := by
  obtain ⟨hx, hb, -⟩ := id M
  have hbA : ¬ (fun q : Nat => s.heap.size ≤ q) b := Nat.not_le.mpr hbl
  intro k
  induction k with
  | zero =>
    intro n h1 h2
    exact absurd h1 (by omega)
  | succ k ih =>
    intro n hk hn ad ty I L P H locs ls hLI hw hl
    refine lv_iload hx hb dL_law_23 (lv_at hl 0 rfl) ?_
    refine lv_aload_n hx hb dL_law_25 rfl (lv_at hl 4 rfl) ?_
    refine va_slen hx hb hX hbl hbA hw.2 dL_law_26 ?_
    refine lv_bipush (v := 7) hx hb dL_law_27 (by decide) ?_
    refine lv_isub hx hb dL_law_29 ?_
    refine lv_icmp_gt (tgt := 1330) hx hb dL_law_30 (by decide) (fun c1 => ?_) (fun c1 => ?_)
    · refine lv_iconst (v := 1) hx hb dL_law_1330 (by decide) ?_
      refine va_forget (fun q hq => hw.2.2.2 q hq) ?_
      refine W.widen (k := 601024) (n := 7293034) (by omega) (by omega) ?_
      exact lw_ret hx hb hr hlocks dL_law_1331
    · have hn7 : 7 * n + 7 ≤ Ln := by
        have c2 : ¬ nI Ln - 7 < nI (7 * n) := c1
        rw [Int32.lt_iff_toInt_lt, z_len7 hL, nI_toInt (by omega)] at c2
        omega
      have hn5 : n < 512 := by omega
      have kk : ∀ (H : Heap) (locs : List Loc) (ls : Array Slot) (ad : Nat → Nat) (ty : zTyp) (I : zIt) (L : zLt) (P : zPt), zLI (n + 1) ty I L P → zH s.heap.size D cA s H locs ad ty I L P → lv_has ls 8 [(4, .int (nI (7 * n))), (3, .ref (ad 160)), (2, .ref (ad 128)), (1, .ref (ad 0)), (0, .ref b)] → W p l e room_1 s m #[Value.ref b] below meth c H locs (40 + 13 * (n + 1)) (700 + 84 * (n + 1)) (lw_Z below #[Value.ref b] s) (F0 m 1324 ls []) := by
        intro H locs ls ad ty I L P hLI hw hl
        refine lv_iinc (v := nI (7 * (n + 1))) (lv' := [(4, .int (nI (7 * (n + 1)))), (3, .ref (ad 160)), (2, .ref (ad 128)), (1, .ref (ad 0)), (0, .ref b)]) hx hb dL_law_1324 hl (k := 0) rfl (by rw [show 7 * (n + 1) = 7 * n + 7 by omega]; exact nI_add (7 * n) 7) (by decide) rfl (fun ls hl => ?_)
        refine lv_goto (tgt := 23) hx hb dL_law_1327 (by decide) ?_
        exact ih (n + 1) (by omega) (by omega) ad ty I L P H locs ls hLI hw hl
      obtain ⟨v0, e0⟩ : ∃ y : Int32, y = xs (7 * n) := ⟨_, rfl⟩
      refine lv_aload_n hx hb dL_law_33 rfl (lv_at hl 4 rfl) ?_
      refine lv_iload hx hb dL_law_34 (lv_at hl 0 rfl) ?_
      refine z_sld (k := 7 * n) hx hb hX hbl hw.2 rfl (by omega) (by omega) e0 dL_law_36 ?_
      refine lv_bipush (v := 31) hx hb dL_law_37 (by decide) ?_
      refine lv_iand hx hb dL_law_39 ?_
      refine lv_topi (fun w ew => ?_)
      by_cases hout : w.toInt < 0 ∨ 16 < w.toInt
      · refine lv_tableOut (tgt := 1324) hx hb dL_law_40 hout (by decide) ?_
        refine W.widen (k := 40 + 13 * (n + 1)) (n := 700 + 84 * (n + 1)) (by omega) (by omega) ?_
        exact kk H locs ls ad ty I L P (zLI_mono hLI) hw hl
      · have hin1 : ¬ w.toInt < 0 := fun q => hout (Or.inl q)
        have hin2 : ¬ 16 < w.toInt := fun q => hout (Or.inr q)
        rcases (show w.toInt = 0 ∨ w.toInt = 1 ∨ w.toInt = 2 ∨ w.toInt = 3 ∨ w.toInt = 4 ∨ w.toInt = 5 ∨ w.toInt = 6 ∨ w.toInt = 7 ∨ w.toInt = 8 ∨ w.toInt = 9 ∨ w.toInt = 10 ∨ w.toInt = 11 ∨ w.toInt = 12 ∨ w.toInt = 13 ∨ w.toInt = 14 ∨ w.toInt = 15 ∨ w.toInt = 16 by omega) with hw0 | hw0 | hw0 | hw0 | hw0 | hw0 | hw0 | hw0 | hw0 | hw0 | hw0 | hw0 | hw0 | hw0 | hw0 | hw0 | hw0
        · refine lv_tableIn (off := 84) (tgt := 124) hx hb dL_law_40 hin1 hin2 (by rw [hw0]; rfl) (by decide) ?_
          exact z_case_island hl0 M hN hX hbl (by omega) hn7 hn5 hLI hw hl kk
        · refine lv_tableIn (off := 152) (tgt := 192) hx hb dL_law_40 hin1 hin2 (by rw [hw0]; rfl) (by decide) ?_
          exact z_case_cable hl0 M hN hX hbl (by omega) hn7 hn5 hLI hw hl kk
        · refine lv_tableIn (off := 256) (tgt := 296) hx hb dL_law_40 hin1 hin2 (by rw [hw0]; rfl) (by decide) ?_
          exact z_case_price hl0 M hN hX hbl (by omega) hn7 hn5 hLI hw hl kk
        · refine lv_tableIn (off := 324) (tgt := 364) hx hb dL_law_40 hin1 hin2 (by rw [hw0]; rfl) (by decide) ?_
          exact z_case_fault hl0 M hN hX hbl (by omega) hn7 hn5 hLI hw hl kk
        · refine lv_tableIn (off := 392) (tgt := 432) hx hb dL_law_40 hin1 hin2 (by rw [hw0]; rfl) (by decide) ?_
          exact z_case_ship hl0 M hN hX hbl (by omega) hn7 hn5 hLI hw hl kk
        · refine lv_tableIn (off := 460) (tgt := 500) hx hb dL_law_40 hin1 hin2 (by rw [hw0]; rfl) (by decide) ?_
          exact z_case_send hl0 M hN hX hbl (by omega) hn7 hn5 hLI hw hl kk
        · refine lv_tableIn (off := 540) (tgt := 580) hx hb dL_law_40 hin1 hin2 (by rw [hw0]; rfl) (by decide) ?_
          exact z_case_home hl0 M hN hX hbl (by omega) hn7 hn5 hLI hw hl kk
        · refine lv_tableIn (off := 608) (tgt := 648) hx hb dL_law_40 hin1 hin2 (by rw [hw0]; rfl) (by decide) ?_
          exact z_case_trader hl0 M hN hX hbl (by omega) hn7 hn5 hLI hw hl kk
        · refine lv_tableIn (off := 726) (tgt := 766) hx hb dL_law_40 hin1 hin2 (by rw [hw0]; rfl) (by decide) ?_
          exact z_case_pass hl0 M hN hX hbl (by omega) hn7 hn5 hLI hw hl kk
        · refine lv_tableIn (off := 782) (tgt := 822) hx hb dL_law_40 hin1 hin2 (by rw [hw0]; rfl) (by decide) ?_
          exact z_case_works hl0 M hN hX hbl (by omega) hn7 hn5 hLI hw hl kk
        · refine lv_tableIn (off := 845) (tgt := 885) hx hb dL_law_40 hin1 hin2 (by rw [hw0]; rfl) (by decide) ?_
          exact z_case_faultAt hl0 M hN hX hbl (by omega) hn7 hn5 hLI hw hl kk
        · refine lv_tableIn (off := 901) (tgt := 941) hx hb dL_law_40 hin1 hin2 (by rw [hw0]; rfl) (by decide) ?_
          exact z_case_shipOf hl0 M hN hX hbl (by omega) hn7 hn5 hLI hw hl kk
        · refine lv_tableIn (off := 969) (tgt := 1009) hx hb dL_law_40 hin1 hin2 (by rw [hw0]; rfl) (by decide) ?_
          exact z_case_way hl0 M hN hX hbl (by omega) hn7 hn5 hLI hw hl kk
        · refine lv_tableIn (off := 1037) (tgt := 1077) hx hb dL_law_40 hin1 hin2 (by rw [hw0]; rfl) (by decide) ?_
          exact z_case_sum hl0 M hN hX hbl (by omega) hn7 hn5 hLI hw hl kk
        · refine lv_tableIn (off := 1105) (tgt := 1145) hx hb dL_law_40 hin1 hin2 (by rw [hw0]; rfl) (by decide) ?_
          exact z_case_sumAnew hl0 M hN hX hbl (by omega) hn7 hn5 hLI hw hl kk
        · refine lv_tableIn (off := 1161) (tgt := 1201) hx hb dL_law_40 hin1 hin2 (by rw [hw0]; rfl) (by decide) ?_
          exact z_case_account hl0 M hN hX hbl (by omega) hn7 hn5 hLI hw hl kk
        · refine lv_tableIn (off := 1228) (tgt := 1268) hx hb dL_law_40 hin1 hin2 (by rw [hw0]; rfl) (by decide) ?_
          exact z_case_reach hl0 M hN hX hbl (by omega) hn7 hn5 hLI hw hl kk
end ZLL
