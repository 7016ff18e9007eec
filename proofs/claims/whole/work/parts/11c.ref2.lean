set_option maxHeartbeats 4000000 in
set_option maxRecDepth 100000 in
theorem c_X7_doesWork (l : Launch) (base : Nat) (D : va_G) (cA : Nat → ClassId) (ad : Nat → Nat) (ty : zTyp) (I : zIt) (L : zLt) (P : zPt) (hR : zref ty P) (hf : I 128 11 = nI (zRn I)) (hf8 : zRn I ≤ 128) (x : Int32) : zMi l base D cA yX7_doesWork cX7_doesWork 4 .boolean 0 0 0 0 [.ref (ad 128), .int x] (zW base D cA ad ty I L P) (zb (zDwb I x = true)) (zW base D cA ad ty I L P) := by
  refine z_start (by decide +kernel) (Nat.le_of_ble_eq_true rfl) fun p e s m below meth c ls M hP hS hl hr hlocks hnm => ?_
  have M : zM p s m c cX7_doesWork RX7 4 base D cA := M
  have hw : zH base D cA s s.heap [] ad ty I L P := ⟨hP, hS⟩
  obtain ⟨hx, hb, -⟩ := id M
  have hl : lv_has ls 4 [(0, .ref (ad 128)), (1, .int x)] := hl
  refine lv_iconst (v := 1) hx hb dX7_doesWork_0 (by decide) ?_
  refine lv_istore_n (lv' := [(2, .int 1), (0, .ref (ad 128)), (1, .int x)]) hx hb dX7_doesWork_1 rfl hl (by decide) rfl (fun ls hl => ?_)
  refine lv_iconst (v := 0) hx hb dX7_doesWork_2 (by decide) ?_
  refine lv_istore_n (lv' := [(3, .int 0), (2, .int 1), (0, .ref (ad 128)), (1, .int x)]) hx hb dX7_doesWork_3 rfl hl (by decide) rfl (fun ls hl => ?_)
  refine z_loop (zRn I) (fun (k : Nat) H locs ls => ∃ (b : Int32), ((b = 1 ∧ ∀ j, j < k → (fun j => decide (I 140 j / 8 = x)) j = false) ∨ (b = 0 ∧ ∃ j, j < k ∧ (fun j => decide (I 140 j / 8 = x)) j = true)) ∧ zH base D cA s H locs ad ty I L P ∧ lv_has ls 4 [(0, .ref (ad 128)), (1, .int x), (2, .int b), (3, .int (nI k))]) 0 ⟨_, (Or.inl ⟨rfl, fun j hj => absurd hj (by omega)⟩), hw, lv_sub hl [2, 3, 1, 0] rfl⟩ (by omega) (fun k hk_k ih_k H locs ls hI => ?_)
  obtain ⟨b, hd, hw, hl⟩ := hI
  refine lv_iload_n hx hb dX7_doesWork_4 rfl (lv_at hl 3 rfl) ?_
  refine lv_aload_n hx hb dX7_doesWork_5 rfl (lv_at hl 0 rfl) ?_
  refine z_geti M hw (zr_t hR 128 7 0 (by decide)) zf_X7_114 dX7_doesWork_6 ?_
  refine z_topi (y := nI (zRn I)) hf ?_
  refine lv_icmp_ge (tgt := 41) hx hb dX7_doesWork_9 (by decide) (fun c1 => ?_) (fun c1 => ?_)
  · skip
    have hge : k = zRn I := Nat.le_antisymm (by omega) (z_ge (show nI (zRn I) ≤ nI k from c1) (by omega) (by omega))
    have hbv : b = zb (zDwb I x = true) := by
      rw [hge] at hd
      rcases hd with ⟨e, h⟩ | ⟨e, j, h1, h2⟩
      · rw [e, zb_1 (zDwb_t h)]
      · rw [e, zb_0 (zDwb_f h1 h2)]
    refine lv_iload_n hx hb dX7_doesWork_41 rfl (lv_at hl 2 rfl) ?_
    exact z_iret hx hb hr hbv (by rw [hbv]; exact zb_nb _) hw.2 hw.1 (Nat.le_of_ble_eq_true rfl) (Nat.le_of_ble_eq_true rfl) dX7_doesWork_42 hlocks
  · skip
    have hlt : k < zRn I := z_lt (show ¬ nI (zRn I) ≤ nI k from c1) (by omega)
    refine lv_iload_n hx hb dX7_doesWork_12 rfl (lv_at hl 2 rfl) ?_
    refine lv_if_eq (tgt := 33) hx hb dX7_doesWork_13 (by decide) (fun c2 => ?_) (fun c2 => ?_)
    · skip
      refine lv_iconst (v := 0) hx hb dX7_doesWork_33 (by decide) ?_
      refine lv_istore_n (lv' := [(2, .int 0), (0, .ref (ad 128)), (1, .int x), (3, .int (nI k))]) hx hb dX7_doesWork_34 rfl hl (by decide) rfl (fun ls hl => ?_)
      refine lv_iinc (v := nI (k + 1)) (lv' := [(3, .int (nI (k + 1))), (2, .int 0), (0, .ref (ad 128)), (1, .int x)]) hx hb dX7_doesWork_35 hl (k := 3) rfl (nI_succ _).symm (by decide) rfl (fun ls hl => ?_)
      refine lv_goto (tgt := 4) hx hb dX7_doesWork_38 (by decide) ?_
      exact ih_k hlt _ _ _ ⟨_, (Or.inr ⟨rfl, hd.elim (fun h => absurd (h.1.symm.trans c2) (by decide)) (fun ⟨_, j, h1, h2⟩ => ⟨j, by omega, h2⟩)⟩), hw, lv_sub hl [2, 3, 1, 0] rfl⟩
    · skip
      refine lv_aload_n hx hb dX7_doesWork_16 rfl (lv_at hl 0 rfl) ?_
      refine z_getr M hw (zr_t hR 128 7 0 (by decide)) zf_X7_31 (zr_p hR 12 (by decide)) dX7_doesWork_17 ?_
      refine lv_iload_n hx hb dX7_doesWork_20 rfl (lv_at hl 3 rfl) ?_
      refine z_iNald M hw (zr_t hR 140 8 128 (by decide)) rfl ⟨by omega, by omega⟩ dX7_doesWork_21 ?_
      refine lv_bipush (v := 8) hx hb dX7_doesWork_22 (by decide) ?_
      refine lv_idiv hx hb dX7_doesWork_24 (by decide) ?_
      refine lv_iload_n hx hb dX7_doesWork_25 rfl (lv_at hl 1 rfl) ?_
      refine lv_icmp_eq (tgt := 33) hx hb dX7_doesWork_26 (by decide) (fun c3 => ?_) (fun c3 => ?_)
      · skip
        refine lv_iconst (v := 0) hx hb dX7_doesWork_33 (by decide) ?_
        refine lv_istore_n (lv' := [(2, .int 0), (0, .ref (ad 128)), (1, .int x), (3, .int (nI k))]) hx hb dX7_doesWork_34 rfl hl (by decide) rfl (fun ls hl => ?_)
        refine lv_iinc (v := nI (k + 1)) (lv' := [(3, .int (nI (k + 1))), (2, .int 0), (0, .ref (ad 128)), (1, .int x)]) hx hb dX7_doesWork_35 hl (k := 3) rfl (nI_succ _).symm (by decide) rfl (fun ls hl => ?_)
        refine lv_goto (tgt := 4) hx hb dX7_doesWork_38 (by decide) ?_
        exact ih_k hlt _ _ _ ⟨_, (Or.inr ⟨rfl, k, by omega, decide_eq_true c3⟩), hw, lv_sub hl [2, 3, 1, 0] rfl⟩
      · skip
        refine lv_iconst (v := 1) hx hb dX7_doesWork_29 (by decide) ?_
        refine lv_goto (tgt := 34) hx hb dX7_doesWork_30 (by decide) ?_
        refine lv_istore_n (lv' := [(2, .int 1), (0, .ref (ad 128)), (1, .int x), (3, .int (nI k))]) hx hb dX7_doesWork_34 rfl hl (by decide) rfl (fun ls hl => ?_)
        refine lv_iinc (v := nI (k + 1)) (lv' := [(3, .int (nI (k + 1))), (2, .int 1), (0, .ref (ad 128)), (1, .int x)]) hx hb dX7_doesWork_35 hl (k := 3) rfl (nI_succ _).symm (by decide) rfl (fun ls hl => ?_)
        refine lv_goto (tgt := 4) hx hb dX7_doesWork_38 (by decide) ?_
        exact ih_k hlt _ _ _ ⟨_, (Or.inl ⟨rfl, fun j hj => by
            rcases Nat.lt_or_ge j k with q | q
            · rcases hd with ⟨-, h⟩ | ⟨e, -⟩
              · exact h j q
              · exact absurd e c2
            · have e : j = k := by omega
              subst e; exact decide_eq_false c3⟩), hw, lv_sub hl [2, 3, 1, 0] rfl⟩
set_option maxHeartbeats 4000000 in
set_option maxRecDepth 100000 in
theorem c_X7_come (l : Launch) (base : Nat) (D : va_G) (cA : Nat → ClassId) (ad : Nat → Nat) (ty : zTyp) (I : zIt) (L : zLt) (P : zPt) (hR : zref ty P) (hf : I 128 11 = nI (zRn I)) (hf8 : zRn I ≤ 128) (q : Nat) (hq : q < 4) : zMv l base D cA yX7_come cX7_come 3 1 22 0 0 [.ref (ad 128), .int (nI q)] (zW base D cA ad ty I L P) (zW base D cA ad ty (zCome I q) L P) := by
  refine z_start (by decide +kernel) (Nat.le_of_ble_eq_true rfl) fun p e s m below meth c ls M hP hS hl hr hlocks hnm => ?_
  have M : zM p s m c cX7_come RX7 3 base D cA := M
  have hw : zH base D cA s s.heap [] ad ty I L P := ⟨hP, hS⟩
  obtain ⟨hx, hb, -⟩ := id M
  have hl : lv_has ls 3 [(0, .ref (ad 128)), (1, .int (nI q))] := hl
  refine lv_aload_n hx hb dX7_come_0 rfl (lv_at hl 0 rfl) ?_
  refine z_getr M hw (zr_t hR 128 7 0 (by decide)) zf_X7_49 (zr_p hR 19 (by decide)) dX7_come_1 ?_
  refine lv_iload_n hx hb dX7_come_4 rfl (lv_at hl 1 rfl) ?_
  refine z_iNald M hw (zr_t hR 147 8 4 (by decide)) rfl ⟨by omega, by omega⟩ dX7_come_5 ?_
  refine lv_iconst (v := (-1)) hx hb dX7_come_6 (by decide) ?_
  refine lv_icmp_eq (tgt := 28) hx hb dX7_come_7 (by decide) (fun c1 => ?_) (fun c1 => ?_)
  · skip
    refine lv_iconst (v := 0) hx hb dX7_come_28 (by decide) ?_
    refine lv_istore_n (lv' := [(2, .int 0), (0, .ref (ad 128)), (1, .int (nI q))]) hx hb dX7_come_29 rfl hl (by decide) rfl (fun ls hl => ?_)
    refine lv_aload_n hx hb dX7_come_30 rfl (lv_at hl 1 rfl) ?_
    refine z_getr M hw (zr_t hR 128 7 0 (by decide)) zf_X7_37 (zr_p hR 15 (by decide)) dX7_come_31 ?_
    refine lv_iload_n hx hb dX7_come_34 rfl (lv_at hl 2 rfl) ?_
    refine lv_iload_n hx hb dX7_come_35 rfl (lv_at hl 0 rfl) ?_
    refine lv_if_eq (tgt := 43) hx hb dX7_come_36 (by decide) (fun c2 => ?_) (fun c2 => ?_)
    rotate_left
    · exact absurd c2 (by decide)
    refine lv_iconst (v := 0) hx hb dX7_come_43 (by decide) ?_
    refine z_iNast M hw (zr_t hR 143 8 4 (by decide)) rfl ⟨by omega, by omega⟩ dX7_come_44 (fun H locs hw => ?_)
    refine lv_aload_n hx hb dX7_come_45 rfl (lv_at hl 1 rfl) ?_
    refine z_getr M hw (zr_t hR 128 7 0 (by decide)) zf_X7_46 (zr_p hR 18 (by decide)) dX7_come_46 ?_
    refine lv_iload_n hx hb dX7_come_49 rfl (lv_at hl 2 rfl) ?_
    refine lv_iload_n hx hb dX7_come_50 rfl (lv_at hl 0 rfl) ?_
    refine lv_if_eq (tgt := 59) hx hb dX7_come_51 (by decide) (fun c3 => ?_) (fun c3 => ?_)
    rotate_left
    · exact absurd c3 (by decide)
    refine lv_iconst (v := 0) hx hb dX7_come_59 (by decide) ?_
    refine z_iNast M hw (zr_t hR 146 8 4 (by decide)) rfl ⟨by omega, by omega⟩ dX7_come_60 (fun H locs hw => ?_)
    exact z_vret hx hb hr hw.2 (by unfold zCome; rw [if_neg (fun h => h.1 c1)]; exact hw.1) (Nat.le_of_ble_eq_true rfl) (Nat.le_of_ble_eq_true rfl) dX7_come_61 hlocks
  · skip
    refine lv_aload_n hx hb dX7_come_10 rfl (lv_at hl 0 rfl) ?_
    refine lv_aload_n hx hb dX7_come_11 rfl (lv_at hl 0 rfl) ?_
    refine z_getr M hw (zr_t hR 128 7 0 (by decide)) zf_X7_49 (zr_p hR 19 (by decide)) dX7_come_12 ?_
    refine lv_iload_n hx hb dX7_come_15 rfl (lv_at hl 1 rfl) ?_
    refine z_iNald M hw (zr_t hR 147 8 4 (by decide)) rfl ⟨by omega, by omega⟩ dX7_come_16 ?_
    refine z_ci0 (z_runV (As := [.int (I 147 q)]) (rest := []) M hw (zr_t hR 128 7 0 (by decide)) zc_X7_121 (c_X7_placeOf l base D cA ad ty I L P hR hf hf8 (I 147 q)) hw.1 rfl rfl ⟨Nat.le_of_ble_eq_true rfl, Nat.le_of_ble_eq_true rfl⟩ ⟨Nat.le_of_ble_eq_true rfl, Nat.le_of_ble_eq_true rfl⟩ hl.1 (Nat.le_of_ble_eq_true rfl) dX7_come_17) hw (fun H locs hw => ?_)
    refine lv_iconst (v := (-1)) hx hb dX7_come_20 (by decide) ?_
    refine lv_icmp_eq (tgt := 28) hx hb dX7_come_21 (by decide) (fun c4 => ?_) (fun c4 => ?_)
    · skip
      refine lv_iconst (v := 0) hx hb dX7_come_28 (by decide) ?_
      refine lv_istore_n (lv' := [(2, .int 0), (0, .ref (ad 128)), (1, .int (nI q))]) hx hb dX7_come_29 rfl hl (by decide) rfl (fun ls hl => ?_)
      refine lv_aload_n hx hb dX7_come_30 rfl (lv_at hl 1 rfl) ?_
      refine z_getr M hw (zr_t hR 128 7 0 (by decide)) zf_X7_37 (zr_p hR 15 (by decide)) dX7_come_31 ?_
      refine lv_iload_n hx hb dX7_come_34 rfl (lv_at hl 2 rfl) ?_
      refine lv_iload_n hx hb dX7_come_35 rfl (lv_at hl 0 rfl) ?_
      refine lv_if_eq (tgt := 43) hx hb dX7_come_36 (by decide) (fun c5 => ?_) (fun c5 => ?_)
      rotate_left
      · exact absurd c5 (by decide)
      refine lv_iconst (v := 0) hx hb dX7_come_43 (by decide) ?_
      refine z_iNast M hw (zr_t hR 143 8 4 (by decide)) rfl ⟨by omega, by omega⟩ dX7_come_44 (fun H locs hw => ?_)
      refine lv_aload_n hx hb dX7_come_45 rfl (lv_at hl 1 rfl) ?_
      refine z_getr M hw (zr_t hR 128 7 0 (by decide)) zf_X7_46 (zr_p hR 18 (by decide)) dX7_come_46 ?_
      refine lv_iload_n hx hb dX7_come_49 rfl (lv_at hl 2 rfl) ?_
      refine lv_iload_n hx hb dX7_come_50 rfl (lv_at hl 0 rfl) ?_
      refine lv_if_eq (tgt := 59) hx hb dX7_come_51 (by decide) (fun c6 => ?_) (fun c6 => ?_)
      rotate_left
      · exact absurd c6 (by decide)
      refine lv_iconst (v := 0) hx hb dX7_come_59 (by decide) ?_
      refine z_iNast M hw (zr_t hR 146 8 4 (by decide)) rfl ⟨by omega, by omega⟩ dX7_come_60 (fun H locs hw => ?_)
      exact z_vret hx hb hr hw.2 (by unfold zCome; rw [if_neg (fun h => h.2 c4)]; exact hw.1) (Nat.le_of_ble_eq_true rfl) (Nat.le_of_ble_eq_true rfl) dX7_come_61 hlocks
    · skip
      refine lv_iconst (v := 1) hx hb dX7_come_24 (by decide) ?_
      refine lv_goto (tgt := 29) hx hb dX7_come_25 (by decide) ?_
      refine lv_istore_n (lv' := [(2, .int 1), (0, .ref (ad 128)), (1, .int (nI q))]) hx hb dX7_come_29 rfl hl (by decide) rfl (fun ls hl => ?_)
      refine lv_aload_n hx hb dX7_come_30 rfl (lv_at hl 1 rfl) ?_
      refine z_getr M hw (zr_t hR 128 7 0 (by decide)) zf_X7_37 (zr_p hR 15 (by decide)) dX7_come_31 ?_
      refine lv_iload_n hx hb dX7_come_34 rfl (lv_at hl 2 rfl) ?_
      refine lv_iload_n hx hb dX7_come_35 rfl (lv_at hl 0 rfl) ?_
      refine lv_if_eq (tgt := 43) hx hb dX7_come_36 (by decide) (fun c7 => ?_) (fun c7 => ?_)
      · exact absurd c7 (by decide)
      refine lv_iconst (v := 2) hx hb dX7_come_39 (by decide) ?_
      refine lv_goto (tgt := 44) hx hb dX7_come_40 (by decide) ?_
      refine z_iNast M hw (zr_t hR 143 8 4 (by decide)) rfl ⟨by omega, by omega⟩ dX7_come_44 (fun H locs hw => ?_)
      refine lv_aload_n hx hb dX7_come_45 rfl (lv_at hl 1 rfl) ?_
      refine z_getr M hw (zr_t hR 128 7 0 (by decide)) zf_X7_46 (zr_p hR 18 (by decide)) dX7_come_46 ?_
      refine lv_iload_n hx hb dX7_come_49 rfl (lv_at hl 2 rfl) ?_
      refine lv_iload_n hx hb dX7_come_50 rfl (lv_at hl 0 rfl) ?_
      refine lv_if_eq (tgt := 59) hx hb dX7_come_51 (by decide) (fun c8 => ?_) (fun c8 => ?_)
      · exact absurd c8 (by decide)
      refine lv_bipush (v := 6) hx hb dX7_come_54 (by decide) ?_
      refine lv_goto (tgt := 60) hx hb dX7_come_56 (by decide) ?_
      refine z_iNast M hw (zr_t hR 146 8 4 (by decide)) rfl ⟨by omega, by omega⟩ dX7_come_60 (fun H locs hw => ?_)
      exact z_vret hx hb hr hw.2 (by unfold zCome; rw [if_pos ⟨c1, c4⟩]; exact hw.1) (Nat.le_of_ble_eq_true rfl) (Nat.le_of_ble_eq_true rfl) dX7_come_61 hlocks
set_option maxHeartbeats 4000000 in
set_option maxRecDepth 100000 in
theorem c_X7_sail (l : Launch) (base : Nat) (D : va_G) (cA : Nat → ClassId) (ad : Nat → Nat) (ty : zTyp) (I : zIt) (L : zLt) (P : zPt) (hR : zref ty P) (hf : I 128 11 = nI (zRn I)) (hf8 : zRn I ≤ 128) (q : Nat) (hq : q < 4) (a b t : Int32) (hsp : ¬ I 142 q = 0) : zMi l base D cA yX7_sail cX7_sail 7 .int 2 44 0 0 [.ref (ad 128), .int (nI q), .int a, .int b, .int t] (zW base D cA ad ty I L P) (zRh I q a b) (zW base D cA ad ty (zSail I q a b t) L P) := by
  refine z_start (by decide +kernel) (Nat.le_of_ble_eq_true rfl) fun p e s m below meth c ls M hP hS hl hr hlocks hnm => ?_
  have M : zM p s m c cX7_sail RX7 7 base D cA := M
  have hw : zH base D cA s s.heap [] ad ty I L P := ⟨hP, hS⟩
  obtain ⟨hx, hb, -⟩ := id M
  have hl : lv_has ls 7 [(0, .ref (ad 128)), (1, .int (nI q)), (2, .int a), (3, .int b), (4, .int t)] := hl
  refine lv_iload_n hx hb dX7_sail_0 rfl (lv_at hl 2 rfl) ?_
  refine lv_aload_n hx hb dX7_sail_1 rfl (lv_at hl 0 rfl) ?_
  refine z_getr M hw (zr_t hR 128 7 0 (by decide)) zf_X7_40 (zr_p hR 16 (by decide)) dX7_sail_2 ?_
  refine lv_iload_n hx hb dX7_sail_5 rfl (lv_at hl 1 rfl) ?_
  refine z_iNald M hw (zr_t hR 144 8 4 (by decide)) rfl ⟨by omega, by omega⟩ dX7_sail_6 ?_
  refine lv_isub hx hb dX7_sail_7 ?_
  refine z_ci0 (z_runS (As := [.int (a - (I 144 q))]) (rest := []) M hw.2 zc_X7_125 (c_X7_size l base D cA ad ty I L P (a - (I 144 q))) hw.1 rfl rfl ⟨Nat.le_of_ble_eq_true rfl, Nat.le_of_ble_eq_true rfl⟩ ⟨Nat.le_of_ble_eq_true rfl, Nat.le_of_ble_eq_true rfl⟩ hl.1 (Nat.le_of_ble_eq_true rfl) dX7_sail_8) hw (fun H locs hw => ?_)
  refine lv_iload_n hx hb dX7_sail_11 rfl (lv_at hl 3 rfl) ?_
  refine lv_aload_n hx hb dX7_sail_12 rfl (lv_at hl 0 rfl) ?_
  refine z_getr M hw (zr_t hR 128 7 0 (by decide)) zf_X7_43 (zr_p hR 17 (by decide)) dX7_sail_13 ?_
  refine lv_iload_n hx hb dX7_sail_16 rfl (lv_at hl 1 rfl) ?_
  refine z_iNald M hw (zr_t hR 145 8 4 (by decide)) rfl ⟨by omega, by omega⟩ dX7_sail_17 ?_
  refine lv_isub hx hb dX7_sail_18 ?_
  refine z_ci0 (z_runS (As := [.int (b - (I 145 q))]) (rest := [.int (zsz (a - (I 144 q)))]) M hw.2 zc_X7_125 (c_X7_size l base D cA ad ty I L P (b - (I 145 q))) hw.1 rfl rfl ⟨Nat.le_of_ble_eq_true rfl, Nat.le_of_ble_eq_true rfl⟩ ⟨Nat.le_of_ble_eq_true rfl, Nat.le_of_ble_eq_true rfl⟩ hl.1 (Nat.le_of_ble_eq_true rfl) dX7_sail_19) hw (fun H locs hw => ?_)
  refine lv_iadd hx hb dX7_sail_22 ?_
  refine lv_topi (fun x1 ex1 => ?_)
  refine lv_istore (lv' := [(5, .int x1), (0, .ref (ad 128)), (1, .int (nI q)), (2, .int a), (3, .int b), (4, .int t)]) hx hb dX7_sail_23 hl (by decide) rfl (fun ls hl => ?_)
  refine lv_iload hx hb dX7_sail_25 (lv_at hl 0 rfl) ?_
  refine lv_aload_n hx hb dX7_sail_27 rfl (lv_at hl 1 rfl) ?_
  refine z_getr M hw (zr_t hR 128 7 0 (by decide)) zf_X7_34 (zr_p hR 14 (by decide)) dX7_sail_28 ?_
  refine lv_iload_n hx hb dX7_sail_31 rfl (lv_at hl 2 rfl) ?_
  refine z_iNald M hw (zr_t hR 142 8 4 (by decide)) rfl ⟨by omega, by omega⟩ dX7_sail_32 ?_
  refine lv_iadd hx hb dX7_sail_33 ?_
  refine lv_iconst (v := 1) hx hb dX7_sail_34 (by decide) ?_
  refine lv_isub hx hb dX7_sail_35 ?_
  refine lv_aload_n hx hb dX7_sail_36 rfl (lv_at hl 1 rfl) ?_
  refine z_getr M hw (zr_t hR 128 7 0 (by decide)) zf_X7_34 (zr_p hR 14 (by decide)) dX7_sail_37 ?_
  refine lv_iload_n hx hb dX7_sail_40 rfl (lv_at hl 2 rfl) ?_
  refine z_iNald M hw (zr_t hR 142 8 4 (by decide)) rfl ⟨by omega, by omega⟩ dX7_sail_41 ?_
  refine lv_idiv hx hb dX7_sail_42 hsp ?_
  refine z_topi (y := zRh I q a b) (by unfold zRh; rw [ex1]) ?_
  refine lv_istore (lv' := [(6, .int (zRh I q a b)), (5, .int x1), (0, .ref (ad 128)), (1, .int (nI q)), (2, .int a), (3, .int b), (4, .int t)]) hx hb dX7_sail_43 hl (by decide) rfl (fun ls hl => ?_)
  refine lv_aload_n hx hb dX7_sail_45 rfl (lv_at hl 2 rfl) ?_
  refine z_getr M hw (zr_t hR 128 7 0 (by decide)) zf_X7_40 (zr_p hR 16 (by decide)) dX7_sail_46 ?_
  refine lv_iload_n hx hb dX7_sail_49 rfl (lv_at hl 3 rfl) ?_
  refine lv_iload_n hx hb dX7_sail_50 rfl (lv_at hl 4 rfl) ?_
  refine z_iNast M hw (zr_t hR 144 8 4 (by decide)) rfl ⟨by omega, by omega⟩ dX7_sail_51 (fun H locs hw => ?_)
  refine lv_aload_n hx hb dX7_sail_52 rfl (lv_at hl 2 rfl) ?_
  refine z_getr M hw (zr_t hR 128 7 0 (by decide)) zf_X7_43 (zr_p hR 17 (by decide)) dX7_sail_53 ?_
  refine lv_iload_n hx hb dX7_sail_56 rfl (lv_at hl 3 rfl) ?_
  refine lv_iload_n hx hb dX7_sail_57 rfl (lv_at hl 5 rfl) ?_
  refine z_iNast M hw (zr_t hR 145 8 4 (by decide)) rfl ⟨by omega, by omega⟩ dX7_sail_58 (fun H locs hw => ?_)
  refine lv_aload_n hx hb dX7_sail_59 rfl (lv_at hl 2 rfl) ?_
  refine z_getr M hw (zr_t hR 128 7 0 (by decide)) zf_X7_49 (zr_p hR 19 (by decide)) dX7_sail_60 ?_
  refine lv_iload_n hx hb dX7_sail_63 rfl (lv_at hl 3 rfl) ?_
  refine lv_iload hx hb dX7_sail_64 (lv_at hl 6 rfl) ?_
  refine z_iNast M hw (zr_t hR 147 8 4 (by decide)) rfl ⟨by omega, by omega⟩ dX7_sail_66 (fun H locs hw => ?_)
  refine lv_aload_n hx hb dX7_sail_67 rfl (lv_at hl 2 rfl) ?_
  refine z_getr M hw (zr_t hR 128 7 0 (by decide)) zf_X7_37 (zr_p hR 15 (by decide)) dX7_sail_68 ?_
  refine lv_iload_n hx hb dX7_sail_71 rfl (lv_at hl 3 rfl) ?_
  refine lv_iconst (v := 1) hx hb dX7_sail_72 (by decide) ?_
  refine z_iNast M hw (zr_t hR 143 8 4 (by decide)) rfl ⟨by omega, by omega⟩ dX7_sail_73 (fun H locs hw => ?_)
  refine lv_aload_n hx hb dX7_sail_74 rfl (lv_at hl 2 rfl) ?_
  refine z_getr M hw (zr_t hR 128 7 0 (by decide)) zf_X7_46 (zr_p hR 18 (by decide)) dX7_sail_75 ?_
  refine lv_iload_n hx hb dX7_sail_78 rfl (lv_at hl 3 rfl) ?_
  refine lv_iload hx hb dX7_sail_79 (lv_at hl 0 rfl) ?_
  refine z_iNast M hw (zr_t hR 146 8 4 (by decide)) rfl ⟨by omega, by omega⟩ dX7_sail_81 (fun H locs hw => ?_)
  refine lv_iload hx hb dX7_sail_82 (lv_at hl 0 rfl) ?_
  refine lv_if_ne (tgt := 92) hx hb dX7_sail_84 (by decide) (fun c2 => ?_) (fun c2 => ?_)
  · skip
    refine lv_iload hx hb dX7_sail_92 (lv_at hl 0 rfl) ?_
    exact z_iret hx hb hr (by rfl) rfl hw.2 (by unfold zSail; (try first | rw [if_pos c2] | rw [if_neg c2]); exact hw.1) (Nat.le_of_ble_eq_true rfl) (Nat.le_of_ble_eq_true rfl) dX7_sail_94 hlocks
  · skip
    refine lv_aload_n hx hb dX7_sail_87 rfl (lv_at hl 2 rfl) ?_
    refine lv_iload_n hx hb dX7_sail_88 rfl (lv_at hl 3 rfl) ?_
    refine z_cv0 (z_runV (As := [.int (nI q)]) (rest := []) M hw (zr_t hR 128 7 0 (by decide)) zc_X7_128 (c_X7_come l base D cA ad ty (zu (zu (zu (zu (zu I 144 q a) 145 q b) 147 q t) 143 q 1) 146 q (zRh I q a b)) L P hR (by rw [zRn_eq (show (zu (zu (zu (zu (zu I 144 q a) 145 q b) 147 q t) 143 q 1) 146 q (zRh I q a b)) 128 11 = I 128 11 by repeat rw [zu_ne _ _ (by omega)]), (show (zu (zu (zu (zu (zu I 144 q a) 145 q b) 147 q t) 143 q 1) 146 q (zRh I q a b)) 128 11 = I 128 11 by repeat rw [zu_ne _ _ (by omega)])]; exact hf) (by rw [zRn_eq (show (zu (zu (zu (zu (zu I 144 q a) 145 q b) 147 q t) 143 q 1) 146 q (zRh I q a b)) 128 11 = I 128 11 by repeat rw [zu_ne _ _ (by omega)])]; exact hf8) q hq) hw.1 rfl rfl ⟨Nat.le_of_ble_eq_true rfl, Nat.le_of_ble_eq_true rfl⟩ ⟨Nat.le_of_ble_eq_true rfl, Nat.le_of_ble_eq_true rfl⟩ hl.1 (Nat.le_of_ble_eq_true rfl) dX7_sail_89) hw (fun H locs hw => ?_)
    refine lv_iload hx hb dX7_sail_92 (lv_at hl 0 rfl) ?_
    exact z_iret hx hb hr (by rfl) rfl hw.2 (by unfold zSail; (try first | rw [if_pos c2] | rw [if_neg c2]); exact hw.1) (Nat.le_of_ble_eq_true rfl) (Nat.le_of_ble_eq_true rfl) dX7_sail_94 hlocks
set_option maxHeartbeats 4000000 in
set_option maxRecDepth 100000 in
theorem c_X7_mend (l : Launch) (base : Nat) (D : va_G) (cA : Nat → ClassId) (ad : Nat → Nat) (ty : zTyp) (I : zIt) (L : zLt) (P : zPt) (hR : zref ty P) (hf : I 128 11 = nI (zRn I)) (hf8 : zRn I ≤ 128) (q : Nat) (hq : q < 4) : zMv l base D cA yX7_mend cX7_mend 4 1 22 0 0 [.ref (ad 128), .int (nI q)] (zW base D cA ad ty I L P) (zW base D cA ad ty (zRmend I q) L P) := by
  refine z_start (by decide +kernel) (Nat.le_of_ble_eq_true rfl) fun p e s m below meth c ls M hP hS hl hr hlocks hnm => ?_
  have M : zM p s m c cX7_mend RX7 4 base D cA := M
  have hw : zH base D cA s s.heap [] ad ty I L P := ⟨hP, hS⟩
  obtain ⟨hx, hb, -⟩ := id M
  have hl : lv_has ls 4 [(0, .ref (ad 128)), (1, .int (nI q))] := hl
  refine lv_aload_n hx hb dX7_mend_0 rfl (lv_at hl 0 rfl) ?_
  refine lv_aload_n hx hb dX7_mend_1 rfl (lv_at hl 0 rfl) ?_
  refine z_getr M hw (zr_t hR 128 7 0 (by decide)) zf_X7_49 (zr_p hR 19 (by decide)) dX7_mend_2 ?_
  refine lv_iload_n hx hb dX7_mend_5 rfl (lv_at hl 1 rfl) ?_
  refine z_iNald M hw (zr_t hR 147 8 4 (by decide)) rfl ⟨by omega, by omega⟩ dX7_mend_6 ?_
  refine z_ci0 (z_runV (As := [.int (I 147 q)]) (rest := []) M hw (zr_t hR 128 7 0 (by decide)) zc_X7_121 (c_X7_placeOf l base D cA ad ty I L P hR hf hf8 (I 147 q)) hw.1 rfl rfl ⟨Nat.le_of_ble_eq_true rfl, Nat.le_of_ble_eq_true rfl⟩ ⟨Nat.le_of_ble_eq_true rfl, Nat.le_of_ble_eq_true rfl⟩ hl.1 (Nat.le_of_ble_eq_true rfl) dX7_mend_7) hw (fun H locs hw => ?_)
  refine lv_istore_n (lv' := [(2, .int (zoi (zPl I (I 147 q)))), (0, .ref (ad 128)), (1, .int (nI q))]) hx hb dX7_mend_10 rfl hl (by decide) rfl (fun ls hl => ?_)
  refine lv_iload_n hx hb dX7_mend_11 rfl (lv_at hl 0 rfl) ?_
  refine lv_iconst (v := (-1)) hx hb dX7_mend_12 (by decide) ?_
  refine lv_icmp_eq (tgt := 66) hx hb dX7_mend_13 (by decide) (fun c1 => ?_) (fun c1 => ?_)
  · skip
    refine lv_aload_n hx hb dX7_mend_66 rfl (lv_at hl 1 rfl) ?_
    refine z_getr M hw (zr_t hR 128 7 0 (by decide)) zf_X7_37 (zr_p hR 15 (by decide)) dX7_mend_67 ?_
    refine lv_iload_n hx hb dX7_mend_70 rfl (lv_at hl 2 rfl) ?_
    refine lv_iconst (v := 0) hx hb dX7_mend_71 (by decide) ?_
    refine z_iNast M hw (zr_t hR 143 8 4 (by decide)) rfl ⟨by omega, by omega⟩ dX7_mend_72 (fun H locs hw => ?_)
    exact z_vret hx hb hr hw.2 (by unfold zRmend; rw [zoi_none (n := zRn I) c1 (fun k h => (zfst_spec h).1) (by omega)]; exact hw.1) (Nat.le_of_ble_eq_true rfl) (Nat.le_of_ble_eq_true rfl) dX7_mend_73 hlocks
  · skip
    obtain ⟨k0, ek, ekn⟩ := zoi_some c1
    have hk0 := (zfst_spec ek).1
    rw [ekn] at hl
    refine lv_aload_n hx hb dX7_mend_16 rfl (lv_at hl 1 rfl) ?_
    refine lv_dup hx hb dX7_mend_17 rfl ?_
    refine z_geti M hw (zr_t hR 128 7 0 (by decide)) zf_X7_114 dX7_mend_18 ?_
    refine z_topi (y := nI (zRn I)) hf ?_
    refine lv_iconst (v := 1) hx hb dX7_mend_21 (by decide) ?_
    refine lv_isub hx hb dX7_mend_22 ?_
    refine z_topi (y := nI (zRn I - 1)) (nI_prd (by omega)) ?_
    refine z_puti M hw (zr_t hR 128 7 0 (by decide)) zf_X7_114 (Or.inl rfl) rfl rfl dX7_mend_23 (fun H locs hw => ?_)
    refine lv_iload_n hx hb dX7_mend_26 rfl (lv_at hl 0 rfl) ?_
    refine lv_istore_n (lv' := [(3, .int (nI k0)), (2, .int (nI k0)), (0, .ref (ad 128)), (1, .int (nI q))]) hx hb dX7_mend_27 rfl hl (by decide) rfl (fun ls hl => ?_)
    refine z_loop (zRn I - 1) (fun (k : Nat) H locs ls => (k0 ≤ k) ∧ zH base D cA s H locs ad ty (zs (zu I 128 11 (nI (zRn I - 1))) 140 (zShf (I 140) k0 k)) L P ∧ lv_has ls 4 [(0, .ref (ad 128)), (1, .int (nI q)), (2, .int (nI k0)), (3, .int (nI k))]) k0 ⟨(Nat.le_refl _), (by rw [zShf_0, show I 140 = (zu I 128 11 (nI (zRn I - 1))) 140 from rfl, zs_id]; exact hw), lv_sub hl [2, 3, 1, 0] rfl⟩ (by omega) (fun k hk_k ih_k H locs ls hI => ?_)
    obtain ⟨hk9, hw, hl⟩ := hI
    refine lv_iload_n hx hb dX7_mend_28 rfl (lv_at hl 3 rfl) ?_
    refine lv_aload_n hx hb dX7_mend_29 rfl (lv_at hl 0 rfl) ?_
    refine z_geti M hw (zr_t hR 128 7 0 (by decide)) zf_X7_114 dX7_mend_30 ?_
    refine z_topi (y := nI (zRn I - 1)) (by rw [zs_ne _ _ (by omega), zu_self]) ?_
    refine lv_icmp_ge (tgt := 56) hx hb dX7_mend_33 (by decide) (fun c2 => ?_) (fun c2 => ?_)
    · skip
      have hge : k = zRn I - 1 := Nat.le_antisymm (by omega) (z_ge (show nI (zRn I - 1) ≤ nI k from c2) (by omega) (by omega))
      refine lv_aload_n hx hb dX7_mend_56 rfl (lv_at hl 0 rfl) ?_
      refine z_getr M hw (zr_t hR 128 7 0 (by decide)) zf_X7_52 (zr_p hR 20 (by decide)) dX7_mend_57 ?_
      refine lv_iload_n hx hb dX7_mend_60 rfl (lv_at hl 1 rfl) ?_
      refine lv_dup2_11 hx hb dX7_mend_61 rfl rfl ?_
      refine z_iNald M hw (zr_t hR 148 8 4 (by decide)) rfl ⟨by omega, by omega⟩ dX7_mend_62 ?_
      refine z_topi (y := I 148 q) (by rw [zs_ne _ _ (by omega), zu_ne _ _ (by omega)]) ?_
      refine lv_iconst (v := 1) hx hb dX7_mend_63 (by decide) ?_
      refine lv_iadd hx hb dX7_mend_64 ?_
      refine z_iNast M hw (zr_t hR 148 8 4 (by decide)) rfl ⟨by omega, by omega⟩ dX7_mend_65 (fun H locs hw => ?_)
      refine lv_aload_n hx hb dX7_mend_66 rfl (lv_at hl 0 rfl) ?_
      refine z_getr M hw (zr_t hR 128 7 0 (by decide)) zf_X7_37 (zr_p hR 15 (by decide)) dX7_mend_67 ?_
      refine lv_iload_n hx hb dX7_mend_70 rfl (lv_at hl 1 rfl) ?_
      refine lv_iconst (v := 0) hx hb dX7_mend_71 (by decide) ?_
      refine z_iNast M hw (zr_t hR 143 8 4 (by decide)) rfl ⟨by omega, by omega⟩ dX7_mend_72 (fun H locs hw => ?_)
      exact z_vret hx hb hr hw.2 (by unfold zRmend; rw [ek]; rw [hge] at hw; exact hw.1) (Nat.le_of_ble_eq_true rfl) (Nat.le_of_ble_eq_true rfl) dX7_mend_73 hlocks
    · skip
      have hlt : k < zRn I - 1 := z_lt (show ¬ nI (zRn I - 1) ≤ nI k from c2) (by omega)
      refine lv_aload_n hx hb dX7_mend_36 rfl (lv_at hl 0 rfl) ?_
      refine z_getr M hw (zr_t hR 128 7 0 (by decide)) zf_X7_31 (zr_p hR 12 (by decide)) dX7_mend_37 ?_
      refine lv_iload_n hx hb dX7_mend_40 rfl (lv_at hl 3 rfl) ?_
      refine lv_aload_n hx hb dX7_mend_41 rfl (lv_at hl 0 rfl) ?_
      refine z_getr M hw (zr_t hR 128 7 0 (by decide)) zf_X7_31 (zr_p hR 12 (by decide)) dX7_mend_42 ?_
      refine lv_iload_n hx hb dX7_mend_45 rfl (lv_at hl 3 rfl) ?_
      refine lv_iconst (v := 1) hx hb dX7_mend_46 (by decide) ?_
      refine lv_iadd hx hb dX7_mend_47 ?_
      refine z_iNald M hw (zr_t hR 140 8 128 (by decide)) (nI_succ _).symm ⟨by omega, by omega⟩ dX7_mend_48 ?_
      refine z_topi (y := (zShf (I 140) k0 k) (k + 1)) (by rw [zs_self]) ?_
      refine z_topi (y := I 140 (k + 1)) (zShf_at _ _ _) ?_
      refine z_iNast M hw (zr_t hR 140 8 128 (by decide)) rfl ⟨by omega, by omega⟩ dX7_mend_49 (fun H locs hw => ?_)
      refine lv_iinc (v := nI (k + 1)) (lv' := [(3, .int (nI (k + 1))), (0, .ref (ad 128)), (1, .int (nI q)), (2, .int (nI k0))]) hx hb dX7_mend_50 hl (k := 3) rfl (nI_succ _).symm (by decide) rfl (fun ls hl => ?_)
      refine lv_goto (tgt := 28) hx hb dX7_mend_53 (by decide) ?_
      exact ih_k hlt _ _ _ ⟨(by omega), (by rw [zu_zs, zShf_s _ _ _ hk9] at hw; exact hw), lv_sub hl [1, 2, 3, 0] rfl⟩
set_option maxHeartbeats 4000000 in
set_option maxRecDepth 100000 in
theorem c_X7_goOn (l : Launch) (base : Nat) (D : va_G) (cA : Nat → ClassId) (ad : Nat → Nat) (ty : zTyp) (I : zIt) (L : zLt) (P : zPt) (hR : zref ty P) (hf : I 128 11 = nI (zRn I)) (hf8 : zRn I ≤ 128) (q : Nat) (hq : q < 4) : zMv l base D cA yX7_goOn cX7_goOn 2 2 45 0 0 [.ref (ad 128), .int (nI q)] (zW base D cA ad ty I L P) (zW base D cA ad ty (zRgo I q) L P) := by
  refine z_start (by decide +kernel) (Nat.le_of_ble_eq_true rfl) fun p e s m below meth c ls M hP hS hl hr hlocks hnm => ?_
  have M : zM p s m c cX7_goOn RX7 2 base D cA := M
  have hw : zH base D cA s s.heap [] ad ty I L P := ⟨hP, hS⟩
  obtain ⟨hx, hb, -⟩ := id M
  have hl : lv_has ls 2 [(0, .ref (ad 128)), (1, .int (nI q))] := hl
  refine lv_aload_n hx hb dX7_goOn_0 rfl (lv_at hl 0 rfl) ?_
  refine z_getr M hw (zr_t hR 128 7 0 (by decide)) zf_X7_46 (zr_p hR 18 (by decide)) dX7_goOn_1 ?_
  refine lv_iload_n hx hb dX7_goOn_4 rfl (lv_at hl 1 rfl) ?_
  refine lv_dup2_11 hx hb dX7_goOn_5 rfl rfl ?_
  refine z_iNald M hw (zr_t hR 146 8 4 (by decide)) rfl ⟨by omega, by omega⟩ dX7_goOn_6 ?_
  refine lv_iconst (v := 1) hx hb dX7_goOn_7 (by decide) ?_
  refine lv_isub hx hb dX7_goOn_8 ?_
  refine z_iNast M hw (zr_t hR 146 8 4 (by decide)) rfl ⟨by omega, by omega⟩ dX7_goOn_9 (fun H locs hw => ?_)
  refine lv_aload_n hx hb dX7_goOn_10 rfl (lv_at hl 0 rfl) ?_
  refine z_getr M hw (zr_t hR 128 7 0 (by decide)) zf_X7_46 (zr_p hR 18 (by decide)) dX7_goOn_11 ?_
  refine lv_iload_n hx hb dX7_goOn_14 rfl (lv_at hl 1 rfl) ?_
  refine z_iNald M hw (zr_t hR 146 8 4 (by decide)) rfl ⟨by omega, by omega⟩ dX7_goOn_15 ?_
  refine z_topi (y := (I 146 q) - 1) (by rw [zu_self]) ?_
  refine lv_if_le (tgt := 20) hx hb dX7_goOn_16 (by decide) (fun c1 => ?_) (fun c1 => ?_)
  · skip
    have c1 : ¬ 0 < I 146 q - 1 := Int32.not_lt.mpr c1
    refine lv_aload_n hx hb dX7_goOn_20 rfl (lv_at hl 0 rfl) ?_
    refine z_getr M hw (zr_t hR 128 7 0 (by decide)) zf_X7_37 (zr_p hR 15 (by decide)) dX7_goOn_21 ?_
    refine lv_iload_n hx hb dX7_goOn_24 rfl (lv_at hl 1 rfl) ?_
    refine z_iNald M hw (zr_t hR 143 8 4 (by decide)) rfl ⟨by omega, by omega⟩ dX7_goOn_25 ?_
    refine z_topi (y := I 143 q) (by rw [zu_ne _ _ (by omega)]) ?_
    refine lv_iconst (v := 1) hx hb dX7_goOn_26 (by decide) ?_
    refine lv_icmp_ne (tgt := 38) hx hb dX7_goOn_27 (by decide) (fun c2 => ?_) (fun c2 => ?_)
    · skip
      refine lv_aload_n hx hb dX7_goOn_38 rfl (lv_at hl 0 rfl) ?_
      refine z_getr M hw (zr_t hR 128 7 0 (by decide)) zf_X7_37 (zr_p hR 15 (by decide)) dX7_goOn_39 ?_
      refine lv_iload_n hx hb dX7_goOn_42 rfl (lv_at hl 1 rfl) ?_
      refine z_iNald M hw (zr_t hR 143 8 4 (by decide)) rfl ⟨by omega, by omega⟩ dX7_goOn_43 ?_
      refine z_topi (y := I 143 q) (by rw [zu_ne _ _ (by omega)]) ?_
      refine lv_iconst (v := 2) hx hb dX7_goOn_44 (by decide) ?_
      refine lv_icmp_ne (tgt := 65) hx hb dX7_goOn_45 (by decide) (fun c3 => ?_) (fun c3 => ?_)
      · skip
        refine lv_aload_n hx hb dX7_goOn_65 rfl (lv_at hl 0 rfl) ?_
        refine lv_iload_n hx hb dX7_goOn_66 rfl (lv_at hl 1 rfl) ?_
        refine z_cv0 (z_runV (As := [.int (nI q)]) (rest := []) M hw (zr_t hR 128 7 0 (by decide)) zc_X7_142 (c_X7_mend l base D cA ad ty (zu I 146 q ((I 146 q) - 1)) L P hR (by rw [zRn_eq (show (zu I 146 q ((I 146 q) - 1)) 128 11 = I 128 11 by repeat rw [zu_ne _ _ (by omega)]), (show (zu I 146 q ((I 146 q) - 1)) 128 11 = I 128 11 by repeat rw [zu_ne _ _ (by omega)])]; exact hf) (by rw [zRn_eq (show (zu I 146 q ((I 146 q) - 1)) 128 11 = I 128 11 by repeat rw [zu_ne _ _ (by omega)])]; exact hf8) q hq) hw.1 rfl rfl ⟨Nat.le_of_ble_eq_true rfl, Nat.le_of_ble_eq_true rfl⟩ ⟨Nat.le_of_ble_eq_true rfl, Nat.le_of_ble_eq_true rfl⟩ hl.1 (Nat.le_of_ble_eq_true rfl) dX7_goOn_67) hw (fun H locs hw => ?_)
        exact z_vret hx hb hr hw.2 (by unfold zRgo; (try first | rw [if_pos c1] | rw [if_neg c1]); (try first | rw [if_pos c2] | rw [if_neg c2]); (try first | rw [if_pos c3] | rw [if_neg c3]); exact hw.1) (Nat.le_of_ble_eq_true rfl) (Nat.le_of_ble_eq_true rfl) dX7_goOn_70 hlocks
      · skip
        refine lv_aload_n hx hb dX7_goOn_48 rfl (lv_at hl 0 rfl) ?_
        refine z_getr M hw (zr_t hR 128 7 0 (by decide)) zf_X7_37 (zr_p hR 15 (by decide)) dX7_goOn_49 ?_
        refine lv_iload_n hx hb dX7_goOn_52 rfl (lv_at hl 1 rfl) ?_
        refine lv_iconst (v := 3) hx hb dX7_goOn_53 (by decide) ?_
        refine z_iNast M hw (zr_t hR 143 8 4 (by decide)) rfl ⟨by omega, by omega⟩ dX7_goOn_54 (fun H locs hw => ?_)
        refine lv_aload_n hx hb dX7_goOn_55 rfl (lv_at hl 0 rfl) ?_
        refine z_getr M hw (zr_t hR 128 7 0 (by decide)) zf_X7_46 (zr_p hR 18 (by decide)) dX7_goOn_56 ?_
        refine lv_iload_n hx hb dX7_goOn_59 rfl (lv_at hl 1 rfl) ?_
        refine lv_iconst (v := 2) hx hb dX7_goOn_60 (by decide) ?_
        refine z_iNast M hw (zr_t hR 146 8 4 (by decide)) rfl ⟨by omega, by omega⟩ dX7_goOn_61 (fun H locs hw => ?_)
        refine lv_goto (tgt := 70) hx hb dX7_goOn_62 (by decide) ?_
        exact z_vret hx hb hr hw.2 (by unfold zRgo; (try first | rw [if_pos c1] | rw [if_neg c1]); (try first | rw [if_pos c2] | rw [if_neg c2]); (try first | rw [if_pos c3] | rw [if_neg c3]); exact hw.1) (Nat.le_of_ble_eq_true rfl) (Nat.le_of_ble_eq_true rfl) dX7_goOn_70 hlocks
    · skip
      refine lv_aload_n hx hb dX7_goOn_30 rfl (lv_at hl 0 rfl) ?_
      refine lv_iload_n hx hb dX7_goOn_31 rfl (lv_at hl 1 rfl) ?_
      refine z_cv0 (z_runV (As := [.int (nI q)]) (rest := []) M hw (zr_t hR 128 7 0 (by decide)) zc_X7_128 (c_X7_come l base D cA ad ty (zu I 146 q ((I 146 q) - 1)) L P hR (by rw [zRn_eq (show (zu I 146 q ((I 146 q) - 1)) 128 11 = I 128 11 by repeat rw [zu_ne _ _ (by omega)]), (show (zu I 146 q ((I 146 q) - 1)) 128 11 = I 128 11 by repeat rw [zu_ne _ _ (by omega)])]; exact hf) (by rw [zRn_eq (show (zu I 146 q ((I 146 q) - 1)) 128 11 = I 128 11 by repeat rw [zu_ne _ _ (by omega)])]; exact hf8) q hq) hw.1 rfl rfl ⟨Nat.le_of_ble_eq_true rfl, Nat.le_of_ble_eq_true rfl⟩ ⟨Nat.le_of_ble_eq_true rfl, Nat.le_of_ble_eq_true rfl⟩ hl.1 (Nat.le_of_ble_eq_true rfl) dX7_goOn_32) hw (fun H locs hw => ?_)
      refine lv_goto (tgt := 70) hx hb dX7_goOn_35 (by decide) ?_
      exact z_vret hx hb hr hw.2 (by unfold zRgo; (try first | rw [if_pos c1] | rw [if_neg c1]); (try first | rw [if_pos c2] | rw [if_neg c2]); exact hw.1) (Nat.le_of_ble_eq_true rfl) (Nat.le_of_ble_eq_true rfl) dX7_goOn_70 hlocks
  · skip
    have c1 : 0 < I 146 q - 1 := Int32.not_le.mp c1
    exact z_vret hx hb hr hw.2 (by unfold zRgo; (try first | rw [if_pos c1] | rw [if_neg c1]); exact hw.1) (Nat.le_of_ble_eq_true rfl) (Nat.le_of_ble_eq_true rfl) dX7_goOn_19 hlocks
set_option maxHeartbeats 4000000 in
set_option maxRecDepth 100000 in
theorem c_X7_costs (l : Launch) (base : Nat) (D : va_G) (cA : Nat → ClassId) (ad : Nat → Nat) (ty : zTyp) (I : zIt) (L : zLt) (P : zPt) (hR : zref ty P) (k : Nat) (hk : k < 16) : zMl l base D cA yX7_costs cX7_costs 2 0 0 0 0 [.ref (ad 128), .int (nI k)] (zW base D cA ad ty I L P) (zRcost I k) (zW base D cA ad ty I L P) := by
  refine z_start (by decide +kernel) (Nat.le_of_ble_eq_true rfl) fun p e s m below meth c ls M hP hS hl hr hlocks hnm => ?_
  have M : zM p s m c cX7_costs RX7 2 base D cA := M
  have hw : zH base D cA s s.heap [] ad ty I L P := ⟨hP, hS⟩
  obtain ⟨hx, hb, -⟩ := id M
  have hl : lv_has ls 2 [(0, .ref (ad 128)), (1, .int (nI k))] := hl
  refine lv_ldc2 (v := 1000000) hx hb M.2.2.2.1 (M.2.2.2.2.1.use (tb 859 (by decide +kernel)) rfl) dX7_costs_0 ?_
  refine lv_aload_n hx hb dX7_costs_3 rfl (lv_at hl 0 rfl) ?_
  refine z_getr M hw (zr_t hR 128 7 0 (by decide)) zf_X7_28 (zr_p hR 10 (by decide)) dX7_costs_4 ?_
  refine lv_iload_n hx hb dX7_costs_7 rfl (lv_at hl 1 rfl) ?_
  refine z_iNald M hw (zr_t hR 138 8 16 (by decide)) rfl ⟨by omega, by omega⟩ dX7_costs_8 ?_
  refine lv_i2l hx hb dX7_costs_9 rfl ?_
  refine lv_lmul hx hb dX7_costs_10 ?_
  refine lv_ldc2 (v := 100) hx hb M.2.2.2.1 (M.2.2.2.2.1.use (tb 860 (by decide +kernel)) rfl) dX7_costs_11 ?_
  refine lv_aload_n hx hb dX7_costs_14 rfl (lv_at hl 0 rfl) ?_
  refine z_getr M hw (zr_t hR 128 7 0 (by decide)) zf_X7_25 (zr_p hR 9 (by decide)) dX7_costs_15 ?_
  refine lv_iload_n hx hb dX7_costs_18 rfl (lv_at hl 1 rfl) ?_
  refine z_iNald M hw (zr_t hR 137 8 16 (by decide)) rfl ⟨by omega, by omega⟩ dX7_costs_19 ?_
  refine lv_i2l hx hb dX7_costs_20 rfl ?_
  refine lv_lmul hx hb dX7_costs_21 ?_
  refine lv_ladd hx hb dX7_costs_22 ?_
  refine lv_lconst (v := 1) hx hb dX7_costs_23 (by decide) ?_
  refine lv_ladd hx hb dX7_costs_24 ?_
  exact z_lret hx hb hr (by rfl) hw.2 hw.1 (Nat.le_of_ble_eq_true rfl) (Nat.le_of_ble_eq_true rfl) dX7_costs_25 hlocks
set_option maxHeartbeats 4000000 in
set_option maxRecDepth 100000 in
theorem c_X7_across (l : Launch) (base : Nat) (D : va_G) (cA : Nat → ClassId) (ad : Nat → Nat) (ty : zTyp) (I : zIt) (L : zLt) (P : zPt) (hR : zref ty P) (k : Nat) (hk : k < 16) (i : Int32) : zMi l base D cA yX7_across cX7_across 3 .int 0 0 0 0 [.ref (ad 128), .int (nI k), .int i] (zW base D cA ad ty I L P) (zAcr I k i) (zW base D cA ad ty I L P) := by
  refine z_start (by decide +kernel) (Nat.le_of_ble_eq_true rfl) fun p e s m below meth c ls M hP hS hl hr hlocks hnm => ?_
  have M : zM p s m c cX7_across RX7 3 base D cA := M
  have hw : zH base D cA s s.heap [] ad ty I L P := ⟨hP, hS⟩
  obtain ⟨hx, hb, -⟩ := id M
  have hl : lv_has ls 3 [(0, .ref (ad 128)), (1, .int (nI k)), (2, .int i)] := hl
  refine lv_aload_n hx hb dX7_across_0 rfl (lv_at hl 0 rfl) ?_
  refine z_getr M hw (zr_t hR 128 7 0 (by decide)) zf_X7_16 (zr_p hR 6 (by decide)) dX7_across_1 ?_
  refine lv_iload_n hx hb dX7_across_4 rfl (lv_at hl 1 rfl) ?_
  refine z_iNald M hw (zr_t hR 134 8 16 (by decide)) rfl ⟨by omega, by omega⟩ dX7_across_5 ?_
  refine lv_iload_n hx hb dX7_across_6 rfl (lv_at hl 2 rfl) ?_
  refine lv_icmp_ne (tgt := 19) hx hb dX7_across_7 (by decide) (fun c1 => ?_) (fun c1 => ?_)
  · skip
    refine lv_aload_n hx hb dX7_across_19 rfl (lv_at hl 0 rfl) ?_
    refine z_getr M hw (zr_t hR 128 7 0 (by decide)) zf_X7_16 (zr_p hR 6 (by decide)) dX7_across_20 ?_
    refine lv_iload_n hx hb dX7_across_23 rfl (lv_at hl 1 rfl) ?_
    refine z_iNald M hw (zr_t hR 134 8 16 (by decide)) rfl ⟨by omega, by omega⟩ dX7_across_24 ?_
    exact z_iret hx hb hr (by unfold zAcr; (try first | rw [if_pos c1] | rw [if_neg c1] | rw [if_neg (fun h => h c1)])) rfl hw.2 hw.1 (Nat.le_of_ble_eq_true rfl) (Nat.le_of_ble_eq_true rfl) dX7_across_25 hlocks
  · skip
    refine lv_aload_n hx hb dX7_across_10 rfl (lv_at hl 0 rfl) ?_
    refine z_getr M hw (zr_t hR 128 7 0 (by decide)) zf_X7_19 (zr_p hR 7 (by decide)) dX7_across_11 ?_
    refine lv_iload_n hx hb dX7_across_14 rfl (lv_at hl 1 rfl) ?_
    refine z_iNald M hw (zr_t hR 135 8 16 (by decide)) rfl ⟨by omega, by omega⟩ dX7_across_15 ?_
    refine lv_goto (tgt := 25) hx hb dX7_across_16 (by decide) ?_
    exact z_iret hx hb hr (by unfold zAcr; (try first | rw [if_pos c1] | rw [if_neg c1] | rw [if_neg (fun h => h c1)])) rfl hw.2 hw.1 (Nat.le_of_ble_eq_true rfl) (Nat.le_of_ble_eq_true rfl) dX7_across_25 hlocks
