set_option maxHeartbeats 4000000 in
set_option maxRecDepth 100000 in
theorem c_X7_findWays (l : Launch) (base : Nat) (D : va_G) (cA : Nat → ClassId) (ad : Nat → Nat) (ty : zTyp) (I : zIt) (L : zLt) (P : zPt) (hR : zref ty P) (ni nc ns nt : Nat) (hbd : zRbd ni nc ns nt) (hV : zRv ni nc ns nt I) (x : Int32) : zMv l base D cA yX7_findWays cX7_findWays 8 1 23 0 0 [.ref (ad 128), .int x] (zW base D cA ad ty I L P) (zW base D cA ad ty (zs I 158 (zGoes I nc)) (zs L 157 (zFar I (L 157) ni nc x)) P) := by
  refine z_start (by decide +kernel) (Nat.le_of_ble_eq_true rfl) fun p e s m below meth c ls M hP hS hl hr hlocks hnm => ?_
  have M : zM p s m c cX7_findWays RX7 8 base D cA := M
  have hw : zH base D cA s s.heap [] ad ty I L P := ⟨hP, hS⟩
  obtain ⟨hx, hb, -⟩ := id M
  have hl : lv_has ls 8 [(0, .ref (ad 128)), (1, .int x)] := hl
  obtain ⟨hb1, hb2, hb3, hb4⟩ := id hbd
  refine lv_iconst (v := 0) hx hb dX7_findWays_0 (by decide) ?_
  refine lv_istore_n (lv' := [(2, .int 0), (0, .ref (ad 128)), (1, .int x)]) hx hb dX7_findWays_1 rfl hl (by decide) rfl (fun ls hl => ?_)
  refine z_loop (ni) (fun (k : Nat) H locs ls => zH base D cA s H locs ad ty I (zs L 157 (zF0 (L 157) x k)) P ∧ lv_has ls 8 [(0, .ref (ad 128)), (1, .int x), (2, .int (nI k))]) 0 ⟨(by rw [zF0_0, zs_id]; exact hw), lv_sub hl [1, 2, 0] rfl⟩ (by omega) (fun k hk_k ih_k H locs ls hI => ?_)
  obtain ⟨hw, hl⟩ := hI
  refine lv_iload_n hx hb dX7_findWays_2 rfl (lv_at hl 2 rfl) ?_
  refine lv_aload_n hx hb dX7_findWays_3 rfl (lv_at hl 0 rfl) ?_
  refine z_geti M hw (zr_t hR 128 7 0 (by decide)) zf_X7_88 dX7_findWays_4 ?_
  refine z_topi (y := nI ni) hV.1.1 ?_
  refine lv_icmp_ge (tgt := 34) hx hb dX7_findWays_7 (by decide) (fun c1 => ?_) (fun c1 => ?_)
  · skip
    have hge : ni = k := Nat.le_antisymm (z_ge (show nI ni ≤ nI k from c1) (by omega) (by omega)) (by omega)
    subst hge
    refine lv_iconst (v := 0) hx hb dX7_findWays_34 (by decide) ?_
    refine lv_istore_n (lv' := [(2, .int 0), (0, .ref (ad 128)), (1, .int x)]) hx hb dX7_findWays_35 rfl hl (by decide) rfl (fun ls hl => ?_)
    refine z_loop (nc) (fun (k : Nat) H locs ls => zH base D cA s H locs ad ty (zs I 158 (zG0 I k)) (zs L 157 (zF0 (L 157) x ni)) P ∧ lv_has ls 8 [(0, .ref (ad 128)), (1, .int x), (2, .int (nI k))]) 0 ⟨(by rw [zG0_0, zs_id]; exact hw), lv_sub hl [1, 2, 0] rfl⟩ (by omega) (fun k hk_k ih_k H locs ls hI => ?_)
    obtain ⟨hw, hl⟩ := hI
    refine lv_iload_n hx hb dX7_findWays_36 rfl (lv_at hl 2 rfl) ?_
    refine lv_aload_n hx hb dX7_findWays_37 rfl (lv_at hl 0 rfl) ?_
    refine z_geti M hw (zr_t hR 128 7 0 (by decide)) zf_X7_95 dX7_findWays_38 ?_
    refine z_topi (y := I 128 5) (by rw [zs_ne _ _ (by omega)]) ?_
    refine z_topi (y := nI nc) hV.1.2.1 ?_
    refine lv_icmp_ge (tgt := 61) hx hb dX7_findWays_41 (by decide) (fun c2 => ?_) (fun c2 => ?_)
    · skip
      have hge : nc = k := Nat.le_antisymm (z_ge (show nI nc ≤ nI k from c2) (by omega) (by omega)) (by omega)
      subst hge
      refine lv_iconst (v := 0) hx hb dX7_findWays_61 (by decide) ?_
      refine lv_istore_n (lv' := [(2, .int 0), (0, .ref (ad 128)), (1, .int x)]) hx hb dX7_findWays_62 rfl hl (by decide) rfl (fun ls hl => ?_)
      refine z_loop (ni) (fun (g : Nat) H locs ls => zH base D cA s H locs ad ty (zs I 158 (zGoes I nc)) (zs L 157 (zRxr I (zGoes I nc) nc (zF0 (L 157) x ni) g)) P ∧ lv_has ls 8 [(0, .ref (ad 128)), (1, .int x), (2, .int (nI g))]) 0 ⟨hw, lv_sub hl [1, 2, 0] rfl⟩ (by omega) (fun g hk_g ih_g H locs ls hI => ?_)
      obtain ⟨hw, hl⟩ := hI
      refine lv_iload_n hx hb dX7_findWays_63 rfl (lv_at hl 2 rfl) ?_
      refine lv_aload_n hx hb dX7_findWays_64 rfl (lv_at hl 0 rfl) ?_
      refine z_geti M hw (zr_t hR 128 7 0 (by decide)) zf_X7_88 dX7_findWays_65 ?_
      refine z_topi (y := I 128 2) (by rw [zs_ne _ _ (by omega)]) ?_
      refine z_topi (y := nI ni) hV.1.1 ?_
      refine lv_icmp_ge (tgt := 204) hx hb dX7_findWays_68 (by decide) (fun c3 => ?_) (fun c3 => ?_)
      · skip
        have hgeg : ni = g := Nat.le_antisymm (z_ge (show nI ni ≤ nI g from c3) (by omega) (by omega)) (by omega)
        subst hgeg
        exact z_vret hx hb hr hw.2 hw.1 (Nat.le_of_ble_eq_true rfl) (Nat.le_of_ble_eq_true rfl) dX7_findWays_204 hlocks
      · skip
        have hltg : g < ni := z_lt (show ¬ nI ni ≤ nI g from c3) (by omega)
        refine lv_iconst (v := 0) hx hb dX7_findWays_71 (by decide) ?_
        refine lv_istore_n (lv' := [(3, .int 0), (0, .ref (ad 128)), (1, .int x), (2, .int (nI g))]) hx hb dX7_findWays_72 rfl hl (by decide) rfl (fun ls hl => ?_)
        refine z_loop (nc) (fun (k : Nat) H locs ls => zH base D cA s H locs ad ty (zs I 158 (zGoes I nc)) (zs L 157 (zRx I (zGoes I nc) (zRxr I (zGoes I nc) nc (zF0 (L 157) x ni) g) k)) P ∧ lv_has ls 8 [(0, .ref (ad 128)), (1, .int x), (2, .int (nI g)), (3, .int (nI k))]) 0 ⟨hw, lv_sub hl [1, 2, 3, 0] rfl⟩ (by omega) (fun k hk_k ih_k H locs ls hI => ?_)
        obtain ⟨hw, hl⟩ := hI
        refine lv_iload_n hx hb dX7_findWays_73 rfl (lv_at hl 3 rfl) ?_
        refine lv_aload_n hx hb dX7_findWays_74 rfl (lv_at hl 0 rfl) ?_
        refine z_geti M hw (zr_t hR 128 7 0 (by decide)) zf_X7_95 dX7_findWays_75 ?_
        refine z_topi (y := I 128 5) (by rw [zs_ne _ _ (by omega)]) ?_
        refine z_topi (y := nI nc) hV.1.2.1 ?_
        refine lv_icmp_ge (tgt := 198) hx hb dX7_findWays_78 (by decide) (fun c4 => ?_) (fun c4 => ?_)
        · skip
          have hge : nc = k := Nat.le_antisymm (z_ge (show nI nc ≤ nI k from c4) (by omega) (by omega)) (by omega)
          subst hge
          refine lv_iinc (v := nI (g + 1)) (lv' := [(2, .int (nI (g + 1))), (0, .ref (ad 128)), (1, .int x), (3, .int (nI nc))]) hx hb dX7_findWays_198 hl (k := 2) rfl (nI_succ _).symm (by decide) rfl (fun ls hl => ?_)
          refine lv_goto (tgt := 63) hx hb dX7_findWays_201 (by decide) ?_
          exact ih_g hltg _ _ _ ⟨hw, lv_sub hl [1, 2, 0] rfl⟩
        · skip
          have hltk : k < nc := z_lt (show ¬ nI nc ≤ nI k from c4) (by omega)
          obtain ⟨⟨a, ha, ea⟩, b, hb0, eb⟩ := zRv_ends hV k hltk
          refine lv_aload_n hx hb dX7_findWays_81 rfl (lv_at hl 0 rfl) ?_
          refine z_getr M hw (zr_t hR 128 7 0 (by decide)) zf_X7_80 (zr_p hR 30 (by decide)) dX7_findWays_82 ?_
          refine lv_iload_n hx hb dX7_findWays_85 rfl (lv_at hl 3 rfl) ?_
          refine z_zNald M hw (zr_t hR 158 10 16 (by decide)) rfl ⟨by omega, by omega⟩ dX7_findWays_86 ?_
          refine z_topi (y := (zGoes I nc) k) (by rw [zs_self]) ?_
          refine lv_if_eq (tgt := 192) hx hb dX7_findWays_87 (by decide) (fun c5 => ?_) (fun c5 => ?_)
          · skip
            refine lv_iinc (v := nI (k + 1)) (lv' := [(3, .int (nI (k + 1))), (0, .ref (ad 128)), (1, .int x), (2, .int (nI g))]) hx hb dX7_findWays_192 hl (k := 3) rfl (nI_succ _).symm (by decide) rfl (fun ls hl => ?_)
            refine lv_goto (tgt := 73) hx hb dX7_findWays_195 (by decide) ?_
            exact ih_k hltk _ _ _ ⟨(by rw [show zRx I (zGoes I nc) (zRxr I (zGoes I nc) nc (zF0 (L 157) x ni) g) (k + 1) = zRx1 I (zGoes I nc) (zRx I (zGoes I nc) (zRxr I (zGoes I nc) nc (zF0 (L 157) x ni) g) k) k from rfl, zRx1, if_pos c5]; exact hw), lv_sub hl [1, 2, 3, 0] rfl⟩
          · skip
            refine lv_aload_n hx hb dX7_findWays_90 rfl (lv_at hl 0 rfl) ?_
            refine z_getr M hw (zr_t hR 128 7 0 (by decide)) zf_X7_77 (zr_p hR 29 (by decide)) dX7_findWays_91 ?_
            refine lv_aload_n hx hb dX7_findWays_94 rfl (lv_at hl 0 rfl) ?_
            refine z_getr M hw (zr_t hR 128 7 0 (by decide)) zf_X7_16 (zr_p hR 6 (by decide)) dX7_findWays_95 ?_
            refine lv_iload_n hx hb dX7_findWays_98 rfl (lv_at hl 3 rfl) ?_
            refine z_iNald M hw (zr_t hR 134 8 16 (by decide)) rfl ⟨by omega, by omega⟩ dX7_findWays_99 ?_
            refine z_topi (y := I 134 k) (by rw [zs_ne _ _ (by omega)]) ?_
            refine z_topi (y := nI a) ea ?_
            refine z_lNald M hw (zr_t hR 157 9 10 (by decide)) rfl ⟨by omega, by omega⟩ dX7_findWays_100 ?_
            refine z_topl (y := (zRx I (zGoes I nc) (zRxr I (zGoes I nc) nc (zF0 (L 157) x ni) g) k) a) (by rw [zs_self]) ?_
            refine lv_lstore (lv' := [(4, .long ((zRx I (zGoes I nc) (zRxr I (zGoes I nc) nc (zF0 (L 157) x ni) g) k) a)), (0, .ref (ad 128)), (1, .int x), (2, .int (nI g)), (3, .int (nI k))]) hx hb dX7_findWays_101 hl (by decide) rfl (fun ls hl => ?_)
            refine lv_aload_n hx hb dX7_findWays_103 rfl (lv_at hl 1 rfl) ?_
            refine z_getr M hw (zr_t hR 128 7 0 (by decide)) zf_X7_77 (zr_p hR 29 (by decide)) dX7_findWays_104 ?_
            refine lv_aload_n hx hb dX7_findWays_107 rfl (lv_at hl 1 rfl) ?_
            refine z_getr M hw (zr_t hR 128 7 0 (by decide)) zf_X7_19 (zr_p hR 7 (by decide)) dX7_findWays_108 ?_
            refine lv_iload_n hx hb dX7_findWays_111 rfl (lv_at hl 4 rfl) ?_
            refine z_iNald M hw (zr_t hR 135 8 16 (by decide)) rfl ⟨by omega, by omega⟩ dX7_findWays_112 ?_
            refine z_topi (y := I 135 k) (by rw [zs_ne _ _ (by omega)]) ?_
            refine z_topi (y := nI b) eb ?_
            refine z_lNald M hw (zr_t hR 157 9 10 (by decide)) rfl ⟨by omega, by omega⟩ dX7_findWays_113 ?_
            refine z_topl (y := (zRx I (zGoes I nc) (zRxr I (zGoes I nc) nc (zF0 (L 157) x ni) g) k) b) (by rw [zs_self]) ?_
            refine lv_lstore (lv' := [(6, .long ((zRx I (zGoes I nc) (zRxr I (zGoes I nc) nc (zF0 (L 157) x ni) g) k) b)), (4, .long ((zRx I (zGoes I nc) (zRxr I (zGoes I nc) nc (zF0 (L 157) x ni) g) k) a)), (0, .ref (ad 128)), (1, .int x), (2, .int (nI g)), (3, .int (nI k))]) hx hb dX7_findWays_114 hl (by decide) rfl (fun ls hl => ?_)
            refine lv_aload_n hx hb dX7_findWays_116 rfl (lv_at hl 2 rfl) ?_
            refine z_getr M hw (zr_t hR 128 7 0 (by decide)) zf_X7_77 (zr_p hR 29 (by decide)) dX7_findWays_117 ?_
            refine lv_aload_n hx hb dX7_findWays_120 rfl (lv_at hl 2 rfl) ?_
            refine z_getr M hw (zr_t hR 128 7 0 (by decide)) zf_X7_16 (zr_p hR 6 (by decide)) dX7_findWays_121 ?_
            refine lv_iload_n hx hb dX7_findWays_124 rfl (lv_at hl 5 rfl) ?_
            refine z_iNald M hw (zr_t hR 134 8 16 (by decide)) rfl ⟨by omega, by omega⟩ dX7_findWays_125 ?_
            refine z_topi (y := I 134 k) (by rw [zs_ne _ _ (by omega)]) ?_
            refine z_topi (y := nI a) ea ?_
            refine lv_lload hx hb dX7_findWays_126 (lv_at hl 0 rfl) ?_
            refine lv_aload_n hx hb dX7_findWays_128 rfl (lv_at hl 2 rfl) ?_
            refine lv_iload_n hx hb dX7_findWays_129 rfl (lv_at hl 5 rfl) ?_
            refine z_cl0 (z_runV (As := [.int (nI k)]) (rest := [.long ((zRx I (zGoes I nc) (zRxr I (zGoes I nc) nc (zF0 (L 157) x ni) g) k) b), .int (nI a), .ref (ad 157)]) M hw (zr_t hR 128 7 0 (by decide)) zc_X7_155 (c_X7_costs l base D cA ad ty (zs I 158 (zGoes I nc)) (zs L 157 (zRx I (zGoes I nc) (zRxr I (zGoes I nc) nc (zF0 (L 157) x ni) g) k)) P hR k (by omega)) hw.1 rfl rfl ⟨Nat.le_of_ble_eq_true rfl, Nat.le_of_ble_eq_true rfl⟩ ⟨Nat.le_of_ble_eq_true rfl, Nat.le_of_ble_eq_true rfl⟩ hl.1 (Nat.le_of_ble_eq_true rfl) dX7_findWays_130) hw (fun H locs hw => ?_)
            rw [zRcost_c (I := I) (zs_ne _ _ (by omega)) (zs_ne _ _ (by omega))]
            refine lv_ladd hx hb dX7_findWays_133 ?_
            refine lv_lload hx hb dX7_findWays_134 (lv_at hl 1 rfl) ?_
            refine W.lcmp hx hb dX7_findWays_136 ?_
            refine lv_if_ge (tgt := 151) hx hb dX7_findWays_137 (by decide) (fun c6 => ?_) (fun c6 => ?_)
            · skip
              refine lv_lload hx hb dX7_findWays_151 (lv_at hl 1 rfl) ?_
              refine z_lNast M hw (zr_t hR 157 9 10 (by decide)) rfl ⟨by omega, by omega⟩ dX7_findWays_153 (fun H locs hw => ?_)
              refine lv_aload_n hx hb dX7_findWays_154 rfl (lv_at hl 2 rfl) ?_
              refine z_getr M hw (zr_t hR 128 7 0 (by decide)) zf_X7_77 (zr_p hR 29 (by decide)) dX7_findWays_155 ?_
              refine lv_aload_n hx hb dX7_findWays_158 rfl (lv_at hl 2 rfl) ?_
              refine z_getr M hw (zr_t hR 128 7 0 (by decide)) zf_X7_19 (zr_p hR 7 (by decide)) dX7_findWays_159 ?_
              refine lv_iload_n hx hb dX7_findWays_162 rfl (lv_at hl 5 rfl) ?_
              refine z_iNald M hw (zr_t hR 135 8 16 (by decide)) rfl ⟨by omega, by omega⟩ dX7_findWays_163 ?_
              refine z_topi (y := I 135 k) (by rw [zs_ne _ _ (by omega)]) ?_
              refine z_topi (y := nI b) eb ?_
              refine lv_lload hx hb dX7_findWays_164 (lv_at hl 1 rfl) ?_
              refine lv_aload_n hx hb dX7_findWays_166 rfl (lv_at hl 2 rfl) ?_
              refine lv_iload_n hx hb dX7_findWays_167 rfl (lv_at hl 5 rfl) ?_
              refine z_cl0 (z_runV (As := [.int (nI k)]) (rest := [.long ((zRx I (zGoes I nc) (zRxr I (zGoes I nc) nc (zF0 (L 157) x ni) g) k) a), .int (nI b), .ref (ad 157)]) M hw (zr_t hR 128 7 0 (by decide)) zc_X7_155 (c_X7_costs l base D cA ad ty (zs I 158 (zGoes I nc)) (zu (zs L 157 (zRx I (zGoes I nc) (zRxr I (zGoes I nc) nc (zF0 (L 157) x ni) g) k)) 157 a ((zRx I (zGoes I nc) (zRxr I (zGoes I nc) nc (zF0 (L 157) x ni) g) k) a)) P hR k (by omega)) hw.1 rfl rfl ⟨Nat.le_of_ble_eq_true rfl, Nat.le_of_ble_eq_true rfl⟩ ⟨Nat.le_of_ble_eq_true rfl, Nat.le_of_ble_eq_true rfl⟩ hl.1 (Nat.le_of_ble_eq_true rfl) dX7_findWays_168) hw (fun H locs hw => ?_)
              rw [zRcost_c (I := I) (zs_ne _ _ (by omega)) (zs_ne _ _ (by omega))]
              refine lv_ladd hx hb dX7_findWays_171 ?_
              refine lv_lload hx hb dX7_findWays_172 (lv_at hl 0 rfl) ?_
              refine W.lcmp hx hb dX7_findWays_174 ?_
              refine lv_if_ge (tgt := 189) hx hb dX7_findWays_175 (by decide) (fun c7 => ?_) (fun c7 => ?_)
              · skip
                refine lv_lload hx hb dX7_findWays_189 (lv_at hl 0 rfl) ?_
                refine z_lNast M hw (zr_t hR 157 9 10 (by decide)) rfl ⟨by omega, by omega⟩ dX7_findWays_191 (fun H locs hw => ?_)
                refine lv_iinc (v := nI (k + 1)) (lv' := [(3, .int (nI (k + 1))), (6, .long ((zRx I (zGoes I nc) (zRxr I (zGoes I nc) nc (zF0 (L 157) x ni) g) k) b)), (4, .long ((zRx I (zGoes I nc) (zRxr I (zGoes I nc) nc (zF0 (L 157) x ni) g) k) a)), (0, .ref (ad 128)), (1, .int x), (2, .int (nI g))]) hx hb dX7_findWays_192 hl (k := 5) rfl (nI_succ _).symm (by decide) rfl (fun ls hl => ?_)
                refine lv_goto (tgt := 73) hx hb dX7_findWays_195 (by decide) ?_
                exact ih_k hltk _ _ _ ⟨(by rw [zu_zs, zu_zs] at hw; rw [show zRx I (zGoes I nc) (zRxr I (zGoes I nc) nc (zF0 (L 157) x ni) g) (k + 1) = zRx1 I (zGoes I nc) (zRx I (zGoes I nc) (zRxr I (zGoes I nc) nc (zF0 (L 157) x ni) g) k) k from rfl, zRx1, if_neg c5, ea, eb, nI_clamp (show a < 2 ^ 31 by omega), nI_clamp (show b < 2 ^ 31 by omega)]; (try first | rw [if_pos c6] | rw [if_neg c6]); (try first | rw [if_pos c7] | rw [if_neg c7]); exact hw), lv_sub hl [3, 4, 5, 0] rfl⟩
              · skip
                refine lv_lload hx hb dX7_findWays_178 (lv_at hl 1 rfl) ?_
                refine lv_aload_n hx hb dX7_findWays_180 rfl (lv_at hl 2 rfl) ?_
                refine lv_iload_n hx hb dX7_findWays_181 rfl (lv_at hl 5 rfl) ?_
                refine z_cl0 (z_runV (As := [.int (nI k)]) (rest := [.long ((zRx I (zGoes I nc) (zRxr I (zGoes I nc) nc (zF0 (L 157) x ni) g) k) a), .int (nI b), .ref (ad 157)]) M hw (zr_t hR 128 7 0 (by decide)) zc_X7_155 (c_X7_costs l base D cA ad ty (zs I 158 (zGoes I nc)) (zu (zs L 157 (zRx I (zGoes I nc) (zRxr I (zGoes I nc) nc (zF0 (L 157) x ni) g) k)) 157 a ((zRx I (zGoes I nc) (zRxr I (zGoes I nc) nc (zF0 (L 157) x ni) g) k) a)) P hR k (by omega)) hw.1 rfl rfl ⟨Nat.le_of_ble_eq_true rfl, Nat.le_of_ble_eq_true rfl⟩ ⟨Nat.le_of_ble_eq_true rfl, Nat.le_of_ble_eq_true rfl⟩ hl.1 (Nat.le_of_ble_eq_true rfl) dX7_findWays_182) hw (fun H locs hw => ?_)
                rw [zRcost_c (I := I) (zs_ne _ _ (by omega)) (zs_ne _ _ (by omega))]
                refine lv_ladd hx hb dX7_findWays_185 ?_
                refine lv_goto (tgt := 191) hx hb dX7_findWays_186 (by decide) ?_
                refine z_lNast M hw (zr_t hR 157 9 10 (by decide)) rfl ⟨by omega, by omega⟩ dX7_findWays_191 (fun H locs hw => ?_)
                refine lv_iinc (v := nI (k + 1)) (lv' := [(3, .int (nI (k + 1))), (6, .long ((zRx I (zGoes I nc) (zRxr I (zGoes I nc) nc (zF0 (L 157) x ni) g) k) b)), (4, .long ((zRx I (zGoes I nc) (zRxr I (zGoes I nc) nc (zF0 (L 157) x ni) g) k) a)), (0, .ref (ad 128)), (1, .int x), (2, .int (nI g))]) hx hb dX7_findWays_192 hl (k := 5) rfl (nI_succ _).symm (by decide) rfl (fun ls hl => ?_)
                refine lv_goto (tgt := 73) hx hb dX7_findWays_195 (by decide) ?_
                exact ih_k hltk _ _ _ ⟨(by rw [zu_zs, zu_zs] at hw; rw [show zRx I (zGoes I nc) (zRxr I (zGoes I nc) nc (zF0 (L 157) x ni) g) (k + 1) = zRx1 I (zGoes I nc) (zRx I (zGoes I nc) (zRxr I (zGoes I nc) nc (zF0 (L 157) x ni) g) k) k from rfl, zRx1, if_neg c5, ea, eb, nI_clamp (show a < 2 ^ 31 by omega), nI_clamp (show b < 2 ^ 31 by omega)]; (try first | rw [if_pos c6] | rw [if_neg c6]); (try first | rw [if_pos c7] | rw [if_neg c7]); exact hw), lv_sub hl [3, 4, 5, 0] rfl⟩
            · skip
              refine lv_lload hx hb dX7_findWays_140 (lv_at hl 0 rfl) ?_
              refine lv_aload_n hx hb dX7_findWays_142 rfl (lv_at hl 2 rfl) ?_
              refine lv_iload_n hx hb dX7_findWays_143 rfl (lv_at hl 5 rfl) ?_
              refine z_cl0 (z_runV (As := [.int (nI k)]) (rest := [.long ((zRx I (zGoes I nc) (zRxr I (zGoes I nc) nc (zF0 (L 157) x ni) g) k) b), .int (nI a), .ref (ad 157)]) M hw (zr_t hR 128 7 0 (by decide)) zc_X7_155 (c_X7_costs l base D cA ad ty (zs I 158 (zGoes I nc)) (zs L 157 (zRx I (zGoes I nc) (zRxr I (zGoes I nc) nc (zF0 (L 157) x ni) g) k)) P hR k (by omega)) hw.1 rfl rfl ⟨Nat.le_of_ble_eq_true rfl, Nat.le_of_ble_eq_true rfl⟩ ⟨Nat.le_of_ble_eq_true rfl, Nat.le_of_ble_eq_true rfl⟩ hl.1 (Nat.le_of_ble_eq_true rfl) dX7_findWays_144) hw (fun H locs hw => ?_)
              rw [zRcost_c (I := I) (zs_ne _ _ (by omega)) (zs_ne _ _ (by omega))]
              refine lv_ladd hx hb dX7_findWays_147 ?_
              refine lv_goto (tgt := 153) hx hb dX7_findWays_148 (by decide) ?_
              refine z_lNast M hw (zr_t hR 157 9 10 (by decide)) rfl ⟨by omega, by omega⟩ dX7_findWays_153 (fun H locs hw => ?_)
              refine lv_aload_n hx hb dX7_findWays_154 rfl (lv_at hl 2 rfl) ?_
              refine z_getr M hw (zr_t hR 128 7 0 (by decide)) zf_X7_77 (zr_p hR 29 (by decide)) dX7_findWays_155 ?_
              refine lv_aload_n hx hb dX7_findWays_158 rfl (lv_at hl 2 rfl) ?_
              refine z_getr M hw (zr_t hR 128 7 0 (by decide)) zf_X7_19 (zr_p hR 7 (by decide)) dX7_findWays_159 ?_
              refine lv_iload_n hx hb dX7_findWays_162 rfl (lv_at hl 5 rfl) ?_
              refine z_iNald M hw (zr_t hR 135 8 16 (by decide)) rfl ⟨by omega, by omega⟩ dX7_findWays_163 ?_
              refine z_topi (y := I 135 k) (by rw [zs_ne _ _ (by omega)]) ?_
              refine z_topi (y := nI b) eb ?_
              refine lv_lload hx hb dX7_findWays_164 (lv_at hl 1 rfl) ?_
              refine lv_aload_n hx hb dX7_findWays_166 rfl (lv_at hl 2 rfl) ?_
              refine lv_iload_n hx hb dX7_findWays_167 rfl (lv_at hl 5 rfl) ?_
              refine z_cl0 (z_runV (As := [.int (nI k)]) (rest := [.long ((zRx I (zGoes I nc) (zRxr I (zGoes I nc) nc (zF0 (L 157) x ni) g) k) a), .int (nI b), .ref (ad 157)]) M hw (zr_t hR 128 7 0 (by decide)) zc_X7_155 (c_X7_costs l base D cA ad ty (zs I 158 (zGoes I nc)) (zu (zs L 157 (zRx I (zGoes I nc) (zRxr I (zGoes I nc) nc (zF0 (L 157) x ni) g) k)) 157 a (((zRx I (zGoes I nc) (zRxr I (zGoes I nc) nc (zF0 (L 157) x ni) g) k) b) + (zRcost I k))) P hR k (by omega)) hw.1 rfl rfl ⟨Nat.le_of_ble_eq_true rfl, Nat.le_of_ble_eq_true rfl⟩ ⟨Nat.le_of_ble_eq_true rfl, Nat.le_of_ble_eq_true rfl⟩ hl.1 (Nat.le_of_ble_eq_true rfl) dX7_findWays_168) hw (fun H locs hw => ?_)
              rw [zRcost_c (I := I) (zs_ne _ _ (by omega)) (zs_ne _ _ (by omega))]
              refine lv_ladd hx hb dX7_findWays_171 ?_
              refine lv_lload hx hb dX7_findWays_172 (lv_at hl 0 rfl) ?_
              refine W.lcmp hx hb dX7_findWays_174 ?_
              refine lv_if_ge (tgt := 189) hx hb dX7_findWays_175 (by decide) (fun c8 => ?_) (fun c8 => ?_)
              · skip
                refine lv_lload hx hb dX7_findWays_189 (lv_at hl 0 rfl) ?_
                refine z_lNast M hw (zr_t hR 157 9 10 (by decide)) rfl ⟨by omega, by omega⟩ dX7_findWays_191 (fun H locs hw => ?_)
                refine lv_iinc (v := nI (k + 1)) (lv' := [(3, .int (nI (k + 1))), (6, .long ((zRx I (zGoes I nc) (zRxr I (zGoes I nc) nc (zF0 (L 157) x ni) g) k) b)), (4, .long ((zRx I (zGoes I nc) (zRxr I (zGoes I nc) nc (zF0 (L 157) x ni) g) k) a)), (0, .ref (ad 128)), (1, .int x), (2, .int (nI g))]) hx hb dX7_findWays_192 hl (k := 5) rfl (nI_succ _).symm (by decide) rfl (fun ls hl => ?_)
                refine lv_goto (tgt := 73) hx hb dX7_findWays_195 (by decide) ?_
                exact ih_k hltk _ _ _ ⟨(by rw [zu_zs, zu_zs] at hw; rw [show zRx I (zGoes I nc) (zRxr I (zGoes I nc) nc (zF0 (L 157) x ni) g) (k + 1) = zRx1 I (zGoes I nc) (zRx I (zGoes I nc) (zRxr I (zGoes I nc) nc (zF0 (L 157) x ni) g) k) k from rfl, zRx1, if_neg c5, ea, eb, nI_clamp (show a < 2 ^ 31 by omega), nI_clamp (show b < 2 ^ 31 by omega)]; (try first | rw [if_pos c6] | rw [if_neg c6]); (try first | rw [if_pos c8] | rw [if_neg c8]); exact hw), lv_sub hl [3, 4, 5, 0] rfl⟩
              · skip
                refine lv_lload hx hb dX7_findWays_178 (lv_at hl 1 rfl) ?_
                refine lv_aload_n hx hb dX7_findWays_180 rfl (lv_at hl 2 rfl) ?_
                refine lv_iload_n hx hb dX7_findWays_181 rfl (lv_at hl 5 rfl) ?_
                refine z_cl0 (z_runV (As := [.int (nI k)]) (rest := [.long ((zRx I (zGoes I nc) (zRxr I (zGoes I nc) nc (zF0 (L 157) x ni) g) k) a), .int (nI b), .ref (ad 157)]) M hw (zr_t hR 128 7 0 (by decide)) zc_X7_155 (c_X7_costs l base D cA ad ty (zs I 158 (zGoes I nc)) (zu (zs L 157 (zRx I (zGoes I nc) (zRxr I (zGoes I nc) nc (zF0 (L 157) x ni) g) k)) 157 a (((zRx I (zGoes I nc) (zRxr I (zGoes I nc) nc (zF0 (L 157) x ni) g) k) b) + (zRcost I k))) P hR k (by omega)) hw.1 rfl rfl ⟨Nat.le_of_ble_eq_true rfl, Nat.le_of_ble_eq_true rfl⟩ ⟨Nat.le_of_ble_eq_true rfl, Nat.le_of_ble_eq_true rfl⟩ hl.1 (Nat.le_of_ble_eq_true rfl) dX7_findWays_182) hw (fun H locs hw => ?_)
                rw [zRcost_c (I := I) (zs_ne _ _ (by omega)) (zs_ne _ _ (by omega))]
                refine lv_ladd hx hb dX7_findWays_185 ?_
                refine lv_goto (tgt := 191) hx hb dX7_findWays_186 (by decide) ?_
                refine z_lNast M hw (zr_t hR 157 9 10 (by decide)) rfl ⟨by omega, by omega⟩ dX7_findWays_191 (fun H locs hw => ?_)
                refine lv_iinc (v := nI (k + 1)) (lv' := [(3, .int (nI (k + 1))), (6, .long ((zRx I (zGoes I nc) (zRxr I (zGoes I nc) nc (zF0 (L 157) x ni) g) k) b)), (4, .long ((zRx I (zGoes I nc) (zRxr I (zGoes I nc) nc (zF0 (L 157) x ni) g) k) a)), (0, .ref (ad 128)), (1, .int x), (2, .int (nI g))]) hx hb dX7_findWays_192 hl (k := 5) rfl (nI_succ _).symm (by decide) rfl (fun ls hl => ?_)
                refine lv_goto (tgt := 73) hx hb dX7_findWays_195 (by decide) ?_
                exact ih_k hltk _ _ _ ⟨(by rw [zu_zs, zu_zs] at hw; rw [show zRx I (zGoes I nc) (zRxr I (zGoes I nc) nc (zF0 (L 157) x ni) g) (k + 1) = zRx1 I (zGoes I nc) (zRx I (zGoes I nc) (zRxr I (zGoes I nc) nc (zF0 (L 157) x ni) g) k) k from rfl, zRx1, if_neg c5, ea, eb, nI_clamp (show a < 2 ^ 31 by omega), nI_clamp (show b < 2 ^ 31 by omega)]; (try first | rw [if_pos c6] | rw [if_neg c6]); (try first | rw [if_pos c8] | rw [if_neg c8]); exact hw), lv_sub hl [3, 4, 5, 0] rfl⟩
    · skip
      have hlt : k < nc := z_lt (show ¬ nI nc ≤ nI k from c2) (by omega)
      refine lv_aload_n hx hb dX7_findWays_44 rfl (lv_at hl 0 rfl) ?_
      refine z_getr M hw (zr_t hR 128 7 0 (by decide)) zf_X7_80 (zr_p hR 30 (by decide)) dX7_findWays_45 ?_
      refine lv_iload_n hx hb dX7_findWays_48 rfl (lv_at hl 2 rfl) ?_
      refine lv_aload_n hx hb dX7_findWays_49 rfl (lv_at hl 0 rfl) ?_
      refine lv_iload_n hx hb dX7_findWays_50 rfl (lv_at hl 2 rfl) ?_
      refine z_ci0 (z_runV (As := [.int (nI k)]) (rest := [.int (nI k), .ref (ad 158)]) M hw (zr_t hR 128 7 0 (by decide)) zc_X7_152 (c_X7_doesWork l base D cA ad ty (zs I 158 (zG0 I k)) (zs L 157 (zF0 (L 157) x ni)) P hR (by rw [zRn_eq (show (zs I 158 (zG0 I k)) 128 11 = I 128 11 from congrFun (zs_ne _ _ (by omega)) 11), (show (zs I 158 (zG0 I k)) 128 11 = I 128 11 from congrFun (zs_ne _ _ (by omega)) 11)]; exact hV.2.1.1) (by rw [zRn_eq (show (zs I 158 (zG0 I k)) 128 11 = I 128 11 from congrFun (zs_ne _ _ (by omega)) 11)]; exact hV.2.1.2) (nI k)) hw.1 rfl rfl ⟨Nat.le_of_ble_eq_true rfl, Nat.le_of_ble_eq_true rfl⟩ ⟨Nat.le_of_ble_eq_true rfl, Nat.le_of_ble_eq_true rfl⟩ hl.1 (Nat.le_of_ble_eq_true rfl) dX7_findWays_51) hw (fun H locs hw => ?_)
      rw [zDwb_c (I := I) (show (zs I 158 (zG0 I k)) 128 11 = I 128 11 from congrFun (zs_ne _ _ (by omega)) 11) (zs_ne _ _ (by omega))]
      refine z_zNast M hw (zr_t hR 158 10 16 (by decide)) rfl ⟨by omega, by omega⟩ (zb_nb _) dX7_findWays_54 (fun H locs hw => ?_)
      refine lv_iinc (v := nI (k + 1)) (lv' := [(2, .int (nI (k + 1))), (0, .ref (ad 128)), (1, .int x)]) hx hb dX7_findWays_55 hl (k := 2) rfl (nI_succ _).symm (by decide) rfl (fun ls hl => ?_)
      refine lv_goto (tgt := 36) hx hb dX7_findWays_58 (by decide) ?_
      exact ih_k hlt _ _ _ ⟨(by rw [zu_zs, zG0_s] at hw; exact hw), lv_sub hl [1, 2, 0] rfl⟩
  · skip
    have hlt : k < ni := z_lt (show ¬ nI ni ≤ nI k from c1) (by omega)
    refine lv_aload_n hx hb dX7_findWays_10 rfl (lv_at hl 0 rfl) ?_
    refine z_getr M hw (zr_t hR 128 7 0 (by decide)) zf_X7_77 (zr_p hR 29 (by decide)) dX7_findWays_11 ?_
    refine lv_iload_n hx hb dX7_findWays_14 rfl (lv_at hl 2 rfl) ?_
    refine lv_iload_n hx hb dX7_findWays_15 rfl (lv_at hl 2 rfl) ?_
    refine lv_iload_n hx hb dX7_findWays_16 rfl (lv_at hl 1 rfl) ?_
    refine lv_icmp_ne (tgt := 24) hx hb dX7_findWays_17 (by decide) (fun c9 => ?_) (fun c9 => ?_)
    · skip
      refine lv_ldc2 (v := 1000000000000000) hx hb M.2.2.2.1 (M.2.2.2.2.1.use (tb 850 (by decide +kernel)) rfl) dX7_findWays_24 ?_
      refine z_lNast M hw (zr_t hR 157 9 10 (by decide)) rfl ⟨by omega, by omega⟩ dX7_findWays_27 (fun H locs hw => ?_)
      refine lv_iinc (v := nI (k + 1)) (lv' := [(2, .int (nI (k + 1))), (0, .ref (ad 128)), (1, .int x)]) hx hb dX7_findWays_28 hl (k := 2) rfl (nI_succ _).symm (by decide) rfl (fun ls hl => ?_)
      refine lv_goto (tgt := 2) hx hb dX7_findWays_31 (by decide) ?_
      exact ih_k hlt _ _ _ ⟨(by rw [zu_zs] at hw; rw [← zF0_s]; (try first | rw [if_pos c9] | rw [if_neg c9]); exact hw), lv_sub hl [1, 2, 0] rfl⟩
    · skip
      refine lv_lconst (v := 0) hx hb dX7_findWays_20 (by decide) ?_
      refine lv_goto (tgt := 27) hx hb dX7_findWays_21 (by decide) ?_
      refine z_lNast M hw (zr_t hR 157 9 10 (by decide)) rfl ⟨by omega, by omega⟩ dX7_findWays_27 (fun H locs hw => ?_)
      refine lv_iinc (v := nI (k + 1)) (lv' := [(2, .int (nI (k + 1))), (0, .ref (ad 128)), (1, .int x)]) hx hb dX7_findWays_28 hl (k := 2) rfl (nI_succ _).symm (by decide) rfl (fun ls hl => ?_)
      refine lv_goto (tgt := 2) hx hb dX7_findWays_31 (by decide) ?_
      exact ih_k hlt _ _ _ ⟨(by rw [zu_zs] at hw; rw [← zF0_s]; (try first | rw [if_pos c9] | rw [if_neg c9]); exact hw), lv_sub hl [1, 2, 0] rfl⟩
set_option maxHeartbeats 4000000 in
set_option maxRecDepth 100000 in
theorem c_X7_next (l : Launch) (base : Nat) (D : va_G) (cA : Nat → ClassId) (ad : Nat → Nat) (ty : zTyp) (I : zIt) (L : zLt) (P : zPt) (hR : zref ty P) (nc u : Nat) (hu : u < 10) (hn : I 128 5 = nI nc) (hnc : nc ≤ 16) (hE : zRends I nc) : zMi l base D cA yX7_next cX7_next 4 .int 1 22 0 0 [.ref (ad 128), .int (nI u)] (zW base D cA ad ty I L P) (zoi (zNx I (I 158) (L 157) u nc)) (zW base D cA ad ty I L P) := by
  refine z_start (by decide +kernel) (Nat.le_of_ble_eq_true rfl) fun p e s m below meth c ls M hP hS hl hr hlocks hnm => ?_
  have M : zM p s m c cX7_next RX7 4 base D cA := M
  have hw : zH base D cA s s.heap [] ad ty I L P := ⟨hP, hS⟩
  obtain ⟨hx, hb, -⟩ := id M
  have hl : lv_has ls 4 [(0, .ref (ad 128)), (1, .int (nI u))] := hl
  refine lv_iconst (v := 0) hx hb dX7_next_0 (by decide) ?_
  refine lv_istore_n (lv' := [(2, .int 0), (0, .ref (ad 128)), (1, .int (nI u))]) hx hb dX7_next_1 rfl hl (by decide) rfl (fun ls hl => ?_)
  refine z_loop (nc) (fun (k : Nat) H locs ls => (∀ j, j < k → zNxb I (I 158) (L 157) u j = false) ∧ zH base D cA s H locs ad ty I L P ∧ lv_has ls 4 [(0, .ref (ad 128)), (1, .int (nI u)), (2, .int (nI k))]) 0 ⟨(fun j hj => absurd hj (by omega)), hw, lv_sub hl [1, 2, 0] rfl⟩ (by omega) (fun k hk_k ih_k H locs ls hI => ?_)
  obtain ⟨hno, hw, hl⟩ := hI
  refine lv_iload_n hx hb dX7_next_2 rfl (lv_at hl 2 rfl) ?_
  refine lv_aload_n hx hb dX7_next_3 rfl (lv_at hl 0 rfl) ?_
  refine z_geti M hw (zr_t hR 128 7 0 (by decide)) zf_X7_95 dX7_next_4 ?_
  refine z_topi (y := nI nc) hn ?_
  refine lv_icmp_ge (tgt := 95) hx hb dX7_next_7 (by decide) (fun c1 => ?_) (fun c1 => ?_)
  · skip
    have hge : nc = k := Nat.le_antisymm (z_ge (show nI nc ≤ nI k from c1) (by omega) (by omega)) (by omega)
    subst hge
    refine lv_iconst (v := (-1)) hx hb dX7_next_95 (by decide) ?_
    exact z_iret hx hb hr (by unfold zNx; rw [zfst_none hno]; rfl) rfl hw.2 hw.1 (Nat.le_of_ble_eq_true rfl) (Nat.le_of_ble_eq_true rfl) dX7_next_96 hlocks
  · skip
    have hlt : k < nc := z_lt (show ¬ nI nc ≤ nI k from c1) (by omega)
    refine lv_aload_n hx hb dX7_next_10 rfl (lv_at hl 0 rfl) ?_
    refine z_getr M hw (zr_t hR 128 7 0 (by decide)) zf_X7_16 (zr_p hR 6 (by decide)) dX7_next_11 ?_
    refine lv_iload_n hx hb dX7_next_14 rfl (lv_at hl 2 rfl) ?_
    refine z_iNald M hw (zr_t hR 134 8 16 (by decide)) rfl ⟨by omega, by omega⟩ dX7_next_15 ?_
    refine lv_iload_n hx hb dX7_next_16 rfl (lv_at hl 1 rfl) ?_
    refine lv_icmp_eq (tgt := 30) hx hb dX7_next_17 (by decide) (fun c2 => ?_) (fun c2 => ?_)
    · skip
      refine lv_iconst (v := 1) hx hb dX7_next_30 (by decide) ?_
      refine lv_goto (tgt := 35) hx hb dX7_next_31 (by decide) ?_
      refine lv_istore_n (lv' := [(3, .int 1), (0, .ref (ad 128)), (1, .int (nI u)), (2, .int (nI k))]) hx hb dX7_next_35 rfl hl (by decide) rfl (fun ls hl => ?_)
      refine lv_aload_n hx hb dX7_next_36 rfl (lv_at hl 1 rfl) ?_
      refine z_getr M hw (zr_t hR 128 7 0 (by decide)) zf_X7_80 (zr_p hR 30 (by decide)) dX7_next_37 ?_
      refine lv_iload_n hx hb dX7_next_40 rfl (lv_at hl 3 rfl) ?_
      refine z_zNald M hw (zr_t hR 158 10 16 (by decide)) rfl ⟨by omega, by omega⟩ dX7_next_41 ?_
      refine lv_if_eq (tgt := 89) hx hb dX7_next_42 (by decide) (fun c3 => ?_) (fun c3 => ?_)
      · skip
        refine lv_iinc (v := nI (k + 1)) (lv' := [(2, .int (nI (k + 1))), (3, .int 1), (0, .ref (ad 128)), (1, .int (nI u))]) hx hb dX7_next_89 hl (k := 3) rfl (nI_succ _).symm (by decide) rfl (fun ls hl => ?_)
        refine lv_goto (tgt := 2) hx hb dX7_next_92 (by decide) ?_
        exact ih_k hlt _ _ _ ⟨(fun j hj => by
              rcases Nat.lt_or_ge j k with q | q
              · exact hno j q
              · have e : j = k := by omega
                subst e; simp [zNxb, c2, c3]), hw, lv_sub hl [2, 3, 0] rfl⟩
      · skip
        refine lv_iload_n hx hb dX7_next_45 rfl (lv_at hl 0 rfl) ?_
        refine lv_if_eq (tgt := 89) hx hb dX7_next_46 (by decide) (fun c4 => ?_) (fun c4 => ?_)
        · exact absurd c4 (by decide)
        refine lv_aload_n hx hb dX7_next_49 rfl (lv_at hl 1 rfl) ?_
        refine z_getr M hw (zr_t hR 128 7 0 (by decide)) zf_X7_77 (zr_p hR 29 (by decide)) dX7_next_50 ?_
        refine lv_iload_n hx hb dX7_next_53 rfl (lv_at hl 2 rfl) ?_
        refine z_lNald M hw (zr_t hR 157 9 10 (by decide)) rfl ⟨by omega, by omega⟩ dX7_next_54 ?_
        refine lv_lconst (v := 0) hx hb dX7_next_55 (by decide) ?_
        refine W.lcmp hx hb dX7_next_56 ?_
        refine lv_if_le (tgt := 89) hx hb dX7_next_57 (by decide) (fun c5 => ?_) (fun c5 => ?_)
        · skip
          refine lv_iinc (v := nI (k + 1)) (lv' := [(2, .int (nI (k + 1))), (3, .int 1), (0, .ref (ad 128)), (1, .int (nI u))]) hx hb dX7_next_89 hl (k := 3) rfl (nI_succ _).symm (by decide) rfl (fun ls hl => ?_)
          refine lv_goto (tgt := 2) hx hb dX7_next_92 (by decide) ?_
          exact ih_k hlt _ _ _ ⟨(fun j hj => by
                rcases Nat.lt_or_ge j k with q | q
                · exact hno j q
                · have e : j = k := by omega
                  subst e; simp [zNxb, c2, c3, c5]), hw, lv_sub hl [2, 3, 0] rfl⟩
        · skip
          refine lv_aload_n hx hb dX7_next_60 rfl (lv_at hl 1 rfl) ?_
          refine z_getr M hw (zr_t hR 128 7 0 (by decide)) zf_X7_77 (zr_p hR 29 (by decide)) dX7_next_61 ?_
          refine lv_aload_n hx hb dX7_next_64 rfl (lv_at hl 1 rfl) ?_
          refine lv_iload_n hx hb dX7_next_65 rfl (lv_at hl 3 rfl) ?_
          refine lv_iload_n hx hb dX7_next_66 rfl (lv_at hl 2 rfl) ?_
          refine z_ci0 (z_runV (As := [.int (nI k), .int (nI u)]) (rest := [.ref (ad 157)]) M hw (zr_t hR 128 7 0 (by decide)) zc_X7_159 (c_X7_across l base D cA ad ty I L P hR k (by omega) (nI u)) hw.1 rfl rfl ⟨Nat.le_of_ble_eq_true rfl, Nat.le_of_ble_eq_true rfl⟩ ⟨Nat.le_of_ble_eq_true rfl, Nat.le_of_ble_eq_true rfl⟩ hl.1 (Nat.le_of_ble_eq_true rfl) dX7_next_67) hw (fun H locs hw => ?_)
          refine z_lNald M hw (zr_t hR 157 9 10 (by decide)) (zAcr_in hE hlt _).1 ⟨(zAcr_in hE hlt _).2, by omega⟩ dX7_next_70 ?_
          refine lv_aload_n hx hb dX7_next_71 rfl (lv_at hl 1 rfl) ?_
          refine lv_iload_n hx hb dX7_next_72 rfl (lv_at hl 3 rfl) ?_
          refine z_cl0 (z_runV (As := [.int (nI k)]) (rest := [.long (L 157 ((zAcr I k (nI u)).toNatClampNeg))]) M hw (zr_t hR 128 7 0 (by decide)) zc_X7_155 (c_X7_costs l base D cA ad ty I L P hR k (by omega)) hw.1 rfl rfl ⟨Nat.le_of_ble_eq_true rfl, Nat.le_of_ble_eq_true rfl⟩ ⟨Nat.le_of_ble_eq_true rfl, Nat.le_of_ble_eq_true rfl⟩ hl.1 (Nat.le_of_ble_eq_true rfl) dX7_next_73) hw (fun H locs hw => ?_)
          refine lv_ladd hx hb dX7_next_76 ?_
          refine lv_aload_n hx hb dX7_next_77 rfl (lv_at hl 1 rfl) ?_
          refine z_getr M hw (zr_t hR 128 7 0 (by decide)) zf_X7_77 (zr_p hR 29 (by decide)) dX7_next_78 ?_
          refine lv_iload_n hx hb dX7_next_81 rfl (lv_at hl 2 rfl) ?_
          refine z_lNald M hw (zr_t hR 157 9 10 (by decide)) rfl ⟨by omega, by omega⟩ dX7_next_82 ?_
          refine W.lcmp hx hb dX7_next_83 ?_
          refine lv_if_ne (tgt := 89) hx hb dX7_next_84 (by decide) (fun c6 => ?_) (fun c6 => ?_)
          · skip
            refine lv_iinc (v := nI (k + 1)) (lv' := [(2, .int (nI (k + 1))), (3, .int 1), (0, .ref (ad 128)), (1, .int (nI u))]) hx hb dX7_next_89 hl (k := 3) rfl (nI_succ _).symm (by decide) rfl (fun ls hl => ?_)
            refine lv_goto (tgt := 2) hx hb dX7_next_92 (by decide) ?_
            exact ih_k hlt _ _ _ ⟨(fun j hj => by
                  rcases Nat.lt_or_ge j k with q | q
                  · exact hno j q
                  · have e : j = k := by omega
                    subst e; simp [zNxb, c2, c3, c5, c6]), hw, lv_sub hl [2, 3, 0] rfl⟩
          · skip
            refine lv_iload_n hx hb dX7_next_87 rfl (lv_at hl 3 rfl) ?_
            exact z_iret hx hb hr (by unfold zNx; rw [zfst_some hlt (by simp [zNxb, c2, c3, c5, c6]) hno]; rfl) rfl hw.2 hw.1 (Nat.le_of_ble_eq_true rfl) (Nat.le_of_ble_eq_true rfl) dX7_next_88 hlocks
    · skip
      refine lv_aload_n hx hb dX7_next_20 rfl (lv_at hl 0 rfl) ?_
      refine z_getr M hw (zr_t hR 128 7 0 (by decide)) zf_X7_19 (zr_p hR 7 (by decide)) dX7_next_21 ?_
      refine lv_iload_n hx hb dX7_next_24 rfl (lv_at hl 2 rfl) ?_
      refine z_iNald M hw (zr_t hR 135 8 16 (by decide)) rfl ⟨by omega, by omega⟩ dX7_next_25 ?_
      refine lv_iload_n hx hb dX7_next_26 rfl (lv_at hl 1 rfl) ?_
      refine lv_icmp_ne (tgt := 34) hx hb dX7_next_27 (by decide) (fun c7 => ?_) (fun c7 => ?_)
      · skip
        refine lv_iconst (v := 0) hx hb dX7_next_34 (by decide) ?_
        refine lv_istore_n (lv' := [(3, .int 0), (0, .ref (ad 128)), (1, .int (nI u)), (2, .int (nI k))]) hx hb dX7_next_35 rfl hl (by decide) rfl (fun ls hl => ?_)
        refine lv_aload_n hx hb dX7_next_36 rfl (lv_at hl 1 rfl) ?_
        refine z_getr M hw (zr_t hR 128 7 0 (by decide)) zf_X7_80 (zr_p hR 30 (by decide)) dX7_next_37 ?_
        refine lv_iload_n hx hb dX7_next_40 rfl (lv_at hl 3 rfl) ?_
        refine z_zNald M hw (zr_t hR 158 10 16 (by decide)) rfl ⟨by omega, by omega⟩ dX7_next_41 ?_
        refine lv_if_eq (tgt := 89) hx hb dX7_next_42 (by decide) (fun c8 => ?_) (fun c8 => ?_)
        · skip
          refine lv_iinc (v := nI (k + 1)) (lv' := [(2, .int (nI (k + 1))), (3, .int 0), (0, .ref (ad 128)), (1, .int (nI u))]) hx hb dX7_next_89 hl (k := 3) rfl (nI_succ _).symm (by decide) rfl (fun ls hl => ?_)
          refine lv_goto (tgt := 2) hx hb dX7_next_92 (by decide) ?_
          exact ih_k hlt _ _ _ ⟨(fun j hj => by
                rcases Nat.lt_or_ge j k with q | q
                · exact hno j q
                · have e : j = k := by omega
                  subst e; simp [zNxb, c2, c7, c8]), hw, lv_sub hl [2, 3, 0] rfl⟩
        · skip
          refine lv_iload_n hx hb dX7_next_45 rfl (lv_at hl 0 rfl) ?_
          refine lv_if_eq (tgt := 89) hx hb dX7_next_46 (by decide) (fun c9 => ?_) (fun c9 => ?_)
          rotate_left
          · exact absurd c9 (by decide)
          refine lv_iinc (v := nI (k + 1)) (lv' := [(2, .int (nI (k + 1))), (3, .int 0), (0, .ref (ad 128)), (1, .int (nI u))]) hx hb dX7_next_89 hl (k := 3) rfl (nI_succ _).symm (by decide) rfl (fun ls hl => ?_)
          refine lv_goto (tgt := 2) hx hb dX7_next_92 (by decide) ?_
          exact ih_k hlt _ _ _ ⟨(fun j hj => by
                rcases Nat.lt_or_ge j k with q | q
                · exact hno j q
                · have e : j = k := by omega
                  subst e; simp [zNxb, c2, c7, c8]), hw, lv_sub hl [2, 3, 0] rfl⟩
      · skip
        refine lv_iconst (v := 1) hx hb dX7_next_30 (by decide) ?_
        refine lv_goto (tgt := 35) hx hb dX7_next_31 (by decide) ?_
        refine lv_istore_n (lv' := [(3, .int 1), (0, .ref (ad 128)), (1, .int (nI u)), (2, .int (nI k))]) hx hb dX7_next_35 rfl hl (by decide) rfl (fun ls hl => ?_)
        refine lv_aload_n hx hb dX7_next_36 rfl (lv_at hl 1 rfl) ?_
        refine z_getr M hw (zr_t hR 128 7 0 (by decide)) zf_X7_80 (zr_p hR 30 (by decide)) dX7_next_37 ?_
        refine lv_iload_n hx hb dX7_next_40 rfl (lv_at hl 3 rfl) ?_
        refine z_zNald M hw (zr_t hR 158 10 16 (by decide)) rfl ⟨by omega, by omega⟩ dX7_next_41 ?_
        refine lv_if_eq (tgt := 89) hx hb dX7_next_42 (by decide) (fun c10 => ?_) (fun c10 => ?_)
        · skip
          refine lv_iinc (v := nI (k + 1)) (lv' := [(2, .int (nI (k + 1))), (3, .int 1), (0, .ref (ad 128)), (1, .int (nI u))]) hx hb dX7_next_89 hl (k := 3) rfl (nI_succ _).symm (by decide) rfl (fun ls hl => ?_)
          refine lv_goto (tgt := 2) hx hb dX7_next_92 (by decide) ?_
          exact ih_k hlt _ _ _ ⟨(fun j hj => by
                rcases Nat.lt_or_ge j k with q | q
                · exact hno j q
                · have e : j = k := by omega
                  subst e; simp [zNxb, c2, c7, c10]), hw, lv_sub hl [2, 3, 0] rfl⟩
        · skip
          refine lv_iload_n hx hb dX7_next_45 rfl (lv_at hl 0 rfl) ?_
          refine lv_if_eq (tgt := 89) hx hb dX7_next_46 (by decide) (fun c11 => ?_) (fun c11 => ?_)
          · exact absurd c11 (by decide)
          refine lv_aload_n hx hb dX7_next_49 rfl (lv_at hl 1 rfl) ?_
          refine z_getr M hw (zr_t hR 128 7 0 (by decide)) zf_X7_77 (zr_p hR 29 (by decide)) dX7_next_50 ?_
          refine lv_iload_n hx hb dX7_next_53 rfl (lv_at hl 2 rfl) ?_
          refine z_lNald M hw (zr_t hR 157 9 10 (by decide)) rfl ⟨by omega, by omega⟩ dX7_next_54 ?_
          refine lv_lconst (v := 0) hx hb dX7_next_55 (by decide) ?_
          refine W.lcmp hx hb dX7_next_56 ?_
          refine lv_if_le (tgt := 89) hx hb dX7_next_57 (by decide) (fun c12 => ?_) (fun c12 => ?_)
          · skip
            refine lv_iinc (v := nI (k + 1)) (lv' := [(2, .int (nI (k + 1))), (3, .int 1), (0, .ref (ad 128)), (1, .int (nI u))]) hx hb dX7_next_89 hl (k := 3) rfl (nI_succ _).symm (by decide) rfl (fun ls hl => ?_)
            refine lv_goto (tgt := 2) hx hb dX7_next_92 (by decide) ?_
            exact ih_k hlt _ _ _ ⟨(fun j hj => by
                  rcases Nat.lt_or_ge j k with q | q
                  · exact hno j q
                  · have e : j = k := by omega
                    subst e; simp [zNxb, c2, c7, c10, c12]), hw, lv_sub hl [2, 3, 0] rfl⟩
          · skip
            refine lv_aload_n hx hb dX7_next_60 rfl (lv_at hl 1 rfl) ?_
            refine z_getr M hw (zr_t hR 128 7 0 (by decide)) zf_X7_77 (zr_p hR 29 (by decide)) dX7_next_61 ?_
            refine lv_aload_n hx hb dX7_next_64 rfl (lv_at hl 1 rfl) ?_
            refine lv_iload_n hx hb dX7_next_65 rfl (lv_at hl 3 rfl) ?_
            refine lv_iload_n hx hb dX7_next_66 rfl (lv_at hl 2 rfl) ?_
            refine z_ci0 (z_runV (As := [.int (nI k), .int (nI u)]) (rest := [.ref (ad 157)]) M hw (zr_t hR 128 7 0 (by decide)) zc_X7_159 (c_X7_across l base D cA ad ty I L P hR k (by omega) (nI u)) hw.1 rfl rfl ⟨Nat.le_of_ble_eq_true rfl, Nat.le_of_ble_eq_true rfl⟩ ⟨Nat.le_of_ble_eq_true rfl, Nat.le_of_ble_eq_true rfl⟩ hl.1 (Nat.le_of_ble_eq_true rfl) dX7_next_67) hw (fun H locs hw => ?_)
            refine z_lNald M hw (zr_t hR 157 9 10 (by decide)) (zAcr_in hE hlt _).1 ⟨(zAcr_in hE hlt _).2, by omega⟩ dX7_next_70 ?_
            refine lv_aload_n hx hb dX7_next_71 rfl (lv_at hl 1 rfl) ?_
            refine lv_iload_n hx hb dX7_next_72 rfl (lv_at hl 3 rfl) ?_
            refine z_cl0 (z_runV (As := [.int (nI k)]) (rest := [.long (L 157 ((zAcr I k (nI u)).toNatClampNeg))]) M hw (zr_t hR 128 7 0 (by decide)) zc_X7_155 (c_X7_costs l base D cA ad ty I L P hR k (by omega)) hw.1 rfl rfl ⟨Nat.le_of_ble_eq_true rfl, Nat.le_of_ble_eq_true rfl⟩ ⟨Nat.le_of_ble_eq_true rfl, Nat.le_of_ble_eq_true rfl⟩ hl.1 (Nat.le_of_ble_eq_true rfl) dX7_next_73) hw (fun H locs hw => ?_)
            refine lv_ladd hx hb dX7_next_76 ?_
            refine lv_aload_n hx hb dX7_next_77 rfl (lv_at hl 1 rfl) ?_
            refine z_getr M hw (zr_t hR 128 7 0 (by decide)) zf_X7_77 (zr_p hR 29 (by decide)) dX7_next_78 ?_
            refine lv_iload_n hx hb dX7_next_81 rfl (lv_at hl 2 rfl) ?_
            refine z_lNald M hw (zr_t hR 157 9 10 (by decide)) rfl ⟨by omega, by omega⟩ dX7_next_82 ?_
            refine W.lcmp hx hb dX7_next_83 ?_
            refine lv_if_ne (tgt := 89) hx hb dX7_next_84 (by decide) (fun c13 => ?_) (fun c13 => ?_)
            · skip
              refine lv_iinc (v := nI (k + 1)) (lv' := [(2, .int (nI (k + 1))), (3, .int 1), (0, .ref (ad 128)), (1, .int (nI u))]) hx hb dX7_next_89 hl (k := 3) rfl (nI_succ _).symm (by decide) rfl (fun ls hl => ?_)
              refine lv_goto (tgt := 2) hx hb dX7_next_92 (by decide) ?_
              exact ih_k hlt _ _ _ ⟨(fun j hj => by
                    rcases Nat.lt_or_ge j k with q | q
                    · exact hno j q
                    · have e : j = k := by omega
                      subst e; simp [zNxb, c2, c7, c10, c12, c13]), hw, lv_sub hl [2, 3, 0] rfl⟩
            · skip
              refine lv_iload_n hx hb dX7_next_87 rfl (lv_at hl 3 rfl) ?_
              exact z_iret hx hb hr (by unfold zNx; rw [zfst_some hlt (by simp [zNxb, c2, c7, c10, c12, c13]) hno]; rfl) rfl hw.2 hw.1 (Nat.le_of_ble_eq_true rfl) (Nat.le_of_ble_eq_true rfl) dX7_next_88 hlocks
