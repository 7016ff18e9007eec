/-! A SHIP IS SENT -/
theorem zBeg_beg {I : zIt} {κ : Nat} {a b x y : Int32} : zBeg (zBeg I κ a b) κ x y = zBeg I κ x y := by
  unfold zBeg
  funext i j
  by_cases h4 : i = κ ∧ j = 4
  · obtain ⟨rfl, rfl⟩ := h4
    rw [zu_self, zu_self]
  · rw [zu_ne _ _ h4, zu_ne _ _ h4]
    by_cases h3 : i = κ ∧ j = 3
    · obtain ⟨rfl, rfl⟩ := h3
      rw [zu_self, zu_self]
    · rw [zu_ne _ _ h3, zu_ne _ _ h3, zu_ne _ _ h4, zu_ne _ _ h3]
theorem zIts_beg {I : zIt} {q : Nat} {a b : Int32} : zIts (zBeg I (48 + q) a b) (48 + q) ↔ zIts I (48 + q) := by
  have e5 : zBeg I (48 + q) a b (48 + q) 5 = I (48 + q) 5 := zBeg_ne (by omega)
  have e6 : zBeg I (48 + q) a b (48 + q) 6 = I (48 + q) 6 := zBeg_ne (by omega)
  unfold zIts
  rw [e5, e6, zHas_c (I := I) (zBeg_ne (by omega))]
theorem zArr_beg {I : zIt} {q : Nat} {a b : Int32} : zArr (zBeg I (48 + q) a b) (48 + q) = zArr I (48 + q) := by
  unfold zArr
  rw [zBeg_beg, zBeg_beg]
  by_cases h : zIts I (48 + q)
  · rw [if_pos h, if_pos (zIts_beg.mpr h)]
  · rw [if_neg h, if_neg (fun z => h (zIts_beg.mp z))]
theorem zBegR_beg {J : zIt} {q : Nat} {a b x y : Int32} : zBegR (zBegR J q a b) q x y = zBegR J q x y := by
  unfold zBegR
  funext i j
  by_cases h4 : i = 146 ∧ j = q
  · obtain ⟨rfl, rfl⟩ := h4
    rw [zu_self, zu_self]
  · rw [zu_ne _ _ h4, zu_ne _ _ h4]
    by_cases h3 : i = 143 ∧ j = q
    · obtain ⟨rfl, rfl⟩ := h3
      rw [zu_self, zu_self]
    · rw [zu_ne _ _ h3, zu_ne _ _ h3, zu_ne _ _ h4, zu_ne _ _ h3]
theorem zCome_beg {J : zIt} {q : Nat} {a b : Int32} : zCome (zBegR J q a b) q = zCome J q := by
  have hc : zThere (zBegR J q a b) q ↔ zThere J q := by
    unfold zBegR
    refine zThere_c ?_ ?_ ?_
    · rw [zu_ne _ _ (by omega), zu_ne _ _ (by omega)]
    · rw [zu_ne _ _ (by omega), zu_ne _ _ (by omega)]
    · rw [zu_rne (by omega), zu_rne (by omega)]
  rw [zCome_B, zCome_B, zBegR_beg, zBegR_beg]
  by_cases h : zThere J q
  · rw [if_pos h, if_pos (hc.mpr h)]
  · rw [if_neg h, if_neg (fun z => h (hc.mp z))]
theorem zBegR_row {J : zIt} {q κ : Nat} {a b : Int32} (h : κ ≠ 143 ∧ κ ≠ 146) : zBegR J q a b κ = J κ := by
  unfold zBegR
  rw [zu_rne h.2, zu_rne h.1]
theorem zBegR_col {J : zIt} {q κ j : Nat} {a b : Int32} (h : j ≠ q) : zBegR J q a b κ j = J κ j := by
  unfold zBegR
  rw [zu_ne _ _ (by omega), zu_ne _ _ (by omega)]
theorem zCome_row {J : zIt} {q κ : Nat} (h : κ ≠ 143 ∧ κ ≠ 146) : zCome J q κ = J κ := by
  rw [zCome_B]
  split
  · exact zBegR_row h
  · exact zBegR_row h
theorem zCome_col {J : zIt} {q κ j : Nat} (h : j ≠ q) : zCome J q κ j = J κ j := by
  rw [zCome_B]
  split
  · exact zBegR_col h
  · exact zBegR_col h
/-- where it goes, and its new place, before it has set off -/
def zOffI (I : zIt) (q : Nat) (c s a b : Int32) : zIt := zu (zu (zAim I (48 + q) c s) (48 + q) 1 a) (48 + q) 2 b
def zOffJ (J : zIt) (q : Nat) (a b t : Int32) : zIt := zu (zu (zu J 144 q a) 145 q b) 147 q t
theorem zOffI_ne {I : zIt} {q κ k : Nat} {c s a b : Int32} (h : ¬ (κ = 48 + q ∧ (k = 1 ∨ k = 2 ∨ k = 5 ∨ k = 6))) : zOffI I q c s a b κ k = I κ k := by
  unfold zOffI
  rw [zu_ne _ _ (by omega), zu_ne _ _ (by omega), zAim_ne (by omega)]
theorem zOffI_fr {I : zIt} {q κ : Nat} {c s a b : Int32} (h : κ ≠ 48 + q) : zOffI I q c s a b κ = I κ := by
  funext k
  exact zOffI_ne (by omega)
theorem zOffI_at {I : zIt} {q : Nat} {c s a b : Int32} : zOffI I q c s a b (48 + q) 1 = a ∧ zOffI I q c s a b (48 + q) 2 = b ∧ zOffI I q c s a b (48 + q) 5 = c ∧ zOffI I q c s a b (48 + q) 6 = s := by
  unfold zOffI zAim
  refine ⟨?_, ?_, ?_, ?_⟩
  · rw [zu_ne _ _ (by omega), zu_self]
  · rw [zu_self]
  · rw [zu_ne _ _ (by omega), zu_ne _ _ (by omega), zu_ne _ _ (by omega), zu_self]
  · rw [zu_ne _ _ (by omega), zu_ne _ _ (by omega), zu_self]
theorem zOffJ_ne {J : zIt} {q κ k : Nat} {a b t : Int32} (h : ¬ ((κ = 144 ∨ κ = 145 ∨ κ = 147) ∧ k = q)) : zOffJ J q a b t κ k = J κ k := by
  unfold zOffJ
  rw [zu_ne _ _ (by omega), zu_ne _ _ (by omega), zu_ne _ _ (by omega)]
theorem zOffJ_at {J : zIt} {q : Nat} {a b t : Int32} : zOffJ J q a b t 144 q = a ∧ zOffJ J q a b t 145 q = b ∧ zOffJ J q a b t 147 q = t := by
  unfold zOffJ
  refine ⟨?_, ?_, ?_⟩
  · rw [zu_ne _ _ (by omega), zu_ne _ _ (by omega), zu_self]
  · rw [zu_ne _ _ (by omega), zu_self]
  · rw [zu_self]
theorem s2_sail {ni nc ns nt hrs : Nat} {I J : zIt} {L K : zLt} (h : zREL ni nc ns nt hrs I L J K) {q : Nat} (hq : q < ns) (h0 : I (48 + q) 3 = 0) {a b : Nat} (ha : a < 100) (hb : b < 100) {c s t : Int32}
    (ht : (c = -1 ∧ t = -1) ∨ ∃ c0 s0, c0 < nc ∧ s0 < zspn I c0 ∧ c = nI c0 ∧ s = nI s0 ∧ t = nI (8 * c0 + s0)) :
    zREL ni nc ns nt hrs (zSet (zAim I (48 + q) c s) (48 + q) (nI a) (nI b)) L (zSail (zu J 128 0 0) q (nI a) (nI b) t) K ∧
    zHours ((zAim I (48 + q) c s) (48 + q) 1) ((zAim I (48 + q) c s) (48 + q) 2) ((zAim I (48 + q) c s) (48 + q) 0) (nI a) (nI b) = zRh (zu J 128 0 0) q (nI a) (nI b) := by
  obtain ⟨hni, hnc, hns, hnt⟩ := id h.2.1
  have hF := h.2.2.2.2.2.1
  have hS := h.2.2.2.2.2.2.1
  obtain ⟨⟨s1, s2, s3, s4, s5, s6⟩, -, ⟨x, y, hx, hy, ex, ey⟩, ⟨v, hv1, hv2, ev⟩, -⟩ := hS q hq
  have A0 : zAim I (48 + q) c s (48 + q) 0 = nI v := (zAim_ne (by omega)).trans ev
  have A1 : zAim I (48 + q) c s (48 + q) 1 = nI x := (zAim_ne (by omega)).trans ex
  have A2 : zAim I (48 + q) c s (48 + q) 2 = nI y := (zAim_ne (by omega)).trans ey
  have hH := zH_N hx hy ha hb hv1 hv2
  have hl := zhN_b hx hy ha hb hv1 hv2
  have j0 : ∀ κ k, κ ≠ 128 → zu J 128 0 0 κ k = J κ k := fun κ k hκ => zu_ne _ _ (by omega)
  have hR : zRh (zu J 128 0 0) q (nI a) (nI b) = nI (zhN x y v a b) := by
    rw [zRh_H, j0 _ _ (by omega), j0 _ _ (by omega), j0 _ _ (by omega), ← s1, ← s2, ← s3, ex, ey, ev, hH]
  generalize hl0 : zhN x y v a b = l at hH hl hR
  have eI : zSet (zAim I (48 + q) c s) (48 + q) (nI a) (nI b) = if nI l = 0 then zArr (zBeg (zOffI I q c s (nI a) (nI b)) (48 + q) 1 (nI l)) (48 + q) else zBeg (zOffI I q c s (nI a) (nI b)) (48 + q) 1 (nI l) := by
    unfold zSet
    rw [A0, A1, A2, hH]
    rfl
  have eJ : zSail (zu J 128 0 0) q (nI a) (nI b) t = if nI l = 0 then zCome (zBegR (zOffJ (zu J 128 0 0) q (nI a) (nI b) t) q 1 (nI l)) q else zBegR (zOffJ (zu J 128 0 0) q (nI a) (nI b) t) q 1 (nI l) := by
    unfold zSail
    rw [hR]
    rfl
  rw [A0, A1, A2, hH, hR, eI, eJ]
  refine ⟨?_, rfl⟩
  obtain ⟨o1, o2, o5, o6⟩ := zOffI_at (I := I) (q := q) (c := c) (s := s) (a := nI a) (b := nI b)
  obtain ⟨r4, r5, r7⟩ := zOffJ_at (J := zu J 128 0 0) (q := q) (a := nI a) (b := nI b) (t := t)
  have oN : ∀ κ k, ¬ (κ = 48 + q ∧ (k = 1 ∨ k = 2 ∨ k = 5 ∨ k = 6)) → zOffI I q c s (nI a) (nI b) κ k = I κ k := fun κ k hk => zOffI_ne hk
  have oF : ∀ κ, κ ≠ 48 + q → zOffI I q c s (nI a) (nI b) κ = I κ := fun κ hk => zOffI_fr hk
  have rN : ∀ κ k, ¬ ((κ = 144 ∨ κ = 145 ∨ κ = 147) ∧ k = q) → ¬ (κ = 128 ∧ k = 0) → zOffJ (zu J 128 0 0) q (nI a) (nI b) t κ k = J κ k := fun κ k hk h128 => (zOffJ_ne hk).trans (zu_ne _ _ h128)
  have rR : ∀ κ, κ ≠ 144 → κ ≠ 145 → κ ≠ 147 → κ ≠ 128 → zOffJ (zu J 128 0 0) q (nI a) (nI b) t κ = J κ := fun κ q1 q2 q3 q4 => by funext k; exact rN κ k (by omega) (by omega)
  generalize zOffI I q c s (nI a) (nI b) = X at *
  generalize zOffJ (zu J 128 0 0) q (nI a) (nI b) t = Y at *
  have hsp : ∀ c, c < nc → zspn X c = zspn I c := fun c hc => by unfold zspn; rw [oF _ (by omega)]
  have hF1 : zRF nc X Y := zRF_c hF (by rw [oF 1 (by omega)]) (oF 6 (by omega)) (fun c hc => by rw [oF _ (by omega)]; exact ⟨rfl, rfl⟩) (rN _ _ (by omega) (by omega)) (rR _ (by omega) (by omega) (by omega) (by omega))
  have hSt1 : zRSt nc X Y q := by
    unfold zRSt
    rw [o5, o6, r7]
    rcases ht with ht | ⟨c0, s0, g1, g2, g3⟩
    · exact Or.inl ht
    · exact Or.inr ⟨c0, s0, g1, by rw [hsp c0 g1]; exact g2, g3⟩
  have hS1 : ∀ q', q' < ns → zRS nc X Y q' := by
    intro q' hq'
    by_cases hqq : q' = q
    · subst hqq
      refine ⟨⟨?_, ?_, ?_, ?_, ?_, ?_⟩, ⟨?_, Or.inr hSt1⟩, ⟨a, b, ha, hb, o1, o2⟩, ⟨v, hv1, hv2, ?_⟩, Or.inl ?_⟩
      · rw [oN _ _ (by omega), rN _ _ (by omega) (by omega)]; exact s1
      · rw [o1, r4]
      · rw [o2, r5]
      · rw [oN _ _ (by omega), rN _ _ (by omega) (by omega)]; exact s4
      · rw [oN _ _ (by omega), rN _ _ (by omega) (by omega)]; exact s5
      · rw [oN _ _ (by omega), rN _ _ (by omega) (by omega)]; exact s6
      · unfold zSc
        rw [o5]
        rcases ht with ⟨ht, -⟩ | ⟨c0, s0, g1, g2, g3, -⟩
        · exact Or.inl ht
        · refine Or.inr ?_
          rw [g3, nI_clamp (by omega)]
          exact ⟨rfl, g1⟩
      · rw [oN _ _ (by omega)]; exact ev
      · rw [oN _ _ (by omega)]; exact h0
    · exact zRS_c (hS q' hq') (oF _ (by omega)) hsp ⟨rN _ _ (by omega) (by omega), rN _ _ (by omega) (by omega), rN _ _ (by omega) (by omega), rN _ _ (by omega) (by omega), rN _ _ (by omega) (by omega), rN _ _ (by omega) (by omega), rN _ _ (by omega) (by omega)⟩
  by_cases hl0 : l = 0
  · rw [hl0, show nI 0 = 0 from rfl, if_pos rfl, if_pos rfl, zArr_beg, zCome_beg]
    refine zREL_ships h (fun κ hκ => ?_) (fun κ h1 h2 => ?_) (fun j hj => ?_) (fun q' h1 h2 => ?_) (zRS_come hnc hns hq hF1 hS1 hSt1).2
    · rw [zArr_fr κ (by omega), oF κ (by omega)]
    · rw [zCome_row (by omega), rR κ (by omega) (by omega) (by omega) (by omega)]
    · rw [zCome_row (by omega), rN _ _ (by omega) (by omega)]
    · rw [zCome_col (by omega), zCome_col (by omega), zCome_col (by omega), rN _ _ (by omega) (by omega), rN _ _ (by omega) (by omega), rN _ _ (by omega) (by omega)]
      exact ⟨rfl, rfl, rfl⟩
  · have hne : ¬ nI l = 0 := nI_ne0 (by omega) (by omega)
    rw [if_neg hne, if_neg hne]
    refine zREL_ships h (fun κ hκ => ?_) (fun κ h1 h2 => ?_) (fun j hj => ?_) (fun q' h1 h2 => ?_) (fun q' hq' => zRS_beg hnc (by omega) (Or.inr ⟨hSt1, Or.inl rfl, l, by omega, by omega, rfl⟩) (by omega) (hS1 q' hq'))
    · rw [zBeg_fr κ (by omega), oF κ (by omega)]
    · rw [zBegR_row (by omega), rR κ (by omega) (by omega) (by omega) (by omega)]
    · rw [zBegR_row (by omega), rN _ _ (by omega) (by omega)]
    · rw [zBegR_col (by omega), zBegR_col (by omega), zBegR_col (by omega), rN _ _ (by omega) (by omega), rN _ _ (by omega) (by omega), rN _ _ (by omega) (by omega)]
      exact ⟨rfl, rfl, rfl⟩
theorem s2_home {ni nc ns nt hrs : Nat} {I J : zIt} {L K : zLt} (h : zREL ni nc ns nt hrs I L J K) {i j : Int32} (hi : zlt i ns) (hj : zlt j ni) (h0 : I (48 + i.toNatClampNeg) 3 = 0) :
    zREL ni nc ns nt hrs (zSet (zAim I (48 + i.toNatClampNeg) (-1) (-1)) (48 + i.toNatClampNeg) (I (16 + j.toNatClampNeg) 0) (I (16 + j.toNatClampNeg) 1)) L (zSail (zu J 128 0 0) i.toNatClampNeg (J 131 j.toNatClampNeg) (J 132 j.toNatClampNeg) (-1)) K ∧
    zHours ((zAim I (48 + i.toNatClampNeg) (-1) (-1)) (48 + i.toNatClampNeg) 1) ((zAim I (48 + i.toNatClampNeg) (-1) (-1)) (48 + i.toNatClampNeg) 2) ((zAim I (48 + i.toNatClampNeg) (-1) (-1)) (48 + i.toNatClampNeg) 0) (I (16 + j.toNatClampNeg) 0) (I (16 + j.toNatClampNeg) 1) = zRh (zu J 128 0 0) i.toNatClampNeg (J 131 j.toNatClampNeg) (J 132 j.toNatClampNeg) := by
  obtain ⟨x, y, hx, hy, e1, e2, e3, e4⟩ := h.2.2.2.1 _ (zlt_nat hj).2
  rw [e1, e2, e3, e4]
  exact s2_sail h (zlt_nat hi).2 h0 hx hy (Or.inl ⟨rfl, rfl⟩)
theorem s2_send {ni nc ns nt hrs : Nat} {I J : zIt} {L K : zLt} (h : zREL ni nc ns nt hrs I L J K) {i j k : Int32} (hi : zlt i ns) (hj : zlt j nc) (hk : zlt k (zSpn I j)) (h0 : I (48 + i.toNatClampNeg) 3 = 0) {a b : Nat} (ea : I (32 + j.toNatClampNeg) 0 = nI a) (eb : I (32 + j.toNatClampNeg) 1 = nI b) (ha : a < ni) (hb : b < ni) :
    zREL ni nc ns nt hrs (zSet (zAim I (48 + i.toNatClampNeg) (nI j.toNatClampNeg) k) (48 + i.toNatClampNeg) (zPlace k (I (16 + a) 0) (I (16 + b) 0) (I (32 + j.toNatClampNeg) 2)) (zPlace k (I (16 + a) 1) (I (16 + b) 1) (I (32 + j.toNatClampNeg) 2))) L
      (zSail (zu J 128 0 0) i.toNatClampNeg (zPlace k (J 131 a) (J 131 b) (J 136 j.toNatClampNeg)) (zPlace k (J 132 a) (J 132 b) (J 136 j.toNatClampNeg)) (8 * j + k)) K ∧
    zHours ((zAim I (48 + i.toNatClampNeg) (nI j.toNatClampNeg) k) (48 + i.toNatClampNeg) 1) ((zAim I (48 + i.toNatClampNeg) (nI j.toNatClampNeg) k) (48 + i.toNatClampNeg) 2) ((zAim I (48 + i.toNatClampNeg) (nI j.toNatClampNeg) k) (48 + i.toNatClampNeg) 0) (zPlace k (I (16 + a) 0) (I (16 + b) 0) (I (32 + j.toNatClampNeg) 2)) (zPlace k (I (16 + a) 1) (I (16 + b) 1) (I (32 + j.toNatClampNeg) 2)) =
      zRh (zu J 128 0 0) i.toNatClampNeg (zPlace k (J 131 a) (J 131 b) (J 136 j.toNatClampNeg)) (zPlace k (J 132 a) (J 132 b) (J 136 j.toNatClampNeg)) := by
  obtain ⟨c, hc, rfl⟩ := zlt_ex hj
  obtain ⟨s, hs, rfl⟩ := zlt_ex hk
  have hnc := h.2.1.2.1
  obtain ⟨xa, ya, hxa, hya, e1, e2, e3, e4⟩ := h.2.2.2.1 a ha
  obtain ⟨xb, yb, hxb, hyb, f1, f2, f3, f4⟩ := h.2.2.2.1 b hb
  have hRC := h.2.2.2.2.1.2.1 c hc
  obtain ⟨-, -, n, -, -, -, -, hn1, hn8, -, -, -, -, -, en, -⟩ := h.2.2.2.2.1.1 c hc
  unfold zSpn at hs
  rw [nI_clamp (show c < 2 ^ 31 by omega)] at hs ⊢
  have hs2 : s < zspn I c := hs
  rw [en, nI_clamp (by omega)] at hs
  rw [e1, e2, e3, e4, f1, f2, f3, f4, hRC.2.2.1, en]
  obtain ⟨p, hp, ep⟩ := zPlace_N (n := n) (k := s) (a := xa) (b := xb) (by omega) hs hxa hxb
  obtain ⟨r, hr, er⟩ := zPlace_N (n := n) (k := s) (a := ya) (b := yb) (by omega) hs hya hyb
  rw [ep, er, zcode]
  exact s2_sail h (zlt_nat hi).2 h0 hp hr (Or.inr ⟨c, s, hc, hs2, rfl, rfl, rfl⟩)
