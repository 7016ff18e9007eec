/-! THE RELATION between the class's keys (I, L) and the reference's (J, K); an hour keeps it -/
def zIs (ni : Nat) (I J : zIt) : Prop := ∀ i, i < ni → ∃ x y, x < 100 ∧ y < 100 ∧ I (16 + i) 0 = nI x ∧ I (16 + i) 1 = nI y ∧ J 131 i = nI x ∧ J 132 i = nI y
def zNd (ni nc : Nat) (I : zIt) : Prop := ∀ k, k < nc → zea I k < ni ∧ zeb I k < ni
def zREL (ni nc ns nt hrs : Nat) (I : zIt) (L : zLt) (J : zIt) (K : zLt) : Prop :=
  ((I 0 1 = nI ni ∧ I 1 1 = nI nc ∧ I 0 4 = nI ns ∧ I 0 6 = nI nt) ∧ (J 128 2 = nI ni ∧ J 128 5 = nI nc ∧ J 128 13 = nI ns ∧ J 128 21 = nI nt)) ∧ zRbd ni nc ns nt ∧
  (I 0 8 = nI hrs ∧ J 128 1 = nI hrs) ∧ zIs ni I J ∧ (zCbs I nc ∧ zRC nc I J ∧ zNd ni nc I) ∧ zRF nc I J ∧ (∀ q, q < ns → zRS nc I J q) ∧ (zUV ni nt I ∧ ∀ t, t < nt → zRT I L J K hrs t) ∧ zWl nt I ∧ (I 0 7 = 0 → ∀ t, t < nt → zWf nc I t) ∧ zFr ns nt J K
theorem zCb_c {I I' : zIt} {κ : Nat} (e : ∀ j, j < 5 → I' κ j = I κ j) (h : zCb I κ) : zCb I' κ := by
  unfold zCb
  rw [e 0 (by omega), e 1 (by omega), e 2 (by omega), e 3 (by omega), e 4 (by omega)]
  exact h
theorem zIs_c {ni : Nat} {I J I' J' : zIt} (e1 : ∀ i, i < ni → ∀ j, j < 2 → I' (16 + i) j = I (16 + i) j) (e2 : ∀ i, i < ni → J' 131 i = J 131 i ∧ J' 132 i = J 132 i) (h : zIs ni I J) : zIs ni I' J' := by
  intro i hi
  obtain ⟨f1, f2⟩ := e2 i hi
  rw [e1 i hi 0 (by omega), e1 i hi 1 (by omega), f1, f2]
  exact h i hi
theorem zNd_c {ni nc : Nat} {I I' : zIt} (e : ∀ k, k < nc → I' (32 + k) 0 = I (32 + k) 0 ∧ I' (32 + k) 1 = I (32 + k) 1) (h : zNd ni nc I) : zNd ni nc I' := by
  intro k hk
  rw [zea_c (I := I) (e k hk).1, zeb_c (I := I) (e k hk).2]
  exact h k hk
theorem zUV_c {ni nt : Nat} {I I' : zIt} (e : ∀ t, t < nt → I' (64 + t) 0 = I (64 + t) 0 ∧ I' (64 + t) 1 = I (64 + t) 1) (h : zUV ni nt I) : zUV ni nt I' := by
  intro t ht
  rw [(e t ht).1, (e t ht).2]
  exact h t ht
theorem zUV_10 {ni nt : Nat} {I : zIt} (hni : ni ≤ 10) (h : zUV ni nt I) : ∀ t, t < nt → (I (64 + t) 0).toNatClampNeg < 10 ∧ (I (64 + t) 1).toNatClampNeg < 10 := by
  intro t ht
  obtain ⟨u, v, hu, hv, eu, ev⟩ := h t ht
  rw [eu, ev, nI_clamp (by omega), nI_clamp (by omega)]
  omega
theorem zREL_hr {ni nc ns nt hrs : Nat} {I J : zIt} {L K : zLt} (hh : hrs < 1000000) (h : zREL ni nc ns nt hrs I L J K) : zREL ni nc ns nt (hrs + 1) (zHr nc ns nt (I, L)).1 (zHr nc ns nt (I, L)).2 (zRhr ni nc ns nt (J, K)).1 (zRhr ni nc ns nt (J, K)).2 := by
  obtain ⟨⟨⟨a1, a2, a3, a4⟩, b1, b2, b3, b4⟩, bd, ⟨h1, h2⟩, hIs, ⟨hCb, hRC, hNd⟩, hF, hS, ⟨hU, hT⟩, hWl, hWf, hFr⟩ := h
  obtain ⟨hni, hnc, hns, hnt⟩ := id bd
  unfold zHr zRhr
  dsimp only
  have hF1 : zRF nc (zu I 0 8 (I 0 8 + 1)) (zu J 128 1 (J 128 1 + 1)) := zRF_c hF (zu_ne _ _ (by omega)) (zu_rne (by omega)) (fun c hc => ⟨zu_ne _ _ (by omega), zu_ne _ _ (by omega)⟩) (zu_ne _ _ (by omega)) (zu_rne (by omega))
  have hS1 : ∀ q, q < ns → zRS nc (zu I 0 8 (I 0 8 + 1)) (zu J 128 1 (J 128 1 + 1)) q := fun q hq => zRS_c (hS q hq) (zu_rne (by omega)) (fun c hc => by unfold zspn; rw [zu_ne _ _ (by omega)]) ⟨zu_ne _ _ (by omega), zu_ne _ _ (by omega), zu_ne _ _ (by omega), zu_ne _ _ (by omega), zu_ne _ _ (by omega), zu_ne _ _ (by omega), zu_ne _ _ (by omega)⟩
  obtain ⟨⟨hF2, hS2⟩, hst⟩ := zRS_shs hnc hns hF1 hS1 ns (Nat.le_refl _)
  have cell0 : ∀ κ j, zShc κ j → zShs (zu I 0 8 (I 0 8 + 1)) ns κ j = zu I 0 8 (I 0 8 + 1) κ j := fun κ j hc => zShs_cell hnc hns hF1 hS1 ns (Nat.le_refl _) κ j hc
  have cell : ∀ κ j, zShc κ j → ¬ (κ = 0 ∧ j = 8) → zShs (zu I 0 8 (I 0 8 + 1)) ns κ j = I κ j := fun κ j hc h8 => (cell0 κ j hc).trans (zu_ne _ _ h8)
  have c08 : zShs (zu I 0 8 (I 0 8 + 1)) ns 0 8 = nI (hrs + 1) := by
    rw [cell0 0 8 (by unfold zShc; omega), zu_self, h1]
    exact (nI_succ hrs).symm
  have rc0 : ∀ κ j, zRhc κ j → ¬ (κ = 128 ∧ j = 1) → zRsh (zu J 128 1 (J 128 1 + 1)) ns κ j = J κ j := fun κ j hc h8 => (zRsh_cell hc ns).trans (zu_ne _ _ h8)
  have r01 : zRsh (zu J 128 1 (J 128 1 + 1)) ns 128 1 = nI (hrs + 1) := by
    rw [zRsh_cell (by unfold zRhc; omega) ns, zu_self, h2]
    exact (nI_succ hrs).symm
  have hst' : zShs (zu I 0 8 (I 0 8 + 1)) ns 0 7 = 0 → I 0 7 = 0 := fun e => by
    rcases hst with q | q
    · rw [q] at e; exact absurd e (by decide)
    · rw [q 0 (by omega), zu_ne _ _ (by omega)] at e; exact e
  have hst2 : zShs (zu I 0 8 (I 0 8 + 1)) ns 0 7 = 0 → ∀ i, i < 16 → zShs (zu I 0 8 (I 0 8 + 1)) ns (32 + i) = I (32 + i) := fun e i hi => by
    rcases hst with q | q
    · rw [q] at e; exact absurd e (by decide)
    · rw [q (32 + i) (by omega), zu_rne (by omega)]
  have rcol : ∀ q, ns ≤ q → zRsh (zu J 128 1 (J 128 1 + 1)) ns 143 q = J 143 q ∧ zRsh (zu J 128 1 (J 128 1 + 1)) ns 146 q = J 146 q ∧ zRsh (zu J 128 1 (J 128 1 + 1)) ns 148 q = J 148 q := fun q hq =>
    ⟨(zRsh_col (by omega) (by omega) ns hq).trans (zu_ne _ _ (by omega)), (zRsh_col (by omega) (by omega) ns hq).trans (zu_ne _ _ (by omega)), (zRsh_col (by omega) (by omega) ns hq).trans (zu_ne _ _ (by omega))⟩
  generalize hI2 : zShs (zu I 0 8 (I 0 8 + 1)) ns = I2 at *
  generalize hJ2 : zRsh (zu J 128 1 (J 128 1 + 1)) ns = J2 at *
  have row : ∀ κ, (κ ≠ 0 ∧ κ ≠ 1 ∧ κ ≠ 6 ∧ (κ < 32 ∨ 52 ≤ κ)) → I2 κ = I κ := fun κ hκ => by funext j; exact cell κ j (by unfold zShc; omega) (by omega)
  have rrow : ∀ κ, (κ ≠ 128 ∧ κ ≠ 140 ∧ κ ≠ 143 ∧ κ ≠ 146 ∧ κ ≠ 148) → J2 κ = J κ := fun κ hκ => by funext j; exact rc0 κ j (by unfold zRhc; omega) (by omega)
  have hIs2 : zIs ni I2 J2 := zIs_c (fun i hi j _ => by rw [row _ (by omega)]) (fun i hi => by rw [rrow _ (by omega), rrow _ (by omega)]; exact ⟨rfl, rfl⟩) hIs
  have e5 : ∀ k, k < nc → ∀ j, j < 5 → I2 (32 + k) j = I (32 + k) j := fun k hk j hj => cell _ _ (by unfold zShc; omega) (by omega)
  have hCb2 : zCbs I2 nc := fun k hk => zCb_c (e5 k hk) (hCb k hk)
  have hRC2 : zRC nc I2 J2 := zRC_c hRC e5 ⟨rrow _ (by omega), rrow _ (by omega), rrow _ (by omega), rrow _ (by omega), rrow _ (by omega)⟩
  have hNd2 : zNd ni nc I2 := zNd_c (fun k hk => ⟨e5 k hk 0 (by omega), e5 k hk 1 (by omega)⟩) hNd
  have hU2 : zUV ni nt I2 := zUV_c (fun t ht => by rw [row _ (by omega)]; exact ⟨rfl, rfl⟩) hU
  have hWl2 : zWl nt I2 := fun t ht => by rw [row _ (by omega)]; exact hWl t ht
  have hWf2 : I2 0 7 = 0 → ∀ t, t < nt → zWf nc I2 t := fun e t ht =>
    zWf_c (fun i hi => hst2 e i (by omega)) (by rw [row _ (by omega)]) (by rw [row _ (by omega)]) (fun k _ => by rw [row _ (by omega)]) (row _ (by omega)) (hWf (hst' e) t ht)
  obtain ⟨s1, s2, s3, s4⟩ := zWf_stale (q := (I2, L)) hnc hnt hCb2 (zUV_10 hni hU2) hWf2
  have hWl3 : zWl nt (zStale nc nt (I2, L)).1 := zWl_stale (q := (I2, L)) hnt hWl2
  have sL : ∀ κ, κ ≠ 7 → (zStale nc nt (I2, L)).2 κ = L κ := fun κ hκ => zStale_L (q := (I2, L)) hκ
  generalize hI3 : zStale nc nt (I2, L) = Q3 at *
  obtain ⟨I3, L3⟩ := Q3
  dsimp only at s1 s2 s3 s4 hWl3 sL ⊢
  have row3 : ∀ κ, (κ ≠ 0 ∧ κ ≠ 1 ∧ κ ≠ 6 ∧ (κ < 32 ∨ 52 ≤ κ) ∧ (κ < 80 ∨ 112 ≤ κ)) → I3 κ = I κ := fun κ hκ => by rw [s1 κ (by omega) (by omega), row κ (by omega)]
  have e32 : ∀ i, i < nc → I3 (32 + i) = I2 (32 + i) := fun i hi => s1 _ (by omega) (by omega)
  have hT3 : ∀ t, t < nt → zRT I3 L3 J2 K hrs t := fun t ht => zRT_c (hT t ht) (row3 _ (by omega)) (by rw [sL _ (by omega)])
    ⟨by rw [rrow _ (by omega)], by rw [rrow _ (by omega)], by rw [rrow _ (by omega)], by rw [rrow _ (by omega)], by rw [rrow _ (by omega)], by rw [rrow _ (by omega)]⟩ ⟨rfl, rfl, rfl, rfl⟩ (Nat.le_refl _)
  have hC3 : zRC nc I3 J2 := zRC_c hRC2 (fun k hk j _ => by rw [e32 k hk]) ⟨rfl, rfl, rfl, rfl, rfl⟩
  have hF3 : zRF nc I3 J2 := zRF_c hF2 (by rw [s1 1 (by omega) (by omega)]) (s1 6 (by omega) (by omega)) (fun c hc => by rw [e32 c hc]; exact ⟨rfl, rfl⟩) rfl rfl
  have hN3 : zNd ni nc I3 := zNd_c (fun k hk => by rw [e32 k hk]; exact ⟨rfl, rfl⟩) hNd2
  have hU3 : zUV ni nt I3 := zUV_c (fun t ht => by rw [row3 _ (by omega)]; exact ⟨rfl, rfl⟩) hU
  have hCb3 : zCbs I3 nc := zCbs_c e32 hCb2
  have fin := zSett_rel (L := L3) (K := K) hni hnc hh hCb3 hC3 hF3 hN3 hU3 hT3 s4 nt (Nat.le_refl _)
  have fr := fun κ hκ => (zSett_fr (q := (I3, L3)) nt κ hκ).1
  have rf := (zRtr_fr (ni := ni) (nc := nc) (J2, K) nt).1
  have rK := fun j (hj : 4 * nt ≤ j) => zRtr_col (ni := ni) (nc := nc) (q := (J2, K)) nt hj
  dsimp only at fr rf rK
  generalize zSett (I3, L3) nt = Q4 at *
  generalize zRtr ni nc (J2, K) nt = R4 at *
  obtain ⟨I4, L4⟩ := Q4
  obtain ⟨J4, K4⟩ := R4
  dsimp only at fin fr rf rK ⊢
  have e32' : ∀ i, i < nc → I4 (32 + i) = I2 (32 + i) := fun i hi => by rw [fr _ (by omega), e32 i hi]
  have uv : ∀ t, t < nt → I4 (64 + t) 0 = I3 (64 + t) 0 ∧ I4 (64 + t) 1 = I3 (64 + t) 1 := fun t ht => by
    have q := (fin t ht).1
    have q3 := (hT3 t ht).1
    rw [q.1, q.2.1, q3.1, q3.2.1, rf _ (by omega), rf _ (by omega)]
    exact ⟨rfl, rfl⟩
  refine ⟨⟨⟨?_, ?_, ?_, ?_⟩, ?_, ?_, ?_, ?_⟩, bd, ⟨?_, ?_⟩, ?_, ⟨?_, ?_, ?_⟩, ?_, ?_, ⟨?_, ?_⟩, ?_, ?_, ?_⟩
  · rw [fr 0 (by omega), s2 1 (by omega), cell _ _ (by unfold zShc; omega) (by omega)]; exact a1
  · rw [fr 1 (by omega), s1 1 (by omega) (by omega), cell _ _ (by unfold zShc; omega) (by omega)]; exact a2
  · rw [fr 0 (by omega), s2 4 (by omega), cell _ _ (by unfold zShc; omega) (by omega)]; exact a3
  · rw [fr 0 (by omega), s2 6 (by omega), cell _ _ (by unfold zShc; omega) (by omega)]; exact a4
  · rw [rf 128 (by omega), rc0 _ _ (by unfold zRhc; omega) (by omega)]; exact b1
  · rw [rf 128 (by omega), rc0 _ _ (by unfold zRhc; omega) (by omega)]; exact b2
  · rw [rf 128 (by omega), rc0 _ _ (by unfold zRhc; omega) (by omega)]; exact b3
  · rw [rf 128 (by omega), rc0 _ _ (by unfold zRhc; omega) (by omega)]; exact b4
  · rw [fr 0 (by omega), s2 8 (by omega)]; exact c08
  · rw [rf 128 (by omega)]; exact r01
  · exact zIs_c (fun i hi j _ => by rw [fr _ (by omega), s1 _ (by omega) (by omega)]) (fun i hi => by rw [rf _ (by omega), rf _ (by omega)]; exact ⟨rfl, rfl⟩) hIs2
  · exact zCbs_c e32' hCb2
  · exact zRC_c hRC2 (fun k hk j _ => by rw [e32' k hk]) ⟨rf _ (by omega), rf _ (by omega), rf _ (by omega), rf _ (by omega), rf _ (by omega)⟩
  · exact zNd_c (fun k hk => by rw [e32' k hk]; exact ⟨rfl, rfl⟩) hNd2
  · exact zRF_c hF2 (by rw [fr 1 (by omega), s1 1 (by omega) (by omega)]) (by rw [fr 6 (by omega), s1 6 (by omega) (by omega)]) (fun c hc => by rw [e32' c hc]; exact ⟨rfl, rfl⟩) (by rw [rf 128 (by omega)]) (rf _ (by omega))
  · intro q hq
    exact zRS_c (hS2 q hq) (by rw [fr _ (by omega), s1 _ (by omega) (by omega)]) (fun c hc => by unfold zspn; rw [e32' c hc]) ⟨by rw [rf _ (by omega)], by rw [rf _ (by omega)], by rw [rf _ (by omega)], by rw [rf _ (by omega)], by rw [rf _ (by omega)], by rw [rf _ (by omega)], by rw [rf _ (by omega)]⟩
  · exact zUV_c uv hU3
  · intro t ht
    have q := fin t ht
    rw [if_pos ht] at q
    exact q
  · intro t ht
    rw [fr _ (by omega)]
    exact hWl3 t ht
  · intro _ t ht
    exact zWf_c (I := I3) (fun i hi => fr _ (by omega)) (uv t ht).1 (uv t ht).2 (fun k _ => by rw [fr _ (by omega)]) (fr _ (by omega)) (s4 t ht)
  · exact zFr_c (fun q h1 _ => by rw [rf 143 (by omega), rf 146 (by omega), rf 148 (by omega)]; exact rcol q h1) rK hFr
theorem zREL_hrs {ni nc ns nt hrs : Nat} {I J : zIt} {L K : zLt} (h : zREL ni nc ns nt hrs I L J K) : ∀ n, hrs + n < 1000000 → zREL ni nc ns nt (hrs + n) (zHrs nc ns nt (I, L) n).1 (zHrs nc ns nt (I, L) n).2 (zRhrs ni nc ns nt (J, K) n).1 (zRhrs ni nc ns nt (J, K) n).2 := by
  intro n
  induction n with
  | zero => intro _; exact h
  | succ n ih => intro hn; exact zREL_hr (hrs := hrs + n) (by omega) (ih (by omega))
