/-! ALL TRADERS' HOUR: class and reference alike -/
def zRC (nc : Nat) (I J : zIt) : Prop := ∀ k, k < nc → J 134 k = I (32 + k) 0 ∧ J 135 k = I (32 + k) 1 ∧ J 136 k = I (32 + k) 2 ∧ J 137 k = I (32 + k) 3 ∧ J 138 k = I (32 + k) 4
theorem zRel0_of {nc : Nat} {I J : zIt} (hnc : nc ≤ 16) (hC : zRC nc I J) (hF : zRF nc I J) : zRel0 I J (zGoes J nc) nc := by
  intro k hk
  obtain ⟨c1, c2, -, c4, c5⟩ := hC k hk
  refine ⟨c1, c2, c4, c5, ?_⟩
  have e : zGoes J nc k = zb (zDwb J (nI k) = true) := by
    unfold zGoes zG0
    rw [if_pos hk]
  rw [e, zb_eq0, zWork_iff hnc hF hk]
theorem zRC_c {nc : Nat} {I J I' J' : zIt} (h : zRC nc I J) (e1 : ∀ k, k < nc → ∀ j, j < 5 → I' (32 + k) j = I (32 + k) j) (e2 : J' 134 = J 134 ∧ J' 135 = J 135 ∧ J' 136 = J 136 ∧ J' 137 = J 137 ∧ J' 138 = J 138) : zRC nc I' J' := by
  intro k hk
  obtain ⟨f1, f2, f3, f4, f5⟩ := e2
  rw [f1, f2, f3, f4, f5, e1 k hk 0 (by omega), e1 k hk 1 (by omega), e1 k hk 2 (by omega), e1 k hk 3 (by omega), e1 k hk 4 (by omega)]
  exact h k hk
theorem zea_c {I I' : zIt} {k : Nat} (h : I' (32 + k) 0 = I (32 + k) 0) : zea I' k = zea I k := by unfold zea; rw [h]
theorem zeb_c {I I' : zIt} {k : Nat} (h : I' (32 + k) 1 = I (32 + k) 1) : zeb I' k = zeb I k := by unfold zeb; rw [h]
/-- the traders' ends -/
def zUV (ni nt : Nat) (I : zIt) : Prop := ∀ t, t < nt → ∃ u v, u < ni ∧ v < ni ∧ I (64 + t) 0 = nI u ∧ I (64 + t) 1 = nI v
theorem zSett_s {q : zIt × zLt} {k : Nat} : zSett q (k + 1) = (zSetI (zSett q k).1 k, zSetL (zSett q k).1 (zSett q k).2 k) := rfl
theorem zRtr_s {ni nc k : Nat} {q : zIt × zLt} : zRtr ni nc q (k + 1) = zRtr1 ni nc (zRtr ni nc q k) k := rfl
theorem zSett_fr {q : zIt × zLt} : ∀ k κ, κ < 64 ∨ 64 + k ≤ κ → (zSett q k).1 κ = q.1 κ ∧ (zSett q k).2 κ = q.2 κ := by
  intro k
  induction k with
  | zero => intro κ _; exact ⟨rfl, rfl⟩
  | succ k ih =>
    intro κ h
    rw [zSett_s]
    dsimp only
    rw [zSetI_fr κ (by omega), zSetL_fr κ (by omega)]
    exact ih κ (by omega)
theorem zSett_rel {ni nc nt hrs : Nat} {I J : zIt} {L K : zLt} (hni : ni ≤ 10) (hnc : nc ≤ 16) (hh : hrs < 1000000) (h : zCbs I nc) (hC : zRC nc I J) (hF : zRF nc I J) (hn : ∀ k, k < nc → zea I k < ni ∧ zeb I k < ni) (hu : zUV ni nt I) (hT : ∀ t, t < nt → zRT I L J K hrs t) (hW : ∀ t, t < nt → zWf nc I t) :
    ∀ k, k ≤ nt → ∀ t, t < nt → zRT (zSett (I, L) k).1 (zSett (I, L) k).2 (zRtr ni nc (J, K) k).1 (zRtr ni nc (J, K) k).2 (if t < k then hrs + 1 else hrs) t := by
  intro k
  induction k with
  | zero => intro _ t ht; exact hT t ht
  | succ k ih =>
    intro hk t ht
    have ih' := ih (by omega)
    have fr := fun κ h => zSett_fr (q := (I, L)) k κ h
    have rf := zRtr_fr (ni := ni) (nc := nc) (J, K) k
    rw [zSett_s, zRtr_s]
    unfold zRtr1
    dsimp only
    by_cases htk : t = k
    · subst htk
      rw [if_pos (by omega)]
      have h0 := ih' t ht
      rw [if_neg (by omega)] at h0
      obtain ⟨u, v, hu1, hv1, eu, ev⟩ := hu t ht
      have e64 : (zSett (I, L) t).1 (64 + t) = I (64 + t) := (fr _ (by omega)).1
      have e80 : (zSett (I, L) t).1 (80 + t) = I (80 + t) := (fr _ (by omega)).1
      have e96 : (zSett (I, L) t).1 (96 + t) = I (96 + t) := (fr _ (by omega)).1
      have e32 : ∀ i, i < nc → (zSett (I, L) t).1 (32 + i) = I (32 + i) := fun i hi => (fr _ (by omega)).1
      generalize hI' : (zSett (I, L) t).1 = I' at *
      generalize hL' : (zSett (I, L) t).2 = L' at *
      generalize hJ' : (zRtr ni nc (J, K) t).1 = J' at *
      generalize hK' : (zRtr ni nc (J, K) t).2 = K' at *
      have rJ : ∀ κ, κ ≠ 158 → J' κ = J κ := rf.1
      have hC' : zRC nc I' J' := zRC_c hC (fun k hk j _ => by rw [e32 k hk]) ⟨rJ _ (by omega), rJ _ (by omega), rJ _ (by omega), rJ _ (by omega), rJ _ (by omega)⟩
      have fr1 : I' 1 = I 1 := (fr 1 (by omega)).1
      have fr6 : I' 6 = I 6 := (fr 6 (by omega)).1
      have hF' : zRF nc I' J' := zRF_c hF (by rw [fr1]) fr6 (fun c hc => by rw [e32 c hc]; exact ⟨rfl, rfl⟩) (by rw [rJ 128 (by omega)]) (rJ _ (by omega))
      have hr' := zRel0_of hnc hC' hF'
      have hb' : zCbs I' nc := zCbs_c e32 h
      have hn' : ∀ k, k < nc → zea I' k < ni ∧ zeb I' k < ni := fun k hk => by rw [zea_c (I := I) (by rw [e32 k hk]), zeb_c (I := I) (by rw [e32 k hk])]; exact hn k hk
      have hW' : zWf nc I' t := zWf_c e32 (by rw [e64]) (by rw [e64]) (fun j _ => by rw [e80]) e96 (hW t ht)
      have eu' : I' (64 + t) 0 = nI u := by rw [e64]; exact eu
      have ev' : I' (64 + t) 1 = nI v := by rw [e64]; exact ev
      have q0 : J' 150 t = nI u := h0.1.1.symm.trans eu'
      have q1 : J' 151 t = nI v := h0.1.2.1.symm.trans ev'
      rw [q0, q1, nI_clamp (by omega)]
      have key := zWf_ref hb' hr' hni hn' eu' ev' hu1 hv1 hW' (K' 157)
      have key2 := zRT_set (K' := zs K' 157 (zFar J' (K' 157) ni nc (nI v))) (w := zFar J' (K' 157) ni nc (nI v) u) hh h0 rfl (by
        rcases key with ⟨P, D, N, a1, a2, a3, a4, a5, a6, a7, a8, a9, -, -⟩ | ⟨a1, -, -, a4, -⟩
        · exact Or.inl ⟨P, D, N, a1, a2, a3, a4, a5, a6, a7, a8, a9⟩
        · exact Or.inr ⟨a1, a4⟩)
      refine zRT_c key2 rfl rfl ?_ ⟨rfl, rfl, rfl, rfl⟩ (Nat.le_refl _)
      exact ⟨congrFun (zs_ne _ _ (by omega)) _, congrFun (zs_ne _ _ (by omega)) _, congrFun (zs_ne _ _ (by omega)) _, congrFun (zs_ne _ _ (by omega)) _, congrFun (zs_ne _ _ (by omega)) _, congrFun (zs_ne _ _ (by omega)) _⟩
    · have h0 := ih' t ht
      rw [show (if t < k + 1 then hrs + 1 else hrs) = (if t < k then hrs + 1 else hrs) by
        by_cases h1 : t < k
        · rw [if_pos h1, if_pos (by omega)]
        · rw [if_neg h1, if_neg (by omega)]]
      refine zRT_c h0 (zSetI_fr _ (by omega)) (congrFun (zSetL_fr _ (by omega)) _) ?_ ?_ (Nat.le_refl _)
      · exact ⟨congrFun (zs_ne _ _ (by omega)) _, congrFun (zs_ne _ _ (by omega)) _, congrFun (zs_ne _ _ (by omega)) _, congrFun (zs_ne _ _ (by omega)) _, congrFun (zs_ne _ _ (by omega)) _, congrFun (zs_ne _ _ (by omega)) _⟩
      · have g : ∀ (w : Int64) (j : Nat), j ≠ 4 * k → j ≠ 4 * k + 1 → j ≠ 4 * k + 2 → j ≠ 4 * k + 3 → zHoL (zRtr ni nc (J, K) k).1 (zRtr ni nc (J, K) k).2 (zs (zRtr ni nc (J, K) k).2 157 (zFar (zRtr ni nc (J, K) k).1 ((zRtr ni nc (J, K) k).2 157) ni nc ((zRtr ni nc (J, K) k).1 151 k))) k w 156 j = (zRtr ni nc (J, K) k).2 156 j := fun w j a1 a2 a3 a4 => by
          rw [zHoL_fr ⟨a1, a2, a3, a4⟩, zs_ne _ _ (by omega)]
        exact ⟨g _ _ (by omega) (by omega) (by omega) (by omega), g _ _ (by omega) (by omega) (by omega) (by omega), g _ _ (by omega) (by omega) (by omega) (by omega), g _ _ (by omega) (by omega) (by omega) (by omega)⟩
