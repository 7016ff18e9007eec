theorem zRw_s {J : zIt} {G : Nat → Int32} {f : Nat → Int64} {nc u k : Nat} : zRw J G f nc u (k + 1) = zRw1 J G f nc (zRw J G f nc u k) := rfl
theorem zRw_path {I J : zIt} {G : Nat → Int32} {nc v n u : Nat} {F f : Nat → Int64} {g : Nat → Nat} (h : zCbs I nc) (hr : zRel0 I J G nc) (hg : zRw0 F g) (hL : zLs I nc v g) (hn10 : n ≤ 10) (hd : ∀ x, x < 10 → g x < 1152921504606846976 → zDg n g x)
    (hf : ∀ x, x < n → f x = lN (zg2 g x)) (hu : u < 10) (hul : g u < 1152921504606846976) (row : Nat → Int32) : ∀ k, k ≤ zgN g u →
    (zRw J G f nc u k).1 = (zFw I nc F v u row k).1 ∧ (zRw J G f nc u k).2 = zNx J G f (zFw I nc F v u row k).1 nc ∧ ∀ j, j < k → (zFw I nc F v u row k).2.2.2.2 j = zoi (zRw J G f nc u j).2 := by
  intro k
  induction k with
  | zero =>
    intro _
    refine ⟨rfl, ?_, fun j hj => absurd hj (by omega)⟩
    have hud := hd u hu hul
    have hub := (zg2_lt hn10 hul hud).2
    show (if lg_cmp (f u) zFAR < 0 then zNx J G f u nc else none) = zNx J G f u nc
    rw [if_pos]
    rw [hf u hud.1]
    exact (zcN_lt (b := 1000000000000000) (by omega) (by omega)).mpr (by omega)
  | succ k ih =>
    intro hk
    obtain ⟨i1, i2, i3⟩ := ih (by omega)
    obtain ⟨p1, p2, p3, p4, -⟩ := zFw_go h hg hL hn10 hd hu hul row k (by omega)
    have hxv : (zFw I nc F v u row k).1 ≠ v := by
      intro e
      rw [e] at p4
      have : zgN g v = 0 := by unfold zgN; rw [hL.1]
      omega
    obtain ⟨c, y, hz, hc, hy, hA, e, e2⟩ := zFw1_spec h hg hL p1 hxv p2
    have hnx := zNx_eq h hr hg hL hn10 hd hf p1 p2 hxv
    have hsome : (zRw J G f nc u k).2 = some c := by rw [i2, hnx, hz]
    have hb : zNxb J G f (zFw I nc F v u row k).1 c = true := by
      have : zNx J G f (zFw I nc F v u row k).1 nc = some c := by rw [hnx, hz]
      exact (zfst_spec this).2.1
    obtain ⟨-, y', hy', e1', hA', -, e3⟩ := (zNxb_eq h hr hg hL hn10 hd hf p1 p2 hc).mp hb
    have hyy : y' = y := by
      rcases zCl_spec h hc p1 with ⟨q, -⟩ | ⟨z, hz, q, -, q3⟩
      · rw [e1'] at q; exact absurd q (nI_ne1 (by omega))
      · rw [q3 y' hA', q3 y hA]
    have hR : zRw J G f nc u (k + 1) = (y, zNx J G f y nc) := by
      rw [zRw_s]
      unfold zRw1
      rw [hsome]
      dsimp only
      rw [i1, e3, hyy]
    rw [hR, zFw_s, e2]
    refine ⟨rfl, rfl, fun j hj => ?_⟩
    dsimp only
    rw [p3]
    by_cases hjk : j = k
    · subst hjk
      rw [zs_self, hsome]
      rfl
    · rw [zs_ne _ _ hjk]
      exact i3 j (by omega)
/-- the row of a way, cable by cable -/
theorem zRw_row {I J : zIt} {G : Nat → Int32} {nc v n u : Nat} {F f : Nat → Int64} {g : Nat → Nat} (h : zCbs I nc) (hr : zRel0 I J G nc) (hg : zRw0 F g) (hL : zLs I nc v g) (hn10 : n ≤ 10) (hd : ∀ x, x < 10 → g x < 1152921504606846976 → zDg n g x)
    (hf : ∀ x, x < n → f x = lN (zg2 g x)) (hv : v < 10) (hu : u < 10) (hul : g u < 1152921504606846976) (row : Nat → Int32) (j : Nat) :
    (if j < zgN g u then (zFw I nc F v u row 9).2.2.2.2 j else -1) = zoi (zRw J G f nc u j).2 ∧ (zFw I nc F v u row 9).2.1 = zgN g u ∧ (zFw I nc F v u row 9).2.2.1 = nI (zgP g u) ∧ (zFw I nc F v u row 9).2.2.2.1 = nI (zgD g u) := by
  have hb := zDg_b hn10 (hd u hu hul)
  obtain ⟨p1, p2, p3, p4, ⟨p, p5, p6⟩, d, p7, p8⟩ := zFw_go h hg hL hn10 hd hu hul row (zgN g u) (Nat.le_refl _)
  have hv1 := zLs_0 h hL p1 p2 hn10 hd (by omega)
  obtain ⟨q1, q2, q3⟩ := zRw_path h hr hg hL hn10 hd hf hu hul row (zgN g u) (Nat.le_refl _)
  have z0 : zgP g v = 0 ∧ zgD g v = 0 := by
    unfold zgP zgD
    rw [hL.1]
    exact ⟨rfl, rfl⟩
  rw [zFw_at hv1 hb.1]
  refine ⟨?_, p3, ?_, ?_⟩
  · by_cases hj : j < zgN g u
    · rw [if_pos hj]
      exact q3 j hj
    · rw [if_neg hj]
      have hn : (zRw J G f nc u (zgN g u)).2 = none := by
        rw [q2, hv1]
        exact zNx_v h hr hg hL hn10 hd hf hv
      have := zRw_no hn (j - zgN g u)
      rw [show zgN g u + (j - zgN g u) = j by omega] at this
      rw [this]
      rfl
  · rw [p5]
    congr 1
    rw [hv1] at p6
    omega
  · rw [p7]
    congr 1
    rw [hv1] at p8
    omega
/-- no way -/
theorem zRw_non {J : zIt} {G : Nat → Int32} {nc u n : Nat} {f : Nat → Int64} {g : Nat → Nat} (hf : ∀ x, x < n → f x = lN (zg2 g x)) (hu : u < n) (hul : ¬ g u < 1152921504606846976) (j : Nat) : zoi (zRw J G f nc u j).2 = -1 := by
  have h0 : (zRw J G f nc u 0).2 = none := by
    show (if lg_cmp (f u) zFAR < 0 then zNx J G f u nc else none) = none
    rw [if_neg]
    rw [hf u hu]
    have e : zg2 g u = 1000000000000000 := by unfold zg2; rw [if_neg hul]
    rw [e]
    exact fun q => absurd ((zcN_lt (a := 1000000000000000) (b := 1000000000000000) (by omega) (by omega)).mp q) (by omega)
  have := zRw_no h0 j
  rw [Nat.zero_add] at this
  rw [this]
  rfl
