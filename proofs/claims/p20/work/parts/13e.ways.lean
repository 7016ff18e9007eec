/-! GOING A WAY, in the class -/
theorem zLbc_iff {I : zIt} {nc c x : Nat} {F : Nat → Int64} {g : Nat → Nat} (h : zCbs I nc) (hg : zRw0 F g) (hx : x < 10) (hc : c < nc) : zLbc I F x c = true ↔ ∃ y, y < 10 ∧ zCleads I (32 + c) (nI x) = nI y ∧ zAd I c x y ∧ g x = g y + zw1 I c := by
  unfold zLbc
  rw [decide_eq_true_iff]
  have hw := zw1_b h hc
  rcases zCl_spec h hc hx with ⟨e, hno⟩ | ⟨y, hy, e, hA, huq⟩
  · constructor
    · intro q
      exact absurd e q.1
    · rintro ⟨y, -, -, hA, -⟩
      exact absurd hA (hno y)
  · have b1 := hg x hx
    have b2 := hg y hy
    rw [e, nI_clamp (by omega), b1.1, b2.1, (zCbs_at h hc).2.2.2.2.2.2.1, lN_add, zcN_eq (by omega) (by omega)]
    constructor
    · intro q
      exact ⟨y, hy, rfl, hA, q.2⟩
    · rintro ⟨y', hy', -, hA', e'⟩
      have := huq y' hA'
      subst this
      exact ⟨nI_ne1 (by omega), e'⟩
theorem zFw1_spec {I : zIt} {nc v : Nat} {F : Nat → Int64} {g : Nat → Nat} (h : zCbs I nc) (hg : zRw0 F g) (hL : zLs I nc v g) {q : zFq} (hx : q.1 < 10) (hxv : q.1 ≠ v) (hlt : g q.1 < 1152921504606846976) :
    ∃ c y, zfst (zLbc I F q.1) nc = some c ∧ c < nc ∧ y < 10 ∧ zAd I c q.1 y ∧ g q.1 = g y + zw1 I c ∧ zFw1 I nc F v q = (y, q.2.1 + 1, q.2.2.1 + nI (zep I c), q.2.2.2.1 + nI (zed I c), zs q.2.2.2.2 q.2.1 (nI c)) := by
  obtain ⟨k, a, hk, hA, e⟩ := hL.2.2 q.1 hx hxv hlt
  have ha := (zAd_in h hk hA).1
  have hk1 : zLbc I F q.1 k = true := by
    rcases zCl_spec h hk hx with ⟨e1, hno⟩ | ⟨y, hy, e1, hA1, huq⟩
    · exact absurd (zAd_sym hA) (hno a)
    · have := huq a (zAd_sym hA)
      subst this
      exact (zLbc_iff h hg hx hk).mpr ⟨a, hy, e1, hA1, e⟩
  cases hz : zfst (zLbc I F q.1) nc with
  | none =>
    have := zfst_no hz k hk
    rw [hk1] at this
    cases this
  | some c =>
    obtain ⟨hc, hc1, -⟩ := zfst_spec hz
    obtain ⟨y, hy, e1, hA1, e2⟩ := (zLbc_iff h hg hx hc).mp hc1
    refine ⟨c, y, rfl, hc, hy, hA1, e2, ?_⟩
    unfold zFw1
    rw [if_neg hxv, hz]
    dsimp only
    rw [e1, nI_clamp (by omega), (zCbs_at h hc).2.2.2.2.2.2.2.1, (zCbs_at h hc).2.2.2.2.2.2.2.2]
theorem zFw_s {I : zIt} {nc : Nat} {f : Nat → Int64} {v u k : Nat} {row : Nat → Int32} : zFw I nc f v u row (k + 1) = zFw1 I nc f v (zFw I nc f v u row k) := rfl
/-- how the way goes: place k of it -/
theorem zFw_go {I : zIt} {nc v u n : Nat} {F : Nat → Int64} {g : Nat → Nat} (h : zCbs I nc) (hg : zRw0 F g) (hL : zLs I nc v g) (hn10 : n ≤ 10) (hd : ∀ x, x < 10 → g x < 1152921504606846976 → zDg n g x) (hu : u < 10) (hul : g u < 1152921504606846976) (row : Nat → Int32) :
    ∀ k, k ≤ zgN g u → (zFw I nc F v u row k).1 < 10 ∧ g (zFw I nc F v u row k).1 < 1152921504606846976 ∧ (zFw I nc F v u row k).2.1 = k ∧ zgN g u = zgN g (zFw I nc F v u row k).1 + k ∧
      (∃ p, (zFw I nc F v u row k).2.2.1 = nI p ∧ zgP g u = zgP g (zFw I nc F v u row k).1 + p) ∧ ∃ d, (zFw I nc F v u row k).2.2.2.1 = nI d ∧ zgD g u = zgD g (zFw I nc F v u row k).1 + d := by
  intro k
  induction k with
  | zero => intro _; exact ⟨hu, hul, rfl, rfl, ⟨0, rfl, rfl⟩, 0, rfl, rfl⟩
  | succ k ih =>
    intro hk
    obtain ⟨i1, i2, i3, i4, ⟨p, i5, i6⟩, d, i7, i8⟩ := ih (by omega)
    have hxv : (zFw I nc F v u row k).1 ≠ v := by
      intro e
      rw [e] at i4
      have : zgN g v = 0 := by unfold zgN; rw [hL.1]
      omega
    obtain ⟨c, y, -, hc, hy, hA, e, e2⟩ := zFw1_spec h hg hL i1 hxv i2
    have hw := zw1_b h hc
    have hyl : g y < 1152921504606846976 := by omega
    have hb := zDg_b hn10 (hd y hy hyl)
    obtain ⟨s1, s2, s3⟩ := zLs_step h hc e (by omega) (hd y hy hyl).2.2.1 hb.1
    rw [zFw_s, e2]
    dsimp only
    refine ⟨hy, hyl, by rw [i3], by omega, ⟨p + zep I c, ?_, by omega⟩, d + zed I c, ?_, by omega⟩
    · rw [i5]; exact (Int32.ofNat_add p (zep I c)).symm
    · rw [i7]; exact (Int32.ofNat_add d (zed I c)).symm
theorem zLs_0 {I : zIt} {nc v x : Nat} {g : Nat → Nat} (h : zCbs I nc) (hL : zLs I nc v g) (hx : x < 10) (hlt : g x < 1152921504606846976) {n : Nat} (hn10 : n ≤ 10) (hd : ∀ x, x < 10 → g x < 1152921504606846976 → zDg n g x) (h0 : zgN g x = 0) : x = v := by
  by_cases hxv : x = v
  · exact hxv
  · obtain ⟨k, a, hk, hA, e⟩ := hL.2.2 x hx hxv hlt
    have ha := (zAd_in h hk hA).1
    have hw := zw1_b h hk
    have hal : g a < 1152921504606846976 := by omega
    have hb := zDg_b hn10 (hd a ha hal)
    have := (zLs_step h hk e (by omega) (hd a ha hal).2.2.1 hb.1).2.2
    omega
theorem zFin_ok (nc : Nat) : zFin nc := by
  intro I h u v f row hu hv hne
  obtain ⟨g, hg, hL⟩ := zMt_ls h hv f
  have hd := zLs_dig h hL hv (Nat.le_refl _) (fun k x y hk hA => (zAd_in h hk hA).1)
  have hgu := hg u hu
  have hul : g u < 1152921504606846976 := by
    rcases Nat.lt_or_ge (g u) 1152921504606846976 with q | q
    · exact q
    · exact absurd (by rw [hgu.1, show g u = 1152921504606846976 by omega]; rfl) hne
  have hb := zDg_b (Nat.le_refl _) (hd u hu hul)
  obtain ⟨i1, i2, i3, i4, -⟩ := zFw_go h hg hL (Nat.le_refl _) hd hu hul row (zgN g u) (Nat.le_refl _)
  have hv1 := zLs_0 h hL i1 i2 (Nat.le_refl _) hd (by omega)
  rw [zFw_at hv1 hb.1]
  exact hv1
