/-! GOING A WAY: the reference goes the same one -/
theorem zLs_pos {I : zIt} {nc v x n : Nat} {g : Nat → Nat} (h : zCbs I nc) (hL : zLs I nc v g) (hx : x < 10) (hlt : g x < 1152921504606846976) (hn10 : n ≤ 10) (hd : ∀ x, x < 10 → g x < 1152921504606846976 → zDg n g x) : 0 < zg2 g x ↔ x ≠ v := by
  have e := (zg2_lt hn10 hlt (hd x hx hlt)).1
  constructor
  · intro h0 hxv
    subst hxv
    have : zgP g x = 0 ∧ zgD g x = 0 ∧ zgN g x = 0 := by
      unfold zgP zgD zgN
      rw [hL.1]
      exact ⟨rfl, rfl, rfl⟩
    omega
  · intro hxv
    rcases Nat.eq_zero_or_pos (zgN g x) with h0 | h0
    · exact absurd (zLs_0 h hL hx hlt hn10 hd h0) hxv
    · omega
theorem zNxb_eq {I J : zIt} {G : Nat → Int32} {nc v n x c : Nat} {F f : Nat → Int64} {g : Nat → Nat} (h : zCbs I nc) (hr : zRel0 I J G nc) (hg : zRw0 F g) (hL : zLs I nc v g) (hn10 : n ≤ 10) (hd : ∀ x, x < 10 → g x < 1152921504606846976 → zDg n g x)
    (hf : ∀ x, x < n → f x = lN (zg2 g x)) (hx : x < 10) (hlt : g x < 1152921504606846976) (hc : c < nc) : zNxb J G f x c = true ↔ x ≠ v ∧ ∃ y, y < 10 ∧ zCleads I (32 + c) (nI x) = nI y ∧ zAd I c x y ∧ g x = g y + zw1 I c ∧ (zAcr J c (nI x)).toNatClampNeg = y := by
  obtain ⟨e0, e1, ew, w1, w2⟩ := zRel0_at h hr hc
  have hG := (hr c hc).2.2.2.2
  obtain ⟨-, -, ha, hb, -⟩ := zCbs_at h hc
  have hpos := zLs_pos h hL hx hlt hn10 hd
  have hxd := hd x hx hlt
  have hxb := (zg2_lt hn10 hlt hxd).2
  unfold zNxb
  rw [decide_eq_true_iff, hf x hxd.1, show (0 : Int64) = lN 0 from rfl, zcN_le (by omega) (by omega), ew]
  unfold zAcr
  rw [e0, e1]
  have hy : ∀ y, zAd I c x y → (if nI (zea I c) = nI x then nI (zeb I c) else nI (zea I c)) = nI y → y < 10 → (lg_cmp (f (if nI (zea I c) = nI x then nI (zeb I c) else nI (zea I c)).toNatClampNeg + lN (zw2 I c)) (lN (zg2 g x)) = 0 ↔ g x = g y + zw1 I c) := by
    intro y hA e hy
    have hyl := zLs_go h hL hn10 hc hA hlt hxd
    have hyd := hd y hy hyl
    have hyb := (zg2_lt hn10 hyl hyd).2
    rw [e, nI_clamp (by omega), hf y hyd.1, lN_add, zcN_eq (by omega) (by omega)]
    have h3 := (zLs_le2 h hL hn10 hc (zAd_sym hA) hyl hlt hyd hxd).2.2
    constructor
    · intro q; exact h3.mpr q.symm
    · intro q; exact (h3.mp q).symm
  constructor
  · rintro ⟨g1, g2, g3, g4⟩
    have hwk : I (32 + c) 5 = 0 := Decidable.not_not.mp fun r => g1 (hG.mpr r)
    have hxv := hpos.mp (by omega)
    refine ⟨hxv, ?_⟩
    rcases zCl_spec h hc hx with ⟨e, hno⟩ | ⟨y, hyy, e, hA, huq⟩
    · rcases g2 with q | q
      · have := nI_inj q (by omega) (by omega)
        exact absurd ⟨hwk, Or.inl ⟨this.symm, rfl⟩⟩ (hno (zeb I c))
      · have := nI_inj q (by omega) (by omega)
        exact absurd ⟨hwk, Or.inr ⟨this.symm, rfl⟩⟩ (hno (zea I c))
    · have hz : (if nI (zea I c) = nI x then nI (zeb I c) else nI (zea I c)) = nI y := by
        by_cases q : nI (zea I c) = nI x
        · rw [if_pos q, huq (zeb I c) ⟨hwk, Or.inl ⟨(nI_inj q (by omega) (by omega)).symm, rfl⟩⟩]
        · rw [if_neg q]
          have q2 := g2.resolve_left q
          rw [huq (zea I c) ⟨hwk, Or.inr ⟨(nI_inj q2 (by omega) (by omega)).symm, rfl⟩⟩]
      exact ⟨y, hyy, e, hA, (hy y hA hz hyy).mp g4, by rw [hz, nI_clamp (by omega)]⟩
  · rintro ⟨hxv, y, hyy, e, hA, e2, e3⟩
    have h0 := hpos.mpr hxv
    have hz : (if nI (zea I c) = nI x then nI (zeb I c) else nI (zea I c)) = nI y := by
      by_cases q : nI (zea I c) = nI x
      · rw [if_pos q] at e3 ⊢
        rw [nI_clamp (by omega)] at e3
        rw [e3]
      · rw [if_neg q] at e3 ⊢
        rw [nI_clamp (by omega)] at e3
        rw [e3]
    refine ⟨fun q => hG.mp q hA.1, ?_, by omega, (hy y hA hz hyy).mpr e2⟩
    rcases hA.2 with ⟨q, -⟩ | ⟨q, -⟩
    · exact Or.inl (by rw [q])
    · exact Or.inr (by rw [q])
theorem zNx_v {I J : zIt} {G : Nat → Int32} {nc v n : Nat} {F f : Nat → Int64} {g : Nat → Nat} (h : zCbs I nc) (hr : zRel0 I J G nc) (hg : zRw0 F g) (hL : zLs I nc v g) (hn10 : n ≤ 10) (hd : ∀ x, x < 10 → g x < 1152921504606846976 → zDg n g x)
    (hf : ∀ x, x < n → f x = lN (zg2 g x)) (hv : v < 10) : zNx J G f v nc = none := by
  unfold zNx
  refine zfst_none fun c hc => ?_
  cases hz : zNxb J G f v c with
  | false => rfl
  | true => exact absurd rfl ((zNxb_eq h hr hg hL hn10 hd hf hv (by rw [hL.1]; omega) hc).mp hz).1
theorem zNx_eq {I J : zIt} {G : Nat → Int32} {nc v n x : Nat} {F f : Nat → Int64} {g : Nat → Nat} (h : zCbs I nc) (hr : zRel0 I J G nc) (hg : zRw0 F g) (hL : zLs I nc v g) (hn10 : n ≤ 10) (hd : ∀ x, x < 10 → g x < 1152921504606846976 → zDg n g x)
    (hf : ∀ x, x < n → f x = lN (zg2 g x)) (hx : x < 10) (hlt : g x < 1152921504606846976) (hxv : x ≠ v) : zNx J G f x nc = zfst (zLbc I F x) nc := by
  unfold zNx
  refine zfst_congr fun c hc => ?_
  cases hz : zLbc I F x c with
  | true =>
    obtain ⟨y, hy, e1, hA, e2⟩ := (zLbc_iff h hg hx hc).mp hz
    refine (zNxb_eq h hr hg hL hn10 hd hf hx hlt hc).mpr ⟨hxv, y, hy, e1, hA, e2, ?_⟩
    obtain ⟨e0, e1', -⟩ := zRel0_at h hr hc
    obtain ⟨-, -, ha, hb, -⟩ := zCbs_at h hc
    unfold zAcr
    rw [e0, e1']
    have huq : ∀ y', zAd I c x y' → y' = y := by
      rcases zCl_spec h hc hx with ⟨q, -⟩ | ⟨z, hz, q, -, q3⟩
      · rw [e1] at q; exact absurd q (nI_ne1 (by omega))
      · intro y' hy'
        rw [q3 y' hy', q3 y hA]
    by_cases q : nI (zea I c) = nI x
    · rw [if_pos q, nI_clamp (by omega)]
      exact huq _ ⟨hA.1, Or.inl ⟨(nI_inj q (by omega) (by omega)).symm, rfl⟩⟩
    · rw [if_neg q, nI_clamp (by omega)]
      rcases hA.2 with ⟨q1, -⟩ | ⟨q1, -⟩
      · exact absurd (by rw [q1]) q
      · exact huq _ ⟨hA.1, Or.inr ⟨q1, rfl⟩⟩
  | false =>
    cases hz2 : zNxb J G f x c with
    | false => rfl
    | true =>
      obtain ⟨-, y, hy, e1, hA, e2, -⟩ := (zNxb_eq h hr hg hL hn10 hd hf hx hlt hc).mp hz2
      have := (zLbc_iff h hg hx hc).mpr ⟨y, hy, e1, hA, e2⟩
      rw [this] at hz
      cases hz
