theorem z_ltn {a n : Nat} (h : nI a < nI n) (ha : a < 2 ^ 31) (hn : n < 2 ^ 31) : a < n := by
  rw [Int32.lt_iff_toInt_lt, nI_toInt ha, nI_toInt hn] at h
  omega
theorem zcls_mono {ni nc ns nt : Nat} {ty ty' : zTyp} {P P' : zPt} (h1 : ∀ κ t, ty κ = some t → ty' κ = some t) (h2 : ∀ κ t, ty κ = some t → P' κ = P κ) (h : zcls ni nc ns nt ty P) : zcls ni nc ns nt ty' P' := by
  obtain ⟨⟨a1, a2⟩, b, c1, c2, c3, c4⟩ := id h
  have r0 := h2 _ _ (zc_t0 h)
  have r1 := h2 _ _ (zc_t1 h)
  refine ⟨⟨fun q hq => h1 _ _ (a1 q hq), fun q hq => ?_⟩, b, fun i hi => ⟨h1 _ _ (c1 i hi).1, ?_⟩, fun i hi => ⟨h1 _ _ (c2 i hi).1, ?_⟩, fun i hi => ⟨h1 _ _ (c3 i hi).1, ?_⟩, fun i hi => ⟨⟨h1 _ _ (c4 i hi).1.1, ?_⟩, ⟨h1 _ _ (c4 i hi).2.1.1, ?_⟩, h1 _ _ (c4 i hi).2.2.1, ?_⟩⟩
  · have := a2 q hq
    have hk : q.1 = 0 ∨ q.1 = 1 := by
      have key : ∀ q ∈ zcP, q.1 = 0 ∨ q.1 = 1 := by decide
      exact key q hq
    rcases hk with e | e
    · rw [e] at this ⊢; rw [r0]; exact this
    · rw [e] at this ⊢; rw [r1]; exact this
  · rw [h2 _ _ (zc_t2 h)]; exact (c1 i hi).2
  · rw [h2 _ _ (zc_t3 h)]; exact (c2 i hi).2
  · rw [h2 _ _ (zc_t4 h)]; exact (c3 i hi).2
  · rw [h2 _ _ (zc_t5 h)]; exact (c4 i hi).1.2
  · rw [h2 _ _ (c4 i hi).1.1]; exact (c4 i hi).2.1.2
  · rw [h2 _ _ (c4 i hi).2.1.1]; exact (c4 i hi).2.2.2
