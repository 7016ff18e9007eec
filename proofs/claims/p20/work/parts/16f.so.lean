/-! WHAT isSo ASKS, of the tables alone: ways, sums, what is reached, faults -/
theorem zed_1 {I : zIt} {nc k : Nat} (h : zCbs I nc) (hk : k < nc) : 1 ≤ zed I k := by
  obtain ⟨a, b, n, d, p, -, -, -, -, h5, h6, -, -, -, -, h11, -⟩ := h k hk
  unfold zed
  rw [h11, nI_clamp (by omega)]
  exact h5
theorem zFw_cab {I : zIt} {nc v u n : Nat} {F : Nat → Int64} {g : Nat → Nat} (h : zCbs I nc) (hg : zRw0 F g) (hL : zLs I nc v g) (hn10 : n ≤ 10) (hd : ∀ x, x < 10 → g x < 1152921504606846976 → zDg n g x) (hu : u < 10) (hul : g u < 1152921504606846976) (row : Nat → Int32) :
    ∀ k, k ≤ zgN g u → (∀ j, j < k → ∃ q, q < nc ∧ (zFw I nc F v u row k).2.2.2.2 j = nI q ∧ I (32 + q) 5 = 0) ∧ zgD g (zFw I nc F v u row k).1 + k ≤ zgD g u := by
  intro k
  induction k with
  | zero => intro _; exact ⟨fun j hj => absurd hj (Nat.not_lt_zero _), Nat.le_refl _⟩
  | succ k ih =>
    intro hk
    obtain ⟨j1, j2⟩ := ih (by omega)
    obtain ⟨i1, i2, i3, i4, -⟩ := zFw_go h hg hL hn10 hd hu hul row k (by omega)
    have hxv : (zFw I nc F v u row k).1 ≠ v := by
      intro e
      rw [e] at i4
      have : zgN g v = 0 := by unfold zgN; rw [hL.1]
      omega
    obtain ⟨c0, y, -, hc, hy, hA, e, e2⟩ := zFw1_spec h hg hL i1 hxv i2
    have hw := zw1_b h hc
    have hyl : g y < 1152921504606846976 := by omega
    have hb := zDg_b hn10 (hd y hy hyl)
    obtain ⟨s1, s2, s3⟩ := zLs_step h hc e (by omega) (hd y hy hyl).2.2.1 hb.1
    have h1 := zed_1 h hc
    rw [zFw_s, e2]
    dsimp only
    refine ⟨fun j hj => ?_, by omega⟩
    rw [i3]
    by_cases hjk : j = k
    · subst hjk
      rw [zs_self]
      exact ⟨c0, hc, rfl, hA.1⟩
    · rw [zs_ne _ _ hjk]
      exact j1 j (by omega)
theorem zLs_all {ni nc ns nt hrs : Nat} {I J : zIt} {L K : zLt} (h : zREL ni nc ns nt hrs I L J K) {v : Nat} {g : Nat → Nat} (hv : v < ni) (hL : zLs I nc v g) : ∀ x, x < 10 → g x < 1152921504606846976 → zDg ni g x := by
  have hCb := h.2.2.2.2.1.1
  have hNd := h.2.2.2.2.1.2.2
  exact zLs_dig hCb hL hv h.2.1.1 fun k x y hk hA => by
    rcases hA.2 with ⟨q, -⟩ | ⟨q, -⟩
    · rw [q]; exact (hNd k hk).1
    · rw [q]; exact (hNd k hk).2
theorem zm1_lt {k : Nat} (hk : k < 10) : ¬ nI k < -1 := by
  have key : ∀ k, k < 10 → ¬ nI k < -1 := by decide +kernel
  exact key k hk
theorem znI_lt {a b : Nat} (ha : a < 2 ^ 31) (hb : b < 2 ^ 31) : nI a < nI b ↔ a < b := by
  rw [Int32.lt_iff_toInt_lt, nI_toInt ha, nI_toInt hb]
  omega
/-- a trader's way, when the ways are fresh -/
theorem zway_so {ni nc ns nt hrs : Nat} {I J : zIt} {L K : zLt} (h : zREL ni nc ns nt hrs I L J K) (h0 : I 0 7 = 0) {t : Nat} (ht : t < nt) : ∃ u v N : Nat, u < ni ∧ v < ni ∧ I (64 + t) 0 = nI u ∧ I (64 + t) 1 = nI v ∧ N ≤ 9 ∧ (∀ k, k < 10 → (nI k < I (80 + t) 1 ↔ k < N)) ∧ (∀ j, j < N → ∃ k, k < nc ∧ I (96 + t) j = nI k ∧ I (32 + k) 5 = 0) ∧
    ((I (80 + t) 1 = -1 ∧ I (80 + t) 2 = -1 ∧ I (80 + t) 3 = -1 ∧ N = 0 ∧ ∀ f0, zPrr I nc (zS0 f0 u) 9 v = -1) ∨
    ∃ p0 d0 : Nat, I (80 + t) 1 = nI N ∧ I (80 + t) 2 = nI p0 ∧ I (80 + t) 3 = nI d0 ∧ N ≤ d0 ∧ d0 ≤ 4500 ∧ p0 ≤ 89991 ∧ ∀ f0, zPrr I nc (zS0 f0 u) 9 v = nI p0) := by
  obtain ⟨u, v, hu, hv, eu, ev⟩ := h.2.2.2.2.2.2.2.1.1 t ht
  have hW := h.2.2.2.2.2.2.2.2.2.1 h0 t ht
  have hCb := h.2.2.2.2.1.1
  have hni := h.2.1.1
  have hnc := h.2.1.2.1
  obtain ⟨F, g, hg, hL, hno, hyes⟩ := hW
  rw [eu, nI_clamp (by omega)] at hno hyes
  rw [ev, nI_clamp (by omega)] at hL hyes
  have hd := zLs_all h hv hL
  have hpr := fun f0 => zPrr_eq hCb hnc hg hL hni hd (show v < 10 by omega) (show u < 10 by omega) f0
  by_cases hul : g u < 1152921504606846976
  · obtain ⟨row, y1, y2, y3, y4⟩ := hyes hul
    have hdu := hd u (by omega) hul
    have hb := zDg_b hni hdu
    have hrow := zRw_row (f := fun x => lN (zg2 g x)) hCb (zREL_rel0 h) hg hL hni hd (fun x _ => rfl) (show v < 10 by omega) (show u < 10 by omega) hul row 0
    obtain ⟨-, r1, r2, r3⟩ := hrow
    obtain ⟨p1, p2, p3, p4, -⟩ := zFw_go hCb hg hL hni hd (show u < 10 by omega) hul row (zgN g u) (Nat.le_refl _)
    have hv1 := zLs_0 hCb hL p1 p2 hni hd (by omega)
    obtain ⟨c1, c2⟩ := zFw_cab hCb hg hL hni hd (show u < 10 by omega) hul row (zgN g u) (Nat.le_refl _)
    have e9 := zFw_at hv1 hb.1
    refine ⟨u, v, zgN g u, hu, hv, eu, ev, hb.1, fun k hk => ?_, fun j hj => ?_, Or.inr ⟨zgP g u, zgD g u, ?_, ?_, ?_, ?_, hb.2.1, hb.2.2.1, fun f0 => ?_⟩⟩
    · rw [y1, r1]
      exact znI_lt (by omega) (by omega)
    · rw [y4, e9]
      exact c1 j hj
    · rw [y1, r1]
    · rw [y2, r2]
    · rw [y3, r3]
    · omega
    · rw [hpr f0, if_pos hul]
  · obtain ⟨y1, y2, y3⟩ := hno hul
    refine ⟨u, v, 0, hu, hv, eu, ev, Nat.zero_le _, fun k hk => ?_, fun j hj => absurd hj (Nat.not_lt_zero _), Or.inl ⟨y1, y2, y3, rfl, fun f0 => ?_⟩⟩
    · rw [y1]
      exact ⟨fun q => absurd q (zm1_lt hk), fun q => absurd q (Nat.not_lt_zero _)⟩
    · rw [hpr f0, if_neg hul]
/-! what is reached -/
theorem zLs_conn1 {I : zIt} {nc v k n : Nat} {g g' : Nat → Nat} (h : zCbs I nc) (hn : n ≤ 10) (hL : zLs I nc v g) (hL' : zLs I nc k g') (hd : ∀ x, x < 10 → g x < 1152921504606846976 → zDg n g x) (hgk : g k < 1152921504606846976) : ∀ x, x < 10 → g' x < 1152921504606846976 → g x < 1152921504606846976 := by
  have key : ∀ m x, x < 10 → g' x = m → g' x < 1152921504606846976 → g x < 1152921504606846976 := by
    intro m
    induction m using Nat.strongRecOn with
    | ind m ih =>
      intro x hx e hlt
      by_cases hxk : x = k
      · rw [hxk]; exact hgk
      · obtain ⟨c0, a, hc, hA, e2⟩ := hL'.2.2 x hx hxk hlt
        have ha := (zAd_in h hc hA).1
        have hw := zw1_b h hc
        have h1 := ih (g' a) (by omega) a ha rfl (by omega)
        exact zLs_go h hL hn hc hA h1 (hd a ha h1)
  exact fun x hx hlt => key _ x hx rfl hlt
theorem zLs_conn2 {I : zIt} {nc v k n : Nat} {g g' : Nat → Nat} (h : zCbs I nc) (hn : n ≤ 10) (hL : zLs I nc v g) (hL' : zLs I nc k g') (hd' : ∀ x, x < 10 → g' x < 1152921504606846976 → zDg n g' x) (hk : k < 10) (hgk : g k < 1152921504606846976) : g' v < 1152921504606846976 := by
  have key : ∀ m x, x < 10 → g x = m → g x < 1152921504606846976 → g' x < 1152921504606846976 → g' v < 1152921504606846976 := by
    intro m
    induction m using Nat.strongRecOn with
    | ind m ih =>
      intro x hx e hlt hlt'
      by_cases hxv : x = v
      · rw [← hxv]; exact hlt'
      · obtain ⟨c0, a, hc, hA, e2⟩ := hL.2.2 x hx hxv hlt
        have ha := (zAd_in h hc hA).1
        have hw := zw1_b h hc
        exact ih (g a) (by omega) a ha rfl (by omega) (zLs_go h hL' hn hc (zAd_sym hA) hlt' (hd' x hx hlt'))
  exact key _ k hk rfl hgk (by rw [hL'.1]; omega)
theorem zbits (r : Int32) (h : ∀ x, x < 32 → zbt r x = true → x < 10) : ∃ m, m < 1024 ∧ r = nI m ∧ ∀ x, x < 32 → m.testBit x = zbt r x := by
  refine ⟨r.toBitVec.toNat, ?_, ?_, fun x _ => BitVec.testBit_toNat r.toBitVec⟩
  · have h1 : r.toBitVec.toNat < 2 ^ 10 := Nat.lt_pow_two_of_testBit _ fun i hi => by
      rw [BitVec.testBit_toNat]
      by_cases h32 : i < 32
      · cases hb : r.toBitVec.getLsbD i with
        | false => rfl
        | true => exact absurd (h i h32 hb) (by omega)
      · exact BitVec.getLsbD_of_ge _ _ (by omega)
    exact h1
  · refine Int32.toBitVec_inj.mp (BitVec.eq_of_toNat_eq ?_)
    show r.toBitVec.toNat = (BitVec.ofNat 32 r.toBitVec.toNat).toNat
    rw [BitVec.toNat_ofNat, Nat.mod_eq_of_lt r.toBitVec.isLt]
theorem zreach_so {ni nc ns nt hrs : Nat} {I J : zIt} {L K : zLt} (h : zREL ni nc ns nt hrs I L J K) {i : Nat} (hi : i < ni) : ∃ m, m < 1024 ∧ zRer I nc (1 <<< (nI i &&& 31)) 9 = nI m ∧ m.testBit i = true ∧ ∀ k, k < 10 → m.testBit k = true → k < ni ∧ zRer I nc (1 <<< (nI k &&& 31)) 9 = nI m := by
  have hCb := h.2.2.2.2.1.1
  have hni := h.2.1.1
  obtain ⟨g, -, hL, hd, -⟩ := s2_fars h hi (fun _ => 0)
  have bt := zRer_bt hCb hL hni hd (show i < 10 by omega)
  obtain ⟨m, hm, em, hbit⟩ := zbits (zRer I nc (1 <<< (nI i &&& 31)) 9) fun x hx hb => ((bt x hx).mp hb).1
  refine ⟨m, hm, em, ?_, fun k hk hb => ?_⟩
  · rw [hbit i (by omega)]
    exact (bt i (by omega)).mpr ⟨by omega, by rw [hL.1]; omega⟩
  · rw [hbit k (by omega)] at hb
    have hgk := ((bt k (by omega)).mp hb).2
    have hkn := (hd k hk hgk).1
    refine ⟨hkn, ?_⟩
    obtain ⟨g', -, hL', hd', -⟩ := s2_fars h hkn (fun _ => 0)
    have bt' := zRer_bt hCb hL' hni hd' hk
    have a1 := zLs_conn1 hCb hni hL hL' hd hgk
    have a2 := zLs_conn1 hCb hni hL' hL hd' (zLs_conn2 hCb hni hL hL' hd' hk hgk)
    rw [← em]
    refine zbt_ext fun x hx => ?_
    have e1 := bt x hx
    have e2 := bt' x hx
    rw [Bool.eq_iff_iff, e1, e2]
    exact ⟨fun q => ⟨q.1, a1 x q.1 q.2⟩, fun q => ⟨q.1, a2 x q.1 q.2⟩⟩
theorem zset_bit : ∀ a, a < 32 → ∀ b, b < 32 → ∀ k, k < 10 → ((nI (32 * a + b)).toInt64 >>> ((nI k).toInt64 &&& 63)) &&& 1 = (if (32 * a + b).testBit k then 1 else 0 : Int64) := by decide +kernel
theorem zset_at {m k : Nat} (hm : m < 1024) (hk : k < 10) : ((nI m).toInt64 >>> ((nI k).toInt64 &&& 63)) &&& 1 = (if m.testBit k then 1 else 0 : Int64) := by
  have := zset_bit (m / 32) (by omega) (m % 32) (by omega) k hk
  rw [show 32 * (m / 32) + m % 32 = m by omega] at this
  exact this
/-! faults -/
theorem zfault_so {ni nc ns nt hrs : Nat} {I J : zIt} {L K : zLt} (h : zREL ni nc ns nt hrs I L J K) {j : Nat} (hj : j < zNf I) : ∃ q, q < nc ∧ I 6 j / 8 = nI q ∧ ¬ I 6 j = -1 ∧ ¬ I (32 + q) 5 = 0 := by
  have hF := h.2.2.2.2.2.1
  have hnc := h.2.1.2.1
  obtain ⟨q, w, hq, hw, e⟩ := hF.2.1.1 j hj
  have h8 : w < 8 := Nat.lt_of_lt_of_le hw (hF.2.2.2 q hq)
  refine ⟨q, hq, by rw [e]; exact zdiv8 q (by omega) w h8, ?_, fun e0 => ?_⟩
  · rw [e]
    exact nI_ne1 (by omega)
  · have hb := (hF.2.1.2.2 q w hq (by omega)).mpr ⟨hw, j, hj, e⟩
    have e1 : (fun c => I (32 + c) 5) q = 0 := e0
    rw [e1, zbt_0] at hb
    cases hb
theorem zacc_so {ni nc ns nt hrs : Nat} {I J : zIt} {L K : zLt} (h : zREL ni nc ns nt hrs I L J K) (hh : hrs < 1000000) {t : Nat} (ht : t < nt) : ∃ a b : Nat, a < 1000000 ∧ b < 1000000 ∧ (I (64 + t) 9).toInt64 = lN a ∧ (I (64 + t) 10).toInt64 = lN b := by
  obtain ⟨-, -, d, x, l0, m, a, b, c0, -, ⟨-, hb, hc, -, eb, ec⟩, -⟩ := h.2.2.2.2.2.2.2.1.2 t ht
  exact ⟨b, c0, by omega, by omega, by rw [eb, nI_l (by omega)], by rw [ec, nI_l (by omega)]⟩
