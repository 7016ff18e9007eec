/-! THE PRICE BY ROUNDS -/
def zPw (B : Nat) (f : Nat → Int32) (q : Nat → Option Nat) : Prop := ∀ x, x < 10 → f x = zoi (q x) ∧ ∀ p, q x = some p → p ≤ B
/-- what a round may not break: a closed set, a lower bound -/
def zPs (S : Nat → Nat → Prop) (q : Nat → Option Nat) : Prop := ∀ x p, x < 10 → q x = some p → S x p
theorem zLow_spec {B : Nat} {f : Nat → Int32} {q : Nat → Option Nat} {a b w : Nat} (hB : B + w < 2 ^ 31) (hf : zPw B f q) (ha : a < 10) (hb : b < 10) {S : Nat → Nat → Prop} (hS : zPs S q) (hST : ∀ p, S a p → S b (p + w)) :
    ∃ q', zPw (B + w) (zLow f a b (nI w)) q' ∧ zPs S q' ∧ (∀ x p, x < 10 → q x = some p → ∃ p', p' ≤ p ∧ q' x = some p') ∧ ∀ p, q a = some p → ∃ p', p' ≤ p + w ∧ q' b = some p' := by
  obtain ⟨fa, ba⟩ := hf a ha
  obtain ⟨fb, bb⟩ := hf b hb
  unfold zLow
  cases hqa : q a with
  | none =>
    rw [fa, hqa, if_pos (show zoi none = -1 from rfl)]
    exact ⟨q, fun x hx => ⟨(hf x hx).1, fun p e => Nat.le_trans ((hf x hx).2 p e) (by omega)⟩, hS, fun x p _ e => ⟨p, Nat.le_refl _, e⟩, fun p e => by cases e⟩
  | some pa =>
    have hpa := ba pa hqa
    have hSa := hST pa (hS a pa ha hqa)
    rw [fa, hqa, if_neg (show ¬ zoi (some pa) = -1 from nI_ne1 (by omega))]
    have hadd : zoi (some pa) + nI w = nI (pa + w) := (Int32.ofNat_add pa w).symm
    have hset : ∃ q', zPw (B + w) (zs f b (nI (pa + w))) q' ∧ zPs S q' ∧ (∀ x, x ≠ b → q' x = q x) ∧ q' b = some (pa + w) := by
      refine ⟨zs q b (some (pa + w)), fun x hx => ?_, fun x p hx e => ?_, fun x hx => zs_ne _ _ hx, zs_self _ _ _⟩
      · by_cases hxb : x = b
        · subst hxb
          rw [zs_self, zs_self]
          refine ⟨rfl, fun p e => ?_⟩
          cases e
          omega
        · rw [zs_ne _ _ hxb, zs_ne _ _ hxb]
          exact ⟨(hf x hx).1, fun p e => Nat.le_trans ((hf x hx).2 p e) (by omega)⟩
      · by_cases hxb : x = b
        · subst hxb
          rw [zs_self] at e
          cases e
          exact hSa
        · rw [zs_ne _ _ hxb] at e
          exact hS x p hx e
    obtain ⟨q', g1, g2, g3, g4⟩ := hset
    cases hqb : q b with
    | none =>
      rw [fb, hqb, if_pos (show zoi none = -1 from rfl), hadd]
      refine ⟨q', g1, g2, fun x p hx e => ?_, fun p e => ?_⟩
      · by_cases hxb : x = b
        · subst hxb; rw [hqb] at e; cases e
        · exact ⟨p, Nat.le_refl _, by rw [g3 x hxb]; exact e⟩
      · cases e
        exact ⟨pa + w, Nat.le_refl _, g4⟩
    | some pb =>
      have hpb := bb pb hqb
      rw [fb, hqb, if_neg (show ¬ zoi (some pb) = -1 from nI_ne1 (by omega)), hadd]
      by_cases hc : pb ≤ pa + w
      · rw [if_pos (show zoi (some pb) ≤ nI (pa + w) from nI_le hc (by omega))]
        refine ⟨q, fun x hx => ⟨(hf x hx).1, fun p e => Nat.le_trans ((hf x hx).2 p e) (by omega)⟩, hS, fun x p _ e => ⟨p, Nat.le_refl _, e⟩, fun p e => ?_⟩
        cases e
        exact ⟨pb, hc, hqb⟩
      · rw [if_neg (show ¬ zoi (some pb) ≤ nI (pa + w) from fun z => by
          have z2 : nI pb ≤ nI (pa + w) := z
          rw [Int32.le_iff_toInt_le, nI_toInt (by omega), nI_toInt (by omega)] at z2
          omega)]
        refine ⟨q', g1, g2, fun x p hx e => ?_, fun p e => ?_⟩
        · by_cases hxb : x = b
          · subst hxb
            rw [hqb] at e
            cases e
            exact ⟨pa + w, by omega, g4⟩
          · exact ⟨p, Nat.le_refl _, by rw [g3 x hxb]; exact e⟩
        · cases e
          exact ⟨pa + w, Nat.le_refl _, g4⟩
theorem zPr_spec {I : zIt} {nc B : Nat} (h : zCbs I nc) {f : Nat → Int32} {q : Nat → Option Nat} (hB : B + 20000 * nc < 2 ^ 30) (hf : zPw B f q) {S : Nat → Nat → Prop} (hS : zPs S q) (hST : ∀ k x y p, k < nc → zAd I k x y → S x p → S y (p + zep I k)) : ∀ k, k ≤ nc →
    ∃ q', zPw (B + 20000 * k) (zPr I f k) q' ∧ zPs S q' ∧ (∀ x p, x < 10 → q x = some p → ∃ p', p' ≤ p ∧ q' x = some p') ∧ ∀ i x y p, i < k → zAd I i x y → q x = some p → ∃ p', p' ≤ p + zep I i ∧ q' y = some p' := by
  intro k
  induction k with
  | zero => intro _; exact ⟨q, hf, hS, fun x p _ e => ⟨p, Nat.le_refl _, e⟩, fun i x y p hi => absurd hi (by omega)⟩
  | succ k ih =>
    intro hk
    obtain ⟨q1, i1, i2, i3, i4⟩ := ih (by omega)
    obtain ⟨e0, e1, ha, hb, h5, h6, -, -, e4⟩ := zCbs_at h (show k < nc by omega)
    show ∃ q', zPw (B + 20000 * (k + 1)) (zPr1 I (zPr I f k) k) q' ∧ _
    unfold zPr1
    by_cases hw : I (32 + k) 5 = 0
    · rw [if_pos hw, e0, e1, e4, nI_clamp (by omega), nI_clamp (by omega)]
      have hA1 : zAd I k (zea I k) (zeb I k) := ⟨hw, Or.inl ⟨rfl, rfl⟩⟩
      obtain ⟨q2, j1, j2, j3, j4⟩ := zLow_spec (w := zep I k) (by omega) i1 ha hb i2 (fun p => hST k _ _ p (by omega) hA1)
      obtain ⟨q3, l1, l2, l3, l4⟩ := zLow_spec (w := zep I k) (by omega) j1 hb ha j2 (fun p => hST k _ _ p (by omega) (zAd_sym hA1))
      refine ⟨q3, fun x hx => ⟨(l1 x hx).1, fun p e => Nat.le_trans ((l1 x hx).2 p e) (by omega)⟩, l2, fun x p hx e => ?_, fun i x y p hi hA e => ?_⟩
      · obtain ⟨p1, z1, z2⟩ := i3 x p hx e
        obtain ⟨p2, z3, z4⟩ := j3 x p1 hx z2
        obtain ⟨p3, z5, z6⟩ := l3 x p2 hx z4
        exact ⟨p3, by omega, z6⟩
      · rcases Nat.lt_or_ge i k with r | r
        · have hy := (zAd_in h (show i < nc by omega) hA).2
          obtain ⟨p1, z1, z2⟩ := i4 i x y p r hA e
          obtain ⟨p2, z3, z4⟩ := j3 y p1 hy z2
          obtain ⟨p3, z5, z6⟩ := l3 y p2 hy z4
          exact ⟨p3, by omega, z6⟩
        · have hik : i = k := by omega
          subst hik
          obtain ⟨hx, hy⟩ := zAd_in h (show i < nc by omega) hA
          obtain ⟨p1, z1, z2⟩ := i3 x p hx e
          rcases hA.2 with ⟨ex, ey⟩ | ⟨ex, ey⟩
          · rw [ex] at z2
            obtain ⟨p2, z3, z4⟩ := j4 p1 z2
            obtain ⟨p3, z5, z6⟩ := l3 _ p2 hb z4
            rw [ey]
            exact ⟨p3, by omega, z6⟩
          · rw [ex] at z2
            obtain ⟨p2, z3, z4⟩ := j3 _ p1 hb z2
            obtain ⟨p3, z5, z6⟩ := l4 p2 z4
            rw [ey]
            exact ⟨p3, by omega, z6⟩
    · rw [if_neg hw]
      refine ⟨q1, fun x hx => ⟨(i1 x hx).1, fun p e => Nat.le_trans ((i1 x hx).2 p e) (by omega)⟩, i2, i3, fun i x y p hi hA e => ?_⟩
      rcases Nat.lt_or_ge i k with r | r
      · exact i4 i x y p r hA e
      · rw [show i = k by omega] at hA
        exact absurd hA.1 hw
theorem zPrr_s {I : zIt} {nc k : Nat} {f : Nat → Int32} : zPrr I nc f (k + 1) = zPr I (zPrr I nc f k) nc := rfl
/-- the price by rounds is the price of the least cost -/
theorem zPrr_eq {I : zIt} {nc v u n : Nat} {F : Nat → Int64} {g : Nat → Nat} (h : zCbs I nc) (hnc : nc ≤ 16) (hg : zRw0 F g) (hL : zLs I nc v g) (hn10 : n ≤ 10) (hd : ∀ x, x < 10 → g x < 1152921504606846976 → zDg n g x) (hv : v < 10) (hu : u < 10) (f0 : Nat → Int32) :
    zPrr I nc (zS0 f0 u) 9 v = if g u < 1152921504606846976 then nI (zgP g u) else -1 := by
  have hST : ∀ k x y p, k < nc → zAd I k x y → ((g x < 1152921504606846976 ↔ g u < 1152921504606846976) ∧ (g x < 1152921504606846976 → zgP g u ≤ p + zgP g x)) → ((g y < 1152921504606846976 ↔ g u < 1152921504606846976) ∧ (g y < 1152921504606846976 → zgP g u ≤ p + zep I k + zgP g y)) := by
    intro k x y p hk hA ⟨s1, s2⟩
    obtain ⟨hx, hy⟩ := zAd_in h hk hA
    have hxy : g x < 1152921504606846976 ↔ g y < 1152921504606846976 := ⟨fun q => zLs_go h hL hn10 hk hA q (hd x hx q), fun q => zLs_go h hL hn10 hk (zAd_sym hA) q (hd y hy q)⟩
    refine ⟨hxy.symm.trans s1, fun q => ?_⟩
    have qx := hxy.mpr q
    have h1 := s2 qx
    have h2 := (zLs_le2 h hL hn10 hk (zAd_sym hA) q qx (hd y hy q) (hd x hx qx)).2.1
    omega
  have key : ∀ r, r ≤ 9 → ∃ q, zPw (320000 * r) (zPrr I nc (zS0 f0 u) r) q ∧ zPs (fun x p => (g x < 1152921504606846976 ↔ g u < 1152921504606846976) ∧ (g x < 1152921504606846976 → zgP g u ≤ p + zgP g x)) q ∧
      (g u < 1152921504606846976 → ∀ j, j ≤ r → j ≤ zgN g u → ∃ p, q (zFw I nc F v u (fun _ => 0) j).1 = some p ∧ p + zgP g (zFw I nc F v u (fun _ => 0) j).1 ≤ zgP g u) := by
    intro r
    induction r with
    | zero =>
      intro _
      refine ⟨fun x => if x = u then some 0 else none, fun x hx => ?_, fun x p hx e => ?_, fun hul j hj _ => ?_⟩
      · show zS0 f0 u x = _ ∧ _
        unfold zS0
        dsimp only
        by_cases hxu : x = u
        · subst hxu
          rw [zs_self, if_pos rfl]
          exact ⟨rfl, fun p e => by cases e; omega⟩
        · rw [zs_ne _ _ hxu, if_neg hxu, if_pos hx]
          exact ⟨rfl, fun p e => by cases e⟩
      · dsimp only at e
        by_cases hxu : x = u
        · subst hxu
          rw [if_pos rfl] at e
          cases e
          exact ⟨Iff.rfl, fun _ => by omega⟩
        · rw [if_neg hxu] at e
          cases e
      · rw [show j = 0 by omega]
        exact ⟨0, if_pos rfl, by show 0 + zgP g u ≤ zgP g u; omega⟩
    | succ r ih =>
      intro hr
      obtain ⟨q, i1, i2, i3⟩ := ih (by omega)
      obtain ⟨q', j1, j2, j3, j4⟩ := zPr_spec h (by omega) i1 i2 hST nc (Nat.le_refl _)
      rw [zPrr_s]
      refine ⟨q', fun x hx => ⟨(j1 x hx).1, fun p e => Nat.le_trans ((j1 x hx).2 p e) (by omega)⟩, j2, fun hul j hj hjN => ?_⟩
      rcases Nat.lt_or_ge r j with hrj | hrj
      · have hjr : j = r + 1 := by omega
        subst hjr
        obtain ⟨p, e, hp⟩ := i3 hul r (by omega) (by omega)
        obtain ⟨p1, p2, p3, p4, -⟩ := zFw_go h hg hL hn10 hd hu hul (fun _ => 0) r (by omega)
        have hxv : (zFw I nc F v u (fun _ => 0) r).1 ≠ v := by
          intro e
          rw [e] at p4
          have : zgN g v = 0 := by unfold zgN; rw [hL.1]
          omega
        obtain ⟨c, y, -, hc, hy, hA, e1, e2⟩ := zFw1_spec h hg hL p1 hxv p2
        have hw := zw1_b h hc
        have hyl : g y < 1152921504606846976 := by omega
        have hb := zDg_b hn10 (hd y hy hyl)
        have s1 := (zLs_step h hc e1 (by omega) (hd y hy hyl).2.2.1 hb.1).1
        obtain ⟨p', z1, z2⟩ := j4 c _ y p hc hA e
        rw [zFw_s, e2]
        exact ⟨p', z2, by dsimp only; omega⟩
      · obtain ⟨p, e, hp⟩ := i3 hul j hrj hjN
        obtain ⟨p1, -⟩ := zFw_go h hg hL hn10 hd hu hul (fun _ => 0) j hjN
        obtain ⟨p', z1, z2⟩ := j3 _ p p1 e
        exact ⟨p', z2, by omega⟩
  obtain ⟨q, i1, i2, i3⟩ := key 9 (Nat.le_refl _)
  rw [(i1 v hv).1]
  have hvl : g v < 1152921504606846976 := by rw [hL.1]; omega
  have hPv : zgP g v = 0 := by unfold zgP; rw [hL.1]
  by_cases hul : g u < 1152921504606846976
  · rw [if_pos hul]
    have hb := zDg_b hn10 (hd u hu hul)
    obtain ⟨p, e, hp⟩ := i3 hul (zgN g u) hb.1 (Nat.le_refl _)
    obtain ⟨p1, p2, p3, p4, -⟩ := zFw_go h hg hL hn10 hd hu hul (fun _ => 0) (zgN g u) (Nat.le_refl _)
    have hv1 := zLs_0 h hL p1 p2 hn10 hd (by omega)
    rw [hv1] at e hp
    have := (i2 v p hv e).2 hvl
    rw [e]
    show nI p = _
    congr 1
    omega
  · rw [if_neg hul]
    cases e : q v with
    | none => rfl
    | some p => exact absurd ((i2 v p hv e).1.mp hvl) hul
