/-! THE REFERENCE'S COSTS: they are the same ones -/
def zRel0 (I J : zIt) (G : Nat → Int32) (nc : Nat) : Prop := ∀ k, k < nc → J 134 k = I (32 + k) 0 ∧ J 135 k = I (32 + k) 1 ∧ J 137 k = I (32 + k) 3 ∧ J 138 k = I (32 + k) 4 ∧ (G k = 0 ↔ ¬ I (32 + k) 5 = 0)
theorem zRel0_at {I J : zIt} {G : Nat → Int32} {nc k : Nat} (h : zCbs I nc) (hr : zRel0 I J G nc) (hk : k < nc) : J 134 k = nI (zea I k) ∧ J 135 k = nI (zeb I k) ∧ zRcost J k = lN (zw2 I k) ∧ 1 ≤ zw2 I k ∧ zw2 I k < 10000000000 := by
  obtain ⟨e0, e1, -, -, h5, h6, -, e3, e4⟩ := zCbs_at h hk
  obtain ⟨f0, f1, f3, f4, -⟩ := hr k hk
  refine ⟨f0.trans e0, f1.trans e1, zRcost_N h6 h5 (f4.trans e4) (f3.trans e3), ?_, ?_⟩
  · unfold zw2; omega
  · unfold zw2; omega
def zRwF (n : Nat) (f : Nat → Int64) (q : Nat → Nat) : Prop := ∀ x, x < n → f x = lN (q x) ∧ q x ≤ 1000000000000000
theorem zRx_spec {I J : zIt} {G : Nat → Int32} {nc n : Nat} (h : zCbs I nc) (hr : zRel0 I J G nc) (hn : ∀ k, k < nc → zea I k < n ∧ zeb I k < n) {f : Nat → Int64} {q : Nat → Nat} (hf : zRwF n f q)
    {B : Nat → Nat} (hB : ∀ i x y, i < nc → zAd I i x y → B x ≤ B y + zw2 I i) (hq : ∀ x, x < n → B x ≤ q x) : ∀ k, k ≤ nc →
    ∃ q' : Nat → Nat, (∀ x, x < n → zRx J G f k x = lN (q' x) ∧ q' x ≤ q x ∧ B x ≤ q' x) ∧ ∀ i x y, i < k → zAd I i x y → q' x ≤ q y + zw2 I i := by
  intro k
  induction k with
  | zero => intro _; exact ⟨q, fun x hx => ⟨(hf x hx).1, Nat.le_refl _, hq x hx⟩, fun i x y hi => absurd hi (by omega)⟩
  | succ k ih =>
    intro hk
    obtain ⟨q1, a1, a2⟩ := ih (by omega)
    show ∃ q' : Nat → Nat, (∀ x, x < n → zRx1 J G (zRx J G f k) k x = lN (q' x) ∧ q' x ≤ q x ∧ B x ≤ q' x) ∧ _
    obtain ⟨e0, e1, ew, w1, w2⟩ := zRel0_at h hr (show k < nc by omega)
    obtain ⟨na, nb⟩ := hn k (by omega)
    have hG := (hr k (by omega)).2.2.2.2
    unfold zRx1
    by_cases hg : G k = 0
    · rw [if_pos hg]
      refine ⟨q1, a1, fun i x y hi hA => ?_⟩
      rcases Nat.lt_or_ge i k with r | r
      · exact a2 i x y r hA
      · rw [show i = k by omega] at hA
        exact absurd hA.1 (hG.mp hg)
    · rw [if_neg hg, e0, e1, ew]
      have hz : zea I k < 10 ∧ zeb I k < 10 := ⟨(zCbs_at h (show k < nc by omega)).2.2.1, (zCbs_at h (show k < nc by omega)).2.2.2.1⟩
      rw [nI_clamp (by omega), nI_clamp (by omega)]
      have hwk : I (32 + k) 5 = 0 := Decidable.not_not.mp fun r => hg (hG.mpr r)
      have hA1 : zAd I k (zea I k) (zeb I k) := ⟨hwk, Or.inl ⟨rfl, rfl⟩⟩
      have hA2 : zAd I k (zeb I k) (zea I k) := ⟨hwk, Or.inr ⟨rfl, rfl⟩⟩
      have hAi : ∀ x y, zAd I k x y → (x = zea I k ∧ y = zeb I k) ∨ (x = zeb I k ∧ y = zea I k) := fun x y q => q.2
      have B1 := hB k _ _ (by omega) hA1
      have B2 := hB k _ _ (by omega) hA2
      generalize zea I k = a at *
      generalize zeb I k = b at *
      generalize hwd : zw2 I k = w at *
      obtain ⟨fa, qa, ba⟩ := a1 a na
      obtain ⟨fb, qb, bb⟩ := a1 b nb
      have ca := (hf a na).2
      have cb := (hf b nb).2
      rw [fa, fb, lN_add, lN_add]
      have hX : (if 0 ≤ lg_cmp (lN (q1 b + w)) (lN (q1 a)) then lN (q1 a) else lN (q1 b + w)) = lN (if q1 a ≤ q1 b + w then q1 a else q1 b + w) := by
        by_cases r : q1 a ≤ q1 b + w
        · rw [if_pos r, if_pos ((zcN_ge (by omega) (by omega)).mpr r)]
        · rw [if_neg r, if_neg (fun z => r ((zcN_ge (by omega) (by omega)).mp z))]
      have hY : (if 0 ≤ lg_cmp (lN (q1 a + w)) (lN (q1 b)) then lN (q1 b) else lN (q1 a + w)) = lN (if q1 b ≤ q1 a + w then q1 b else q1 a + w) := by
        by_cases r : q1 b ≤ q1 a + w
        · rw [if_pos r, if_pos ((zcN_ge (by omega) (by omega)).mpr r)]
        · rw [if_neg r, if_neg (fun z => r ((zcN_ge (by omega) (by omega)).mp z))]
      rw [hX, hY]
      refine ⟨fun x => if x = b then (if q1 b ≤ q1 a + w then q1 b else q1 a + w) else if x = a then (if q1 a ≤ q1 b + w then q1 a else q1 b + w) else q1 x, fun x hx => ?_, fun i x y hi hA => ?_⟩
      · dsimp only
        by_cases xb : x = b
        · subst xb
          rw [zs_self, if_pos rfl]
          refine ⟨rfl, ?_, ?_⟩
          · split <;> omega
          · split <;> omega
        · rw [zs_ne _ _ xb, if_neg xb]
          by_cases xa : x = a
          · subst xa
            rw [zs_self, if_pos rfl]
            refine ⟨rfl, ?_, ?_⟩
            · split <;> omega
            · split <;> omega
          · rw [zs_ne _ _ xa, if_neg xa]
            exact a1 x hx
      · have hle : (if x = b then (if q1 b ≤ q1 a + w then q1 b else q1 a + w) else if x = a then (if q1 a ≤ q1 b + w then q1 a else q1 b + w) else q1 x) ≤ q1 x := by
          by_cases xb : x = b
          · subst xb; rw [if_pos rfl]; split <;> omega
          · rw [if_neg xb]
            by_cases xa : x = a
            · subst xa; rw [if_pos rfl]; split <;> omega
            · rw [if_neg xa]; exact Nat.le_refl _
        dsimp only
        rcases Nat.lt_or_ge i k with r | r
        · exact Nat.le_trans hle (a2 i x y r hA)
        · have hik : i = k := by omega
          subst hik
          rw [hwd]
          rcases hAi x y hA with ⟨h1, h2⟩ | ⟨h1, h2⟩
          · subst h1; subst h2
            by_cases xb : x = y
            · subst xb
              omega
            · rw [if_neg xb, if_pos rfl]
              split <;> omega
          · subst h1; subst h2
            rw [if_pos rfl]
            split <;> omega
theorem zg2_le (g : Nat → Nat) {n x : Nat} (hn : n ≤ 10) (hd : g x < 1152921504606846976 → zDg n g x) : zg2 g x ≤ 1000000000000000 := by
  by_cases h : g x < 1152921504606846976
  · have := (zg2_lt hn h (hd h)).2
    omega
  · unfold zg2
    rw [if_neg h]
    exact Nat.le_refl _
theorem zLs_B {I : zIt} {nc v n : Nat} {g : Nat → Nat} (h : zCbs I nc) (hL : zLs I nc v g) (hn10 : n ≤ 10) (hd : ∀ x, x < 10 → g x < 1152921504606846976 → zDg n g x) : ∀ i x y, i < nc → zAd I i x y → zg2 g x ≤ zg2 g y + zw2 I i := by
  intro i x y hi hA
  obtain ⟨hx, hy⟩ := zAd_in h hi hA
  by_cases hyl : g y < 1152921504606846976
  · have hxl := zLs_go h hL hn10 hi (zAd_sym hA) hyl (hd y hy hyl)
    exact (zLs_le2 h hL hn10 hi (zAd_sym hA) hyl hxl (hd y hy hyl) (hd x hx hxl)).1
  · have := zg2_le g hn10 (hd x hx)
    have e : zg2 g y = 1000000000000000 := by unfold zg2; rw [if_neg hyl]
    omega
theorem zRxr_s {J : zIt} {G : Nat → Int32} {nc k : Nat} {f : Nat → Int64} : zRxr J G nc f (k + 1) = zRx J G (zRxr J G nc f k) nc := rfl
theorem zFar_eq {I J : zIt} {nc v n : Nat} {g : Nat → Nat} (h : zCbs I nc) (hr : zRel0 I J (zGoes J nc) nc) (hn10 : n ≤ 10) (hn : ∀ k, k < nc → zea I k < n ∧ zeb I k < n) (hv : v < n) (hL : zLs I nc v g) (f : Nat → Int64) :
    ∀ x, x < n → zFar J f n nc (nI v) x = lN (zg2 g x) := by
  have hd := zLs_dig h hL hv hn10 (fun k x y hk hA => by
    obtain ⟨-, ⟨e, -⟩ | ⟨e, -⟩⟩ := hA
    · rw [e]; exact (hn k hk).1
    · rw [e]; exact (hn k hk).2)
  have hB := zLs_B h hL hn10 hd
  have key : ∀ r, ∃ q : Nat → Nat, zRwF n (zRxr J (zGoes J nc) nc (zF0 f (nI v) n) r) q ∧ (∀ x, x < n → zg2 g x ≤ q x) ∧ ∀ x, x < n → g x < 1152921504606846976 → zgN g x ≤ r → q x ≤ zg2 g x := by
    intro r
    induction r with
    | zero =>
      refine ⟨fun x => if x = v then 0 else 1000000000000000, fun x hx => ?_, fun x hx => ?_, fun x hx hlt hN => ?_⟩
      · show zF0 f (nI v) n x = _ ∧ _
        unfold zF0
        dsimp only
        rw [if_pos hx]
        by_cases hxv : x = v
        · rw [if_pos hxv, if_pos (by rw [hxv])]
          exact ⟨rfl, by omega⟩
        · rw [if_neg hxv, if_neg (fun e => hxv (nI_inj e (by omega) (by omega)))]
          exact ⟨rfl, by omega⟩
      · dsimp only
        by_cases hxv : x = v
        · rw [if_pos hxv, hxv]
          have e : zg2 g v = 0 := by
            unfold zg2 zgP zgD zgN
            rw [hL.1]
            rfl
          omega
        · rw [if_neg hxv]
          exact zg2_le g hn10 (hd x (by omega))
      · have hxv := zLs_0 h hL (show x < 10 by omega) hlt hn10 hd (by omega)
        dsimp only
        rw [if_pos hxv]
        exact Nat.zero_le _
    | succ r ih =>
      obtain ⟨q, i1, i2, i3⟩ := ih
      obtain ⟨q', a1, a2⟩ := zRx_spec h hr hn i1 hB i2 nc (Nat.le_refl _)
      rw [zRxr_s]
      refine ⟨q', fun x hx => ⟨(a1 x hx).1, Nat.le_trans (a1 x hx).2.1 (i1 x hx).2⟩, fun x hx => (a1 x hx).2.2, fun x hx hlt hN => ?_⟩
      rcases Nat.lt_or_ge r (zgN g x) with hr1 | hr1
      · by_cases hxv : x = v
        · have : zgN g v = 0 := by unfold zgN; rw [hL.1]
          rw [hxv] at hr1
          omega
        · obtain ⟨k, a, hk, hA, e⟩ := hL.2.2 x (by omega) hxv hlt
          have ha := (zAd_in h hk hA).1
          have hw := zw1_b h hk
          have hal : g a < 1152921504606846976 := by omega
          have hda := hd a ha hal
          have hb := zDg_b hn10 hda
          obtain ⟨s1, s2, s3⟩ := zLs_step h hk e (by omega) hda.2.2.1 hb.1
          have h1 := i3 a hda.1 hal (by omega)
          have h2 := a2 k x a hk (zAd_sym hA)
          have h3 := (zLs_le2 h hL hn10 hk hA hal hlt hda (hd x (by omega) hlt)).2.2.mp e
          omega
      · exact Nat.le_trans (a1 x hx).2.1 (i3 x hx hlt hr1)
  intro x hx
  obtain ⟨q, i1, i2, i3⟩ := key n
  show zRxr J (zGoes J nc) nc (zF0 f (nI v) n) n x = _
  rw [(i1 x hx).1]
  congr 1
  have h2 := i2 x hx
  by_cases hlt : g x < 1152921504606846976
  · have hdx := hd x (by omega) hlt
    have h3 := i3 x hx hlt (Nat.le_of_lt hdx.2.1)
    omega
  · have h3 := (i1 x hx).2
    have e : zg2 g x = 1000000000000000 := by unfold zg2; rw [if_neg hlt]
    omega
