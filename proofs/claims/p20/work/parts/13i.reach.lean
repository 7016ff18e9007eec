/-! SUMS, and what is reached -/
theorem zg2_parts {n x : Nat} {g : Nat → Nat} (hn : n ≤ 10) (h : g x < 1152921504606846976) (hd : zDg n g x) :
    lN (zg2 g x) / 1000000 = lN (zgP g x) ∧ (lN (zg2 g x) - lN (zg2 g x) / 1000000 * 1000000) / 100 = lN (zgD g x) ∧ lN (zg2 g x) - lN (zg2 g x) / 100 * 100 = lN (zgN g x) := by
  have hb := zDg_b hn hd
  obtain ⟨e, hlt⟩ := zg2_lt hn h hd
  rw [show (1000000 : Int64) = lN 1000000 from rfl, show (100 : Int64) = lN 100 from rfl, pk_lRem (by omega) (by omega) (by omega), pk_lDiv (by omega) (by omega) (by omega), pk_lDiv (by omega) (by omega) (by omega), pk_lRem (by omega) (by omega) (by omega), e]
  refine ⟨by congr 1; omega, by congr 1; omega, by congr 1; omega⟩
theorem zg2_far {n x : Nat} {g : Nat → Nat} (hn : n ≤ 10) (hd : g x < 1152921504606846976 → zDg n g x) : lg_cmp (lN (zg2 g x)) zFAR < 0 ↔ g x < 1152921504606846976 := by
  by_cases h : g x < 1152921504606846976
  · have := (zg2_lt hn h (hd h)).2
    exact ⟨fun _ => h, fun _ => (zcN_lt (b := 1000000000000000) (by omega) (by omega)).mpr (by omega)⟩
  · have e : zg2 g x = 1000000000000000 := by unfold zg2; rw [if_neg h]
    rw [e]
    exact ⟨fun q => absurd ((zcN_lt (a := 1000000000000000) (b := 1000000000000000) (by omega) (by omega)).mp q) (by omega), fun q => absurd q h⟩
theorem zend_bt {r : Int32} {a b : Nat} (ha : a < 10) (hb : b < 10) : r &&& (1 <<< (nI a &&& 31) ||| 1 <<< (nI b &&& 31)) = 0 ↔ zbt r a = false ∧ zbt r b = false := by
  constructor
  · intro h
    have key : ∀ x, x < 32 → (zbt r x && (decide (x = a) || decide (x = b))) = false := by
      intro x hx
      have : zbt (r &&& (1 <<< (nI a &&& 31) ||| 1 <<< (nI b &&& 31))) x = false := by rw [h]; exact zbt_0 x
      rw [zbt_and, zbt_or, zbt_1 a (by omega) x hx, zbt_1 b (by omega) x hx] at this
      exact this
    have h1 := key a (by omega)
    have h2 := key b (by omega)
    simp at h1 h2
    exact ⟨h1, h2⟩
  · rintro ⟨h1, h2⟩
    apply zbt_ext
    intro x hx
    rw [zbt_and, zbt_or, zbt_1 a (by omega) x hx, zbt_1 b (by omega) x hx, zbt_0]
    by_cases e1 : x = a
    · subst e1; rw [h1]; rfl
    · by_cases e2 : x = b
      · subst e2; rw [h2]; rfl
      · simp [e1, e2]
theorem zRe1_bt {I : zIt} {nc i : Nat} (h : zCbs I nc) (hi : i < nc) (r : Int32) {x : Nat} (hx : x < 32) : zbt (zRe1 I r i) x = true ↔ zbt r x = true ∨ (I (32 + i) 5 = 0 ∧ (x = zea I i ∨ x = zeb I i) ∧ (zbt r (zea I i) = true ∨ zbt r (zeb I i) = true)) := by
  obtain ⟨e0, e1, ha, hb, -⟩ := zCbs_at h hi
  unfold zRe1
  rw [e0, e1]
  by_cases hw : I (32 + i) 5 = 0
  · rw [if_pos hw]
    by_cases hz : r &&& (1 <<< (nI (zea I i) &&& 31) ||| 1 <<< (nI (zeb I i) &&& 31)) = 0
    · rw [if_pos hz]
      obtain ⟨h1, h2⟩ := (zend_bt ha hb).mp hz
      rw [h1, h2]
      simp
    · rw [if_neg hz]
      have h3 : zbt r (zea I i) = true ∨ zbt r (zeb I i) = true := by
        cases q1 : zbt r (zea I i) with
        | true => exact Or.inl rfl
        | false =>
          cases q2 : zbt r (zeb I i) with
          | true => exact Or.inr rfl
          | false => exact absurd ((zend_bt ha hb).mpr ⟨q1, q2⟩) hz
      rw [zbt_or, zbt_or, zbt_1 _ (by omega) x hx, zbt_1 _ (by omega) x hx]
      simp [hw, h3]
  · rw [if_neg hw]
    simp [hw]
/-- what is marked is reached -/
def zRs (g : Nat → Nat) (r : Int32) : Prop := ∀ x, x < 32 → zbt r x = true → x < 10 ∧ g x < 1152921504606846976
theorem zRe_spec {I : zIt} {nc v n : Nat} {g : Nat → Nat} (h : zCbs I nc) (hL : zLs I nc v g) (hn10 : n ≤ 10) (hd : ∀ x, x < 10 → g x < 1152921504606846976 → zDg n g x) {r : Int32} (hs : zRs g r) : ∀ k, k ≤ nc →
    zRs g (zRe I r k) ∧ (∀ x, x < 32 → zbt r x = true → zbt (zRe I r k) x = true) ∧ ∀ i x y, i < k → zAd I i x y → zbt r x = true → zbt (zRe I r k) y = true := by
  intro k
  induction k with
  | zero => intro _; exact ⟨hs, fun x _ q => q, fun i x y hi => absurd hi (by omega)⟩
  | succ k ih =>
    intro hk
    obtain ⟨i1, i2, i3⟩ := ih (by omega)
    have hbt := fun x hx => zRe1_bt h (show k < nc by omega) (zRe I r k) (x := x) hx
    have hAd : ∀ x y, zAd I k x y → x < 10 ∧ y < 10 := fun x y q => zAd_in h (by omega) q
    show zRs g (zRe1 I (zRe I r k) k) ∧ (∀ x, x < 32 → zbt r x = true → zbt (zRe1 I (zRe I r k) k) x = true) ∧ ∀ i x y, i < k + 1 → zAd I i x y → zbt r x = true → zbt (zRe1 I (zRe I r k) k) y = true
    obtain ⟨-, -, ha, hb, -⟩ := zCbs_at h (show k < nc by omega)
    refine ⟨fun x hx hb2 => ?_, fun x hx q => (hbt x hx).mpr (Or.inl (i2 x hx q)), fun i x y hi hA q => ?_⟩
    · rcases (hbt x hx).mp hb2 with q | ⟨hw, hxe, hq⟩
      · exact i1 x hx q
      · have hA1 : zAd I k (zea I k) (zeb I k) := ⟨hw, Or.inl ⟨rfl, rfl⟩⟩
        have both : g (zea I k) < 1152921504606846976 ∧ g (zeb I k) < 1152921504606846976 := by
          rcases hq with hq | hq
          · have h1 := (i1 _ (by omega) hq).2
            exact ⟨h1, zLs_go h hL hn10 (show k < nc by omega) hA1 h1 (hd _ ha h1)⟩
          · have h1 := (i1 _ (by omega) hq).2
            exact ⟨zLs_go h hL hn10 (show k < nc by omega) (zAd_sym hA1) h1 (hd _ hb h1), h1⟩
        rcases hxe with e | e
        · rw [e]; exact ⟨ha, both.1⟩
        · rw [e]; exact ⟨hb, both.2⟩
    · rcases Nat.lt_or_ge i k with r1 | r1
      · have hy := (zAd_in h (show i < nc by omega) hA).2
        exact (hbt y (by omega)).mpr (Or.inl (i3 i x y r1 hA q))
      · have hik : i = k := by omega
        subst hik
        obtain ⟨hx, hy⟩ := hAd x y hA
        have hq := i2 x (by omega) q
        refine (hbt y (by omega)).mpr (Or.inr ⟨hA.1, ?_, ?_⟩)
        · rcases hA.2 with ⟨-, e⟩ | ⟨-, e⟩
          · exact Or.inr e
          · exact Or.inl e
        · rcases hA.2 with ⟨e, -⟩ | ⟨e, -⟩
          · exact Or.inl (by rw [← e]; exact hq)
          · exact Or.inr (by rw [← e]; exact hq)
theorem zRer_s {I : zIt} {nc k : Nat} {r : Int32} : zRer I nc r (k + 1) = zRe I (zRer I nc r k) nc := rfl
theorem zRer_bt {I : zIt} {nc v n : Nat} {g : Nat → Nat} (h : zCbs I nc) (hL : zLs I nc v g) (hn10 : n ≤ 10) (hd : ∀ x, x < 10 → g x < 1152921504606846976 → zDg n g x) (hv : v < 10) : ∀ x, x < 32 → (zbt (zRer I nc (1 <<< (nI v &&& 31)) 9) x = true ↔ x < 10 ∧ g x < 1152921504606846976) := by
  have key : ∀ k, zRs g (zRer I nc (1 <<< (nI v &&& 31)) k) ∧ ∀ x, x < 10 → g x < 1152921504606846976 → zgN g x ≤ k → zbt (zRer I nc (1 <<< (nI v &&& 31)) k) x = true := by
    intro k
    induction k with
    | zero =>
      refine ⟨fun x hx hb => ?_, fun x hx hlt hN => ?_⟩
      · have hb' : zbt ((1 : Int32) <<< (nI v &&& 31)) x = true := hb
        rw [zbt_1 v (by omega) x hx] at hb'
        have := of_decide_eq_true hb'
        subst this
        exact ⟨hv, by rw [hL.1]; omega⟩
      · have hxv := zLs_0 h hL hx hlt hn10 hd (by omega)
        subst hxv
        show zbt ((1 : Int32) <<< (nI x &&& 31)) x = true
        rw [zbt_1 x (by omega) x (by omega)]
        simp
    | succ k ih =>
      obtain ⟨i1, i2⟩ := ih
      rw [zRer_s]
      obtain ⟨s1, s2, s3⟩ := zRe_spec h hL hn10 hd i1 nc (Nat.le_refl _)
      refine ⟨s1, fun x hx hlt hN => ?_⟩
      by_cases hxv : x = v
      · refine s2 x (by omega) (i2 x hx hlt ?_)
        have : zgN g x = 0 := by rw [hxv]; unfold zgN; rw [hL.1]
        omega
      · obtain ⟨c, a, hc, hA, e⟩ := hL.2.2 x hx hxv hlt
        have ha := (zAd_in h hc hA).1
        have hw := zw1_b h hc
        have hal : g a < 1152921504606846976 := by omega
        have hb := zDg_b hn10 (hd a ha hal)
        have hs3 := (zLs_step h hc e (by omega) (hd a ha hal).2.2.1 hb.1).2.2
        exact s3 c a x hc hA (i2 a ha hal (by omega))
  intro x hx
  constructor
  · intro q
    exact (key 9).1 x hx q
  · rintro ⟨h1, h2⟩
    exact (key 9).2 x h1 h2 (zDg_b hn10 (hd x h1 h2)).1
theorem zRch_bt {n : Nat} {f : Nat → Int64} {g : Nat → Nat} (hn : n ≤ 10) (hd : ∀ x, x < 10 → g x < 1152921504606846976 → zDg n g x) (hf : ∀ x, x < n → f x = lN (zg2 g x)) : ∀ k, k ≤ n → ∀ x, x < 32 → (zbt (zRch f k) x = true ↔ x < k ∧ g x < 1152921504606846976) := by
  intro k
  induction k with
  | zero =>
    intro _ x hx
    have h0 : zbt (zRch f 0) x = false := zbt_0 x
    rw [h0]
    simp
  | succ k ih =>
    intro hk x hx
    have hi := ih (by omega) x hx
    have hfar := zg2_far (x := k) hn (hd k (by omega))
    rw [← hf k (by omega)] at hfar
    show zbt (zRch f k ||| (if 0 ≤ lg_cmp (f k) zFAR then 0 else (1 : Int32) <<< (nI k &&& 31) : Int32)) x = true ↔ _
    rw [zbt_or]
    by_cases hc : 0 ≤ lg_cmp (f k) zFAR
    · rw [if_pos hc, zbt_0]
      have hnl : ¬ g k < 1152921504606846976 := fun q => by
        have := hfar.mpr q
        rw [lg_cmp_lt] at this
        rw [lg_cmp_ge] at hc
        rw [Int64.lt_iff_toInt_lt] at this
        rw [Int64.le_iff_toInt_le] at hc
        omega
      rw [Bool.or_false, hi]
      constructor
      · rintro ⟨a, b⟩; exact ⟨by omega, b⟩
      · rintro ⟨a, b⟩
        refine ⟨?_, b⟩
        rcases Nat.lt_or_ge x k with q | q
        · exact q
        · rw [show x = k by omega] at b; exact absurd b hnl
    · rw [if_neg hc, zbt_1 k (by omega) x hx]
      have hl : g k < 1152921504606846976 := hfar.mp (by
        rw [lg_cmp_lt, Int64.lt_iff_toInt_lt]
        rw [lg_cmp_ge, Int64.le_iff_toInt_le] at hc
        omega)
      rw [Bool.or_eq_true, hi, decide_eq_true_iff]
      constructor
      · rintro (⟨a, b⟩ | e)
        · exact ⟨by omega, b⟩
        · subst e; exact ⟨by omega, hl⟩
      · rintro ⟨a, b⟩
        rcases Nat.lt_or_ge x k with q | q
        · exact Or.inl ⟨q, b⟩
        · exact Or.inr (by omega)
theorem zReach_eq {I : zIt} {nc v n : Nat} {f : Nat → Int64} {g : Nat → Nat} (h : zCbs I nc) (hL : zLs I nc v g) (hn10 : n ≤ 10) (hd : ∀ x, x < 10 → g x < 1152921504606846976 → zDg n g x) (hv : v < 10) (hf : ∀ x, x < n → f x = lN (zg2 g x)) :
    zRer I nc (1 <<< (nI v &&& 31)) 9 = zRch f n := by
  apply zbt_ext
  intro x hx
  have h1 := zRer_bt h hL hn10 hd hv x hx
  have h2 := zRch_bt hn10 hd hf n (Nat.le_refl _) x hx
  have h3 : zbt (zRer I nc (1 <<< (nI v &&& 31)) 9) x = true ↔ zbt (zRch f n) x = true := by
    rw [h1, h2]
    constructor
    · rintro ⟨a, b⟩; exact ⟨(hd x a b).1, b⟩
    · rintro ⟨a, b⟩; exact ⟨by omega, b⟩
  exact Bool.eq_iff_iff.mpr h3
