/-- how many below n -/
def zcnt (p : Nat → Bool) : Nat → Nat
  | 0 => 0
  | k + 1 => zcnt p k + (if p k = true then 1 else 0)
theorem zcnt_le (p : Nat → Bool) : ∀ n, zcnt p n ≤ n := by
  intro n
  induction n with
  | zero => exact Nat.le_refl 0
  | succ n ih =>
    show zcnt p n + _ ≤ n + 1
    split <;> omega
theorem zcnt_mono {p q : Nat → Bool} {n : Nat} (h : ∀ x, x < n → q x = true → p x = true) : zcnt q n ≤ zcnt p n := by
  induction n with
  | zero => exact Nat.le_refl 0
  | succ n ih =>
    have h1 := ih fun x hx => h x (by omega)
    have h2 := h n (by omega)
    show zcnt q n + _ ≤ zcnt p n + _
    by_cases hq : q n = true
    · rw [if_pos hq, if_pos (h2 hq)]; omega
    · rw [if_neg hq]; split <;> omega
theorem zcnt_lt {p q : Nat → Bool} {n u : Nat} (hu : u < n) (h : ∀ x, x < n → q x = true → p x = true) (h1 : p u = true) (h2 : ¬ q u = true) : zcnt q n < zcnt p n := by
  induction n with
  | zero => omega
  | succ n ih =>
    have hm := zcnt_mono (n := n) fun x hx => h x (by omega)
    have hn := h n (by omega)
    show zcnt q n + _ < zcnt p n + _
    by_cases e : u = n
    · subst e
      rw [if_pos h1, if_neg h2]; omega
    · have := ih (by omega) fun x hx => h x (by omega)
      by_cases hq : q n = true
      · rw [if_pos hq, if_pos (hn hq)]; omega
      · rw [if_neg hq]; split <;> omega
theorem zcnt_0 {p : Nat → Bool} {n : Nat} (h : zcnt p n = 0) : ∀ x, x < n → p x = false := by
  induction n with
  | zero => intro x hx; omega
  | succ n ih =>
    have h0 : zcnt p n + (if p n = true then 1 else 0) = 0 := h
    intro x hx
    by_cases hn : p n = true
    · rw [if_pos hn] at h0; omega
    · rw [if_neg hn] at h0
      rcases Nat.lt_or_ge x n with q | q
      · exact ih (by omega) x q
      · rw [show x = n by omega]
        simpa using hn
/-- the search, as it goes on: the settled ones are in st -/
def zDj (I : zIt) (nc v : Nat) (st : Int32) (g : Nat → Nat) : Prop :=
  g v = 0 ∧ (∀ a x, a < 10 → x < 10 → zbt st a = true → zbt st x = false → g a ≤ g x) ∧ (∀ a, a < 10 → zbt st a = true → g a < 1152921504606846976) ∧
  (∀ k a y, k < nc → zbt st a = true → zAd I k a y → g y ≤ g a + zw1 I k) ∧
  ∀ x, x < 10 → x ≠ v → g x < 1152921504606846976 → ∃ k a, k < nc ∧ zbt st a = true ∧ zAd I k a x ∧ g x = g a + zw1 I k
theorem zDj_step {I : zIt} {nc v j : Nat} (h : zCbs I nc) {st : Int32} {f : Nat → Int64} {g : Nat → Nat} (hg : zRw0 f g) (hv : v < 10) (hD : zDj I nc v st g) (hj : j < 10) (hjs : zbt st j = false) (hju : g j < 1152921504606846976) (hmin : ∀ i, i < 10 → zbt st i = false → g j ≤ g i) :
    ∃ g', zRw0 (zSp I j f nc) g' ∧ zDj I nc v (st ||| (1 <<< (nI j &&& 31))) g' := by
  obtain ⟨d1, d2, d3, d4, d5⟩ := hD
  obtain ⟨g', a1, a2, a3, a4⟩ := zSp_spec h hj hg nc (Nat.le_refl _)
  have hbt : ∀ x, x < 10 → (zbt (st ||| (1 <<< (nI j &&& 31))) x = true ↔ (zbt st x = true ∨ x = j)) := by
    intro x hx
    rw [zbt_or, zbt_1 j (by omega) x (by omega)]
    simp
  have hbf : ∀ x, x < 10 → zbt (st ||| (1 <<< (nI j &&& 31))) x = false → zbt st x = false ∧ x ≠ j := by
    intro x hx hf
    rw [zbt_or, zbt_1 j (by omega) x (by omega)] at hf
    simpa using hf
  have hsame : ∀ a, a < 10 → (zbt st a = true ∨ a = j) → g' a = g a := by
    intro a ha hs
    rcases hs with hs | hs
    · rcases a3 a ha with q | ⟨i, hi, hA, q⟩
      · exact q
      · have h1 := (a1 a ha).2
        have h2 := d2 a j ha hj hs hjs
        have h3 := (zw1_b h hi).1
        omega
    · rw [hs]; exact a2
  refine ⟨g', fun x hx => ⟨(a1 x hx).1, Nat.le_trans (a1 x hx).2 (hg x hx).2⟩, ?_, fun a x ha hx hs hns => ?_, fun a ha hs => ?_, fun k a y hk hs hA => ?_, fun x hx hxv hlt => ?_⟩
  · have := (a1 v hv).2
    omega
  · have hs' := (hbt a ha).mp hs
    rw [hsame a ha hs']
    obtain ⟨n1, n2⟩ := hbf x hx hns
    have hx1 := hmin x hx n1
    have hx2 : g j ≤ g' x := by
      rcases a3 x hx with q | ⟨i, hi, hA, q⟩
      · omega
      · omega
    rcases hs' with hs' | hs'
    · have := d2 a j ha hj hs' hjs
      omega
    · rw [hs']; exact hx2
  · have hs' := (hbt a ha).mp hs
    rw [hsame a ha hs']
    rcases hs' with hs' | hs'
    · exact d3 a ha hs'
    · rw [hs']; exact hju
  · obtain ⟨ha, hy⟩ := zAd_in h hk hA
    have hs' := (hbt a ha).mp hs
    rw [hsame a ha hs']
    rcases hs' with hs' | hs'
    · exact Nat.le_trans (a1 y hy).2 (d4 k a y hk hs' hA)
    · rw [hs'] at hA ⊢
      exact a4 k y hk hA
  · rcases a3 x hx with q | ⟨i, hi, hA, q⟩
    · obtain ⟨k, a, hk, hs, hA, e⟩ := d5 x hx hxv (by omega)
      have ha := (zAd_in h hk hA).1
      exact ⟨k, a, hk, (hbt a ha).mpr (Or.inl hs), hA, by rw [hsame a ha (Or.inl hs)]; omega⟩
    · exact ⟨i, j, hi, (hbt j hj).mpr (Or.inr rfl), hA, by rw [a2]; exact q⟩
/-- the least costs: no cable betters them, and each is got by a cable -/
def zLs (I : zIt) (nc v : Nat) (g : Nat → Nat) : Prop :=
  g v = 0 ∧ (∀ k x y, k < nc → zAd I k x y → g y ≤ g x + zw1 I k) ∧ ∀ x, x < 10 → x ≠ v → g x < 1152921504606846976 → ∃ k a, k < nc ∧ zAd I k a x ∧ g x = g a + zw1 I k
theorem zDj_end {I : zIt} {nc v : Nat} (h : zCbs I nc) {st : Int32} {f : Nat → Int64} {g : Nat → Nat} (hg : zRw0 f g) (hD : zDj I nc v st g) (hall : ∀ x, x < 10 → zbt st x = false → g x = 1152921504606846976) : zLs I nc v g := by
  obtain ⟨d1, d2, d3, d4, d5⟩ := hD
  refine ⟨d1, fun k x y hk hA => ?_, fun x hx hxv hlt => ?_⟩
  · obtain ⟨hx, hy⟩ := zAd_in h hk hA
    cases hs : zbt st x with
    | true => exact d4 k x y hk hs hA
    | false =>
      rw [hall x hx hs]
      have := (hg y hy).2
      omega
  · obtain ⟨k, a, hk, -, hA, e⟩ := d5 x hx hxv hlt
    exact ⟨k, a, hk, hA, e⟩
theorem zMt_z {I : zIt} {nc : Nat} {f : Nat → Int64} : zMt I nc f 0 = (0, f) := rfl
theorem zMt_s {I : zIt} {nc k : Nat} {f : Nat → Int64} : zMt I nc f (k + 1) = zMt1 I nc (zMt I nc f k) := rfl
theorem zMt_ls {I : zIt} {nc v : Nat} (h : zCbs I nc) (hv : v < 10) (f : Nat → Int64) : ∃ g, zRw0 (zMt I nc (zM0 f v) 10).2 g ∧ zLs I nc v g := by
  have key : ∀ k, k ≤ 10 → ∃ g, zRw0 (zMt I nc (zM0 f v) k).2 g ∧ zDj I nc v (zMt I nc (zM0 f v) k).1 g ∧
      ((∀ x, x < 10 → zbt (zMt I nc (zM0 f v) k).1 x = false → g x = 1152921504606846976) ∨ zcnt (fun x => !zbt (zMt I nc (zM0 f v) k).1 x) 10 + k ≤ 10) := by
    intro k
    induction k with
    | zero =>
      intro _
      refine ⟨fun x => if x = v then 0 else 1152921504606846976, fun x hx => ?_, ⟨if_pos rfl, fun a x _ _ hs => ?_, fun a _ hs => ?_, fun k a y _ hs => ?_, fun x _ hxv hlt => ?_⟩, Or.inr (by have h9 := zcnt_le (fun x => !zbt (zMt I nc (zM0 f v) 0).1 x) 10; rw [Nat.add_zero]; exact h9)⟩
      · rw [zMt_z]
        dsimp only
        unfold zM0
        by_cases hx0 : x = v
        · subst hx0
          rw [zs_self, if_pos rfl]
          exact ⟨rfl, by omega⟩
        · rw [zs_ne _ _ hx0, if_neg hx0, if_pos hx]
          exact ⟨rfl, by omega⟩
      · rw [zMt_z] at hs
        have := (zbt_0 a).symm.trans hs
        cases this
      · rw [zMt_z] at hs
        have := (zbt_0 a).symm.trans hs
        cases this
      · rw [zMt_z] at hs
        have := (zbt_0 a).symm.trans hs
        cases this
      · dsimp only at hlt
        rw [if_neg hxv] at hlt
        omega
    | succ k ih =>
      intro hk
      obtain ⟨g, hg, hD, hc⟩ := ih (by omega)
      rw [zMt_s]
      generalize zMt I nc (zM0 f v) k = q at *
      unfold zMt1
      rcases zNb_spec (st := q.1) hg 10 (Nat.le_refl _) with ⟨e1, -, e3⟩ | ⟨j, hj, e1, -, e3, e4, e5⟩
      · rw [if_pos e1]
        exact ⟨g, hg, hD, Or.inl e3⟩
      · rw [if_neg (by rw [e1]; exact nI_ne1 (by omega)), e1, nI_clamp (by omega)]
        obtain ⟨g', h1, h2⟩ := zDj_step h hg hv hD hj e3 e4 e5
        refine ⟨g', h1, h2, ?_⟩
        rcases hc with hc | hc
        · have := hc j hj e3
          omega
        · refine Or.inr ?_
          have hlt : zcnt (fun x => !zbt (q.1 ||| (1 <<< (nI j &&& 31))) x) 10 < zcnt (fun x => !zbt q.1 x) 10 := by
            refine zcnt_lt hj (fun x hx hb => ?_) (by simp [e3]) ?_
            · rw [zbt_or] at hb
              cases hz : zbt q.1 x with
              | true => rw [hz] at hb; simp at hb
              | false => rfl
            · rw [zbt_or, zbt_1 j (by omega) j (by omega)]
              simp
          show zcnt (fun x => !zbt (q.1 ||| (1 <<< (nI j &&& 31))) x) 10 + (k + 1) ≤ 10
          omega
  obtain ⟨g, hg, hD, hc⟩ := key 10 (Nat.le_refl _)
  refine ⟨g, hg, zDj_end h hg hD ?_⟩
  rcases hc with hc | hc
  · exact hc
  · intro x hx hb
    have h8 : zcnt (fun x => !zbt (zMt I nc (zM0 f v) 10).1 x) 10 = 0 := by omega
    have h0 := zcnt_0 h8 x hx
    have h1 : (!zbt (zMt I nc (zM0 f v) 10).1 x) = false := h0
    rw [hb] at h1
    cases h1
