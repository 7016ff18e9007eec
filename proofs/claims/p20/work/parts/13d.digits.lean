/-! A LEAST COST'S THREE NUMBERS: prices, delays, cables; and the same in the reference's writing -/
def zgP (g : Nat → Nat) (x : Nat) : Nat := g x / 131072
def zgD (g : Nat → Nat) (x : Nat) : Nat := g x % 131072 / 16
def zgN (g : Nat → Nat) (x : Nat) : Nat := g x % 16
theorem zg_sum (g : Nat → Nat) (x : Nat) : g x = 131072 * zgP g x + 16 * zgD g x + zgN g x := by
  unfold zgP zgD zgN
  omega
def zDg (n : Nat) (g : Nat → Nat) (x : Nat) : Prop := x < n ∧ zgN g x < n ∧ zgD g x ≤ 500 * zgN g x ∧ zgP g x ≤ 9999 * zgN g x
theorem zLs_step {I : zIt} {nc k a x : Nat} {g : Nat → Nat} (h : zCbs I nc) (hk : k < nc) (e : g x = g a + zw1 I k) (hN : zgN g a < 10) (hD : zgD g a ≤ 500 * zgN g a) (hN9 : zgN g a ≤ 9) :
    zgP g x = zgP g a + zep I k ∧ zgD g x = zgD g a + zed I k ∧ zgN g x = zgN g a + 1 := by
  obtain ⟨-, -, -, -, h5, h6, -⟩ := zCbs_at h hk
  have hs := zg_sum g a
  unfold zw1 at e
  unfold zgP zgD zgN at *
  omega
theorem zLs_dig {I : zIt} {nc v n : Nat} {g : Nat → Nat} (h : zCbs I nc) (hL : zLs I nc v g) (hvn : v < n) (hn10 : n ≤ 10) (hn : ∀ k x y, k < nc → zAd I k x y → x < n) : ∀ x, x < 10 → g x < 1152921504606846976 → zDg n g x := by
  have key : ∀ m x, g x ≤ m → x < 10 → g x < 1152921504606846976 → x < n ∧ zgN g x ≤ zcnt (fun y => decide (g y < g x)) n ∧ zgD g x ≤ 500 * zgN g x ∧ zgP g x ≤ 9999 * zgN g x := by
    intro m
    induction m with
    | zero =>
      intro x hm hx hlt
      by_cases hxv : x = v
      · subst hxv
        have h0 : g x = 0 := by omega
        unfold zgN zgD zgP
        rw [h0]
        exact ⟨hvn, Nat.zero_le _, by omega, by omega⟩
      · obtain ⟨k, a, hk, hA, e⟩ := hL.2.2 x hx hxv hlt
        have := (zw1_b h hk).1
        omega
    | succ m ih =>
      intro x hm hx hlt
      by_cases hxv : x = v
      · subst hxv
        have h0 : g x = 0 := hL.1
        unfold zgN zgD zgP
        rw [h0]
        exact ⟨hvn, Nat.zero_le _, by omega, by omega⟩
      · obtain ⟨k, a, hk, hA, e⟩ := hL.2.2 x hx hxv hlt
        have hw := (zw1_b h hk).1
        have ha := (zAd_in h hk hA).1
        obtain ⟨i1, i2, i3, i4⟩ := ih a (by omega) ha (by omega)
        have hxn := hn k x a hk (zAd_sym hA)
        have hr : zcnt (fun y => decide (g y < g a)) n < zcnt (fun y => decide (g y < g x)) n := by
          refine zcnt_lt i1 (fun y _ hy => ?_) ?_ ?_
          · have := of_decide_eq_true hy
            exact decide_eq_true (by omega)
          · exact decide_eq_true (by omega)
          · intro hy
            have := of_decide_eq_true hy
            omega
        have hr2 : zcnt (fun y => decide (g y < g x)) n < zcnt (fun _ => true) n := by
          refine zcnt_lt hxn (fun _ _ _ => rfl) rfl ?_
          intro hy
          have := of_decide_eq_true hy
          omega
        have hr3 := zcnt_le (fun _ => true) n
        obtain ⟨s1, s2, s3⟩ := zLs_step h hk e (by omega) i3 (by omega)
        obtain ⟨-, -, -, -, h5, h6, -⟩ := zCbs_at h hk
        refine ⟨hxn, by omega, by omega, by omega⟩
  intro x hx hlt
  obtain ⟨h1, h2, h3, h4⟩ := key (g x) x (Nat.le_refl _) hx hlt
  have hr2 : zcnt (fun y => decide (g y < g x)) n < zcnt (fun _ => true) n := by
    refine zcnt_lt h1 (fun _ _ _ => rfl) rfl ?_
    intro hy
    have := of_decide_eq_true hy
    omega
  have hr3 := zcnt_le (fun _ => true) n
  exact ⟨h1, by omega, h3, h4⟩
/-- the reference's writing of a cost -/
def zg2 (g : Nat → Nat) (x : Nat) : Nat := if g x < 1152921504606846976 then 1000000 * zgP g x + 100 * zgD g x + zgN g x else 1000000000000000
def zw2 (I : zIt) (k : Nat) : Nat := 1000000 * zep I k + 100 * zed I k + 1
theorem zDg_b {n x : Nat} {g : Nat → Nat} (hn : n ≤ 10) (h : zDg n g x) : zgN g x ≤ 9 ∧ zgD g x ≤ 4500 ∧ zgP g x ≤ 89991 ∧ g x < 11796000000 := by
  obtain ⟨-, h1, h2, h3⟩ := h
  have := zg_sum g x
  omega
theorem zg2_lt {n x : Nat} {g : Nat → Nat} (hn : n ≤ 10) (h : g x < 1152921504606846976) (hd : zDg n g x) : zg2 g x = 1000000 * zgP g x + 100 * zgD g x + zgN g x ∧ zg2 g x < 90000000000 := by
  have := zDg_b hn hd
  unfold zg2
  rw [if_pos h]
  omega
/-- an edge: reached on one side, reached on the other -/
theorem zLs_go {I : zIt} {nc v n k x y : Nat} {g : Nat → Nat} (h : zCbs I nc) (hL : zLs I nc v g) (hn : n ≤ 10) (hk : k < nc) (hA : zAd I k x y) (hx : g x < 1152921504606846976) (hd : zDg n g x) : g y < 1152921504606846976 := by
  have h1 := hL.2.1 k x y hk hA
  have h2 := zDg_b hn hd
  have h3 := (zw1_b h hk).2
  omega
theorem zLs_le2 {I : zIt} {nc v n k x y : Nat} {g : Nat → Nat} (h : zCbs I nc) (hL : zLs I nc v g) (hn : n ≤ 10) (hk : k < nc) (hA : zAd I k x y) (hx : g x < 1152921504606846976) (hy : g y < 1152921504606846976) (hd : zDg n g x) (he : zDg n g y) :
    zg2 g y ≤ zg2 g x + zw2 I k ∧ zgP g y ≤ zgP g x + zep I k ∧ (g y = g x + zw1 I k ↔ zg2 g y = zg2 g x + zw2 I k) := by
  have h1 := hL.2.1 k x y hk hA
  have hb := zDg_b hn hd
  have hc := zDg_b hn he
  obtain ⟨-, -, -, -, h5, h6, -⟩ := zCbs_at h hk
  have sx := zg_sum g x
  have sy := zg_sum g y
  rw [(zg2_lt hn hx hd).1, (zg2_lt hn hy he).1]
  unfold zw2
  unfold zw1 at h1 ⊢
  rcases Nat.lt_trichotomy (zgP g y) (zgP g x + zep I k) with q | q | q
  · refine ⟨by omega, by omega, ⟨fun e => by omega, fun e => by omega⟩⟩
  · rcases Nat.lt_trichotomy (zgD g y) (zgD g x + zed I k) with r | r | r
    · refine ⟨by omega, by omega, ⟨fun e => by omega, fun e => by omega⟩⟩
    · refine ⟨by omega, by omega, ⟨fun e => by omega, fun e => by omega⟩⟩
    · refine ⟨by omega, by omega, ⟨fun e => by omega, fun e => by omega⟩⟩
  · refine ⟨by omega, by omega, ⟨fun e => by omega, fun e => by omega⟩⟩
