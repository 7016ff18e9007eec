/-! COORDINATES AND HOURS -/
theorem zabs_sz (x : Int32) : zabs x = zsz x := by
  unfold zabs zsz
  split
  · rfl
  · exact Int32.zero_sub x
theorem zRh_H {J : zIt} {s : Nat} {a b : Int32} : zRh J s a b = zHours (J 144 s) (J 145 s) (J 142 s) a b := by
  unfold zRh zHours
  rw [zabs_sz, zabs_sz]
theorem zabs_N : ∀ a, a < 100 → ∀ x, x < 100 → zabs (nI a - nI x) = nI (a - x + (x - a)) := by decide +kernel
def zhN (x y v a b : Nat) : Nat := (a - x + (x - a) + (b - y + (y - b)) + v - 1) / v
theorem zH_N {x y v a b : Nat} (hx : x < 100) (hy : y < 100) (ha : a < 100) (hb : b < 100) (h1 : 1 ≤ v) (h2 : v ≤ 20) : zHours (nI x) (nI y) (nI v) (nI a) (nI b) = nI (zhN x y v a b) := by
  unfold zHours zhN
  rw [zabs_N a ha x hx, zabs_N b hb y hy, nI_add, nI_add, nI_prd (by omega), pk_div (by omega) (by omega) (by omega)]
theorem zhN_b {x y v a b : Nat} (hx : x < 100) (hy : y < 100) (ha : a < 100) (hb : b < 100) (h1 : 1 ≤ v) (h2 : v ≤ 20) : zhN x y v a b ≤ 300 := by
  unfold zhN
  exact Nat.le_trans (Nat.div_le_self _ _) (by omega)
theorem zpl_d : ∀ b, b < 100 → ∀ a, a < 100 → nI b - nI a = (if a ≤ b then nI (b - a) else -(nI (a - b))) := by decide +kernel
theorem zpl_s : ∀ a, a < 100 → ∀ e, e < 100 → e ≤ a → nI a + -(nI e) = nI (a - e) := by decide +kernel
theorem zpl_n : ∀ n, n < 9 → ∀ k, k < n → ∀ d, d < 100 → (2 * nI k + 1) * -(nI d) / (2 * nI n) = -(nI ((2 * k + 1) * d / (2 * n))) := by decide +kernel
theorem zpl_p : ∀ n, n < 9 → ∀ k, k < n → ∀ d, d < 100 → (2 * nI k + 1) * nI d / (2 * nI n) = nI ((2 * k + 1) * d / (2 * n)) := by decide +kernel
theorem zpl_le {n k d : Nat} (hk : k < n) : (2 * k + 1) * d / (2 * n) ≤ d := by
  have h1 : (2 * k + 1) * d ≤ 2 * n * d := Nat.mul_le_mul_right d (by omega)
  have h2 := Nat.div_le_div_right (c := 2 * n) h1
  rw [Nat.mul_div_cancel_left d (by omega)] at h2
  exact h2
theorem zPlace_N {n k a b : Nat} (hn : n < 9) (hk : k < n) (ha : a < 100) (hb : b < 100) : ∃ c, c < 100 ∧ zPlace (nI k) (nI a) (nI b) (nI n) = nI c := by
  unfold zPlace
  rw [zpl_d b hb a ha]
  by_cases h : a ≤ b
  · rw [if_pos h, zpl_p n hn k hk (b - a) (by omega), nI_add]
    have := zpl_le (n := n) (k := k) (d := b - a) hk
    exact ⟨_, by omega, rfl⟩
  · rw [if_neg h, zpl_n n hn k hk (a - b) (by omega)]
    have := zpl_le (n := n) (k := k) (d := a - b) hk
    rw [zpl_s a ha _ (by omega) (by omega)]
    exact ⟨_, Nat.lt_of_le_of_lt (Nat.sub_le _ _) ha, rfl⟩
