def zFs1 (nc : Nat) (q : zIt × zLt) (t : Nat) : zIt × zLt :=
  (zFound q.1 nc (zMt q.1 nc (zM0 (q.2 7) (q.1 (64 + t) 1).toNatClampNeg) 10).2 (q.1 (64 + t) 0).toNatClampNeg (q.1 (64 + t) 1).toNatClampNeg t, zs q.2 7 (zMt q.1 nc (zM0 (q.2 7) (q.1 (64 + t) 1).toNatClampNeg) 10).2)
def zFs (nc : Nat) (q : zIt × zLt) : Nat → zIt × zLt
  | 0 => q
  | k + 1 => zFs1 nc (zFs nc q k) k
def zStale (nc nt : Nat) (q : zIt × zLt) : zIt × zLt := if q.1 0 7 = 0 then q else (zu (zFs nc q nt).1 0 7 0, (zFs nc q nt).2)
def zShs (I : zIt) : Nat → zIt
  | 0 => I
  | k + 1 => zWork (zShs I k) (48 + k)
def zSett (q : zIt × zLt) : Nat → zIt × zLt
  | 0 => q
  | k + 1 => (zSetI (zSett q k).1 k, zSetL (zSett q k).1 (zSett q k).2 k)
def zHr (nc ns nt : Nat) (q : zIt × zLt) : zIt × zLt := zSett (zStale nc nt (zShs (zu q.1 0 8 (q.1 0 8 + 1)) ns, q.2)) nt
def zHrs (nc ns nt : Nat) (q : zIt × zLt) : Nat → zIt × zLt
  | 0 => q
  | k + 1 => zHr nc ns nt (zHrs nc ns nt q k)
section ZIP
variable {ni nc ns nt : Nat}
theorem zInv_zFs (hb : nc ≤ 16 ∧ ns ≤ 4 ∧ nt ≤ 12) (q : zIt × zLt) (h : zInv ni nc ns nt q.1) : ∀ k, k ≤ nt → zInv ni nc ns nt (zFs nc q k).1 := by
  intro k
  induction k with
  | zero => intro _; exact h
  | succ k ih => intro hk; exact zInv_zFound hb (ih (by omega))
theorem zInv_zStale (hb : nc ≤ 16 ∧ ns ≤ 4 ∧ nt ≤ 12) (q : zIt × zLt) (h : zInv ni nc ns nt q.1) : zInv ni nc ns nt (zStale nc nt q).1 := by
  unfold zStale
  split
  · exact h
  · exact zInv_zu hb (by unfold zHl; omega) (zInv_zFs hb q h nt (Nat.le_refl _))
theorem zInv_zShs (hb : nc ≤ 16 ∧ ns ≤ 4 ∧ nt ≤ 12) (I : zIt) (h : zInv ni nc ns nt I) : ∀ k, k ≤ ns → zInv ni nc ns nt (zShs I k) := by
  intro k
  induction k with
  | zero => intro _; exact h
  | succ k ih => intro hk; exact zInv_zWork hb (by omega) (ih (by omega))
theorem zInv_zSett (hb : nc ≤ 16 ∧ ns ≤ 4 ∧ nt ≤ 12) (q : zIt × zLt) (h : zInv ni nc ns nt q.1) : ∀ k, k ≤ nt → zInv ni nc ns nt (zSett q k).1 := by
  intro k
  induction k with
  | zero => intro _; exact h
  | succ k ih => intro hk; exact zInv_zSetI hb (by omega) (ih (by omega))
theorem zInv_zHr (hb : nc ≤ 16 ∧ ns ≤ 4 ∧ nt ≤ 12) (q : zIt × zLt) (h : zInv ni nc ns nt q.1) : zInv ni nc ns nt (zHr nc ns nt q).1 :=
  zInv_zSett hb _ (zInv_zStale hb _ (zInv_zShs hb _ (zInv_zu hb (by unfold zHl; omega) h) ns (Nat.le_refl _))) nt (Nat.le_refl _)
theorem zInv_zHrs (hb : nc ≤ 16 ∧ ns ≤ 4 ∧ nt ≤ 12) (q : zIt × zLt) (h : zInv ni nc ns nt q.1) : ∀ k, zInv ni nc ns nt (zHrs nc ns nt q k).1 := by
  intro k
  induction k with
  | zero => exact h
  | succ k ih => exact zInv_zHr hb _ ih
end ZIP
