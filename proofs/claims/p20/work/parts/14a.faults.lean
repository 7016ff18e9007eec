/-! THE FAULTS: masks in the cables, codes in a row -/
def zFl (nc : Nat) (sp : Nat → Nat) (mk : Nat → Int32) (n : Nat) (f : Nat → Int32) : Prop :=
  (∀ j, j < n → ∃ c s, c < nc ∧ s < sp c ∧ f j = nI (8 * c + s)) ∧ (∀ i j, i < n → j < n → f i = f j → i = j) ∧
  ∀ c s, c < nc → s < 32 → (zbt (mk c) s = true ↔ s < sp c ∧ ∃ j, j < n ∧ f j = nI (8 * c + s))
theorem zcode {c s : Nat} : 8 * nI c + nI s = nI (8 * c + s) := by
  have h1 : nI 8 * nI c = nI (8 * c) := (Int32.ofNat_mul 8 c).symm
  have h2 : nI (8 * c) + nI s = nI (8 * c + s) := (Int32.ofNat_add (8 * c) s).symm
  rw [show (8 : Int32) = nI 8 from rfl, h1, h2]
theorem zdiv8 : ∀ c, c < 16 → ∀ s, s < 8 → nI (8 * c + s) / 8 = nI c := by decide +kernel
theorem zFl_work {nc : Nat} {sp : Nat → Nat} {mk : Nat → Int32} {n : Nat} {f : Nat → Int32} (hnc : nc ≤ 16) (hsp : ∀ c, c < nc → sp c ≤ 8) (h : zFl nc sp mk n f) {c : Nat} (hc : c < nc) : mk c = 0 ↔ ∀ j, j < n → ¬ f j / 8 = nI c := by
  obtain ⟨h1, h2, h3⟩ := h
  constructor
  · intro h0 j hj e
    obtain ⟨c', s', hc', hs', e'⟩ := h1 j hj
    have h8 := hsp c' hc'
    rw [e', zdiv8 c' (by omega) s' (by omega)] at e
    have hcc := nI_inj e (by omega) (by omega)
    subst hcc
    have := (h3 c' s' hc (by omega)).mpr ⟨hs', j, hj, e'⟩
    rw [h0, zbt_0] at this
    cases this
  · intro hno
    apply zbt_ext
    intro s hs
    rw [zbt_0]
    cases hb : zbt (mk c) s with
    | false => rfl
    | true =>
      obtain ⟨hs', j, hj, e⟩ := (h3 c s hc hs).mp hb
      have h8 := hsp c hc
      exact absurd (by rw [e, zdiv8 c (by omega) s (by omega)]) (hno j hj)
theorem zFl_has {nc : Nat} {sp : Nat → Nat} {mk : Nat → Int32} {n : Nat} {f : Nat → Int32} (hsp : ∀ c, c < nc → sp c ≤ 8) (h : zFl nc sp mk n f) {c s : Nat} (hc : c < nc) (hs : s < sp c) : (¬ (mk c >>> (nI s &&& 31)) &&& 1 = 0) ↔ ∃ j, j < n ∧ f j = nI (8 * c + s) := by
  have h8 := hsp c hc
  rw [zbt_t (by omega), Bool.not_eq_false, h.2.2 c s hc (by omega)]
  exact ⟨fun q => q.2, fun q => ⟨hs, q⟩⟩
theorem zFl_add {nc : Nat} {sp : Nat → Nat} {mk : Nat → Int32} {n : Nat} {f : Nat → Int32} (hnc : nc ≤ 16) (hsp : ∀ c, c < nc → sp c ≤ 8) (h : zFl nc sp mk n f) {c s : Nat} (hc : c < nc) (hs : s < sp c) (hno : ¬ ∃ j, j < n ∧ f j = nI (8 * c + s)) :
    zFl nc sp (zs mk c (mk c ||| (1 <<< (nI s &&& 31)))) (n + 1) (zs f n (nI (8 * c + s))) := by
  obtain ⟨h1, h2, h3⟩ := h
  have h8 := hsp c hc
  have hin : ∀ j, j < n → zs f n (nI (8 * c + s)) j = f j := fun j hj => zs_ne _ _ (by omega)
  refine ⟨fun j hj => ?_, fun i j hi hj e => ?_, fun c' s' hc' hs' => ?_⟩
  · rcases Nat.lt_or_ge j n with q | q
    · rw [hin j q]; exact h1 j q
    · rw [show j = n by omega, zs_self]
      exact ⟨c, s, hc, hs, rfl⟩
  · rcases Nat.lt_or_ge i n with q | q <;> rcases Nat.lt_or_ge j n with r | r
    · rw [hin i q, hin j r] at e
      exact h2 i j q r e
    · rw [hin i q, show j = n by omega, zs_self] at e
      exact absurd ⟨i, q, e⟩ hno
    · rw [hin j r, show i = n by omega, zs_self] at e
      exact absurd ⟨j, r, e.symm⟩ hno
    · omega
  · have h8' := hsp c' hc'
    by_cases hcc : c' = c
    · subst hcc
      rw [zs_self, zbt_or, zbt_1 s (by omega) s' hs', Bool.or_eq_true, h3 c' s' hc hs', decide_eq_true_iff]
      constructor
      · rintro (⟨a, j, hj, e⟩ | e)
        · exact ⟨a, j, by omega, by rw [hin j hj]; exact e⟩
        · subst e
          exact ⟨hs, n, by omega, zs_self _ _ _⟩
      · rintro ⟨a, j, hj, e⟩
        rcases Nat.lt_or_ge j n with q | q
        · rw [hin j q] at e
          exact Or.inl ⟨a, j, q, e⟩
        · rw [show j = n by omega, zs_self] at e
          have := nI_inj e (by omega) (by omega)
          exact Or.inr (by omega)
    · rw [zs_ne _ _ hcc, h3 c' s' hc' hs']
      constructor
      · rintro ⟨a, j, hj, e⟩
        exact ⟨a, j, by omega, by rw [hin j hj]; exact e⟩
      · rintro ⟨a, j, hj, e⟩
        rcases Nat.lt_or_ge j n with q | q
        · rw [hin j q] at e
          exact ⟨a, j, q, e⟩
        · rw [show j = n by omega, zs_self] at e
          have := nI_inj e (by omega) (by omega)
          exact absurd (by omega) hcc
/-- the codes are apart: there are fewer than 128, if one is wanting -/
def zfin (f : Nat → Int32) (n x : Nat) : Bool := (List.range n).any (fun j => decide (f j = nI x))
theorem zfin_iff {f : Nat → Int32} {n x : Nat} : zfin f n x = true ↔ ∃ j, j < n ∧ f j = nI x := by
  unfold zfin
  rw [List.any_eq_true]
  constructor
  · rintro ⟨j, h1, h2⟩
    exact ⟨j, List.mem_range.mp h1, of_decide_eq_true h2⟩
  · rintro ⟨j, h1, h2⟩
    exact ⟨j, List.mem_range.mpr h1, decide_eq_true h2⟩
theorem zFl_cnt {f : Nat → Int32} : ∀ n, (∀ j, j < n → ∃ x, x < 128 ∧ f j = nI x) → (∀ i j, i < n → j < n → f i = f j → i = j) → n ≤ zcnt (zfin f n) 128 := by
  intro n
  induction n with
  | zero => intro _ _; exact Nat.zero_le _
  | succ n ih =>
    intro h1 h2
    have hi := ih (fun j hj => h1 j (by omega)) (fun i j hi hj => h2 i j (by omega) (by omega))
    obtain ⟨x, hx, e⟩ := h1 n (by omega)
    have : zcnt (zfin f n) 128 < zcnt (zfin f (n + 1)) 128 := by
      refine zcnt_lt hx (fun y _ hy => ?_) (zfin_iff.mpr ⟨n, by omega, e⟩) (fun hy => ?_)
      · obtain ⟨j, hj, e2⟩ := zfin_iff.mp hy
        exact zfin_iff.mpr ⟨j, by omega, e2⟩
      · obtain ⟨j, hj, e2⟩ := zfin_iff.mp hy
        have := h2 j n (by omega) (by omega) (by rw [e2, e])
        omega
    omega
theorem zFl_room {nc : Nat} {sp : Nat → Nat} {mk : Nat → Int32} {n : Nat} {f : Nat → Int32} (hnc : nc ≤ 16) (hsp : ∀ c, c < nc → sp c ≤ 8) (h : zFl nc sp mk n f) {c s : Nat} (hc : c < nc) (hs : s < sp c) (hno : ¬ ∃ j, j < n ∧ f j = nI (8 * c + s)) : n < 128 := by
  have h8 := hsp c hc
  have h1 := zFl_cnt n (fun j hj => by
    obtain ⟨c', s', hc', hs', e⟩ := h.1 j hj
    have := hsp c' hc'
    exact ⟨8 * c' + s', by omega, e⟩) h.2.1
  have h2 : zcnt (zfin f n) 128 < zcnt (fun _ => true) 128 := zcnt_lt (u := 8 * c + s) (by omega) (fun _ _ _ => rfl) rfl (fun q => hno (zfin_iff.mp q))
  have h3 := zcnt_le (fun _ => true) 128
  omega
/-- a code taken out: the class's way and the reference's -/
theorem zRf_pre {code : Int32} {f : Nat → Int32} {k : Nat} (h : ∀ j, j < k → ¬ f j = code) : ∀ m, m ≤ k → zRf code f m = (m, f) := by
  intro m
  induction m with
  | zero => intro _; rfl
  | succ m ih =>
    intro hm
    show zRf1 code (zRf code f m) m = _
    rw [ih (by omega)]
    unfold zRf1
    dsimp only
    rw [if_neg (h m (by omega)), show zs f m (f m) = f from zs_id f m]
theorem zRf_shf {code : Int32} {f : Nat → Int32} {k n : Nat} (hk : f k = code) (hno : ∀ j, j < n → j ≠ k → ¬ f j = code) : ∀ m, k + 1 + m ≤ n → zRf code f (k + 1 + m) = (k + m, zShf f k (k + m)) := by
  intro m
  induction m with
  | zero =>
    intro hm
    show zRf1 code (zRf code f k) k = (k, zShf f k k)
    rw [zRf_pre (k := k) (fun j hj => hno j (by omega) (by omega)) k (Nat.le_refl _), zShf_0]
    unfold zRf1
    dsimp only
    rw [if_pos hk]
  | succ m ih =>
    intro hm
    show zRf1 code (zRf code f (k + 1 + m)) (k + 1 + m) = _
    rw [ih (by omega)]
    unfold zRf1
    dsimp only
    have e : zShf f k (k + m) (k + 1 + m) = f (k + m + 1) := by rw [show k + 1 + m = k + m + 1 by omega, zShf_at]
    rw [if_neg (by rw [e]; exact hno (k + m + 1) (by omega) (by omega)), e, zShf_s f k (k + m) (by omega)]
    rfl
theorem zRf_out {code : Int32} {f : Nat → Int32} {k n : Nat} (hkn : k < n) (hk : f k = code) (hno : ∀ j, j < n → j ≠ k → ¬ f j = code) : zRf code f n = (n - 1, zShf f k (n - 1)) := by
  have := zRf_shf hk hno (n - (k + 1)) (by omega)
  rw [show k + 1 + (n - (k + 1)) = n by omega, show k + (n - (k + 1)) = n - 1 by omega] at this
  exact this
theorem zFl_rmv {nc : Nat} {sp : Nat → Nat} {mk : Nat → Int32} {n : Nat} {f : Nat → Int32} (hnc : nc ≤ 16) (hsp : ∀ c, c < nc → sp c ≤ 8) (h : zFl nc sp mk n f) {c s k : Nat} (hc : c < nc) (hs : s < sp c) (hk : k < n) (hfk : f k = nI (8 * c + s)) :
    zFl nc sp (zs mk c (mk c &&& ((1 <<< (nI s &&& 31)) ^^^ (-1)))) (n - 1) (zShf f k (n - 1)) := by
  obtain ⟨h1, h2, h3⟩ := h
  have h8 := hsp c hc
  have hsh : ∀ j, j < n - 1 → ∃ i, i < n ∧ i ≠ k ∧ zShf f k (n - 1) j = f i ∧ (i = j ∧ j < k ∨ i = j + 1 ∧ k ≤ j) := by
    intro j hj
    unfold zShf
    by_cases q : k ≤ j ∧ j < n - 1
    · rw [if_pos q]; exact ⟨j + 1, by omega, by omega, rfl, Or.inr ⟨rfl, q.1⟩⟩
    · rw [if_neg q]; exact ⟨j, by omega, by omega, rfl, Or.inl ⟨rfl, by omega⟩⟩
  have hback : ∀ i, i < n → i ≠ k → ∃ j, j < n - 1 ∧ zShf f k (n - 1) j = f i := by
    intro i hi hik
    rcases Nat.lt_or_ge i k with q | q
    · exact ⟨i, by omega, by unfold zShf; rw [if_neg (by omega)]⟩
    · refine ⟨i - 1, by omega, ?_⟩
      unfold zShf
      rw [if_pos (by omega), show i - 1 + 1 = i by omega]
  refine ⟨fun j hj => ?_, fun i j hi hj e => ?_, fun c' s' hc' hs' => ?_⟩
  · obtain ⟨i, hi, -, e, -⟩ := hsh j hj
    rw [e]; exact h1 i hi
  · obtain ⟨i1, a1, a2, a3, a4⟩ := hsh i hi
    obtain ⟨j1, b1, b2, b3, b4⟩ := hsh j hj
    rw [a3, b3] at e
    have := h2 i1 j1 a1 b1 e
    omega
  · have h8' := hsp c' hc'
    by_cases hcc : c' = c
    · subst hcc
      rw [zs_self, zbt_and, zbt_xor, zbt_1 s (by omega) s' hs', zbt_m1 s' hs', Bool.and_eq_true, h3 c' s' hc' hs']
      constructor
      · rintro ⟨⟨a, j, hj, e⟩, b⟩
        have hss : s' ≠ s := by
          intro q
          rw [q] at b
          simp at b
        obtain ⟨i, hi, e2⟩ := hback j hj (fun q => by
          rw [q, hfk] at e
          have := nI_inj e (by omega) (by omega)
          omega)
        exact ⟨a, i, hi, by rw [e2]; exact e⟩
      · rintro ⟨a, j, hj, e⟩
        obtain ⟨i, hi, hik, e2, -⟩ := hsh j hj
        rw [e2] at e
        refine ⟨⟨a, i, hi, e⟩, ?_⟩
        have hss : s' ≠ s := by
          intro q
          rw [q, ← hfk] at e
          exact hik (h2 i k hi hk e)
        simp [hss]
    · rw [zs_ne _ _ hcc, h3 c' s' hc' hs']
      constructor
      · rintro ⟨a, j, hj, e⟩
        obtain ⟨i, hi, e2⟩ := hback j hj (fun q => by
          rw [q, hfk] at e
          have := nI_inj e (by omega) (by omega)
          omega)
        exact ⟨a, i, hi, by rw [e2]; exact e⟩
      · rintro ⟨a, j, hj, e⟩
        obtain ⟨i, hi, hik, e2, -⟩ := hsh j hj
        rw [e2] at e
        exact ⟨a, i, hi, e⟩
theorem zFl_congr {nc : Nat} {sp sp' : Nat → Nat} {mk mk' : Nat → Int32} {n : Nat} {f f' : Nat → Int32} (h : zFl nc sp mk n f) (e1 : ∀ c, c < nc → sp' c = sp c) (e2 : ∀ c, c < nc → mk' c = mk c) (e3 : ∀ j, j < n → f' j = f j) : zFl nc sp' mk' n f' := by
  obtain ⟨h1, h2, h3⟩ := h
  refine ⟨fun j hj => ?_, fun i j hi hj e => h2 i j hi hj (by rw [← e3 i hi, ← e3 j hj]; exact e), fun c s hc hs => ?_⟩
  · obtain ⟨c, s, hc, hs, e⟩ := h1 j hj
    exact ⟨c, s, hc, by rw [e1 c hc]; exact hs, by rw [e3 j hj]; exact e⟩
  · rw [e2 c hc, e1 c hc, h3 c s hc hs]
    constructor
    · rintro ⟨a, j, hj, e⟩; exact ⟨a, j, hj, by rw [e3 j hj]; exact e⟩
    · rintro ⟨a, j, hj, e⟩; exact ⟨a, j, hj, by rw [← e3 j hj]; exact e⟩
/-- the place of a code in the row, as the reference looks for it -/
theorem zfst_code {f : Nat → Int32} {n : Nat} {x : Int32} : (∃ j, j < n ∧ f j = x) ↔ ∃ k, zfst (fun j => decide (f j = x)) n = some k := by
  constructor
  · rintro ⟨j, hj, e⟩
    cases hz : zfst (fun j => decide (f j = x)) n with
    | some k => exact ⟨k, rfl⟩
    | none =>
      have := zfst_no hz j hj
      rw [decide_eq_true e] at this
      cases this
  · rintro ⟨k, hz⟩
    obtain ⟨h1, h2, -⟩ := zfst_spec hz
    exact ⟨k, h1, of_decide_eq_true h2⟩
