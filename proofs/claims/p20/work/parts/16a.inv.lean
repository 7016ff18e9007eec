/-! THE LAW'S LOOP: what holds of the tables ahead of call n -/
def zFree (ni nc ns nt : Nat) (ty : zTyp) : Prop := (∀ i, ni ≤ i → i < 10 → ty (16 + i) = none) ∧ (∀ i, nc ≤ i → i < 16 → ty (32 + i) = none) ∧ (∀ i, ns ≤ i → i < 4 → ty (48 + i) = none) ∧ ∀ i, nt ≤ i → i < 12 → ty (64 + i) = none ∧ ty (80 + i) = none ∧ ty (96 + i) = none
def zLI (n : Nat) (ty : zTyp) (I : zIt) (L : zLt) (P : zPt) : Prop := ∃ ni nc ns nt hrs J K, (zcls ni nc ns nt ty P ∧ zFree ni nc ns nt ty) ∧ zREL ni nc ns nt hrs I L J K ∧ hrs ≤ 500 * n
theorem zLI_mono {n n' : Nat} {ty : zTyp} {I : zIt} {L : zLt} {P : zPt} (hn : n ≤ n') (h : zLI n ty I L P) : zLI n' ty I L P := by
  obtain ⟨ni, nc, ns, nt, hrs, J, K, h1, h2, h3⟩ := h
  exact ⟨ni, nc, ns, nt, hrs, J, K, h1, h2, by omega⟩
theorem zcP_01 : ∀ q ∈ zcP, q.1 = 0 ∨ q.1 = 1 := by decide
/-- cells that are made, and one reference row's place that is not spoken of -/
theorem zcls_gen {ni nc ns nt : Nat} {ty ty' : zTyp} {P P' : zPt} (κ0 k0 : Nat) (h : zcls ni nc ns nt ty P) (h1 : ∀ κ t, ty κ = some t → ty' κ = some t) (h2 : ∀ κ t k, ty κ = some t → ¬ (κ = κ0 ∧ k = k0) → P' κ k = P κ k)
    (h0 : (κ0 = 2 ∧ ni ≤ k0) ∨ (κ0 = 3 ∧ nc ≤ k0) ∨ (κ0 = 4 ∧ ns ≤ k0) ∨ (κ0 = 5 ∧ nt ≤ k0)) : zcls ni nc ns nt ty' P' := by
  obtain ⟨⟨a1, a2⟩, b, c1, c2, c3, c4⟩ := id h
  refine ⟨⟨fun q hq => h1 _ _ (a1 q hq), fun q hq => ?_⟩, b, fun i hi => ⟨h1 _ _ (c1 i hi).1, ?_⟩, fun i hi => ⟨h1 _ _ (c2 i hi).1, ?_⟩, fun i hi => ⟨h1 _ _ (c3 i hi).1, ?_⟩, fun i hi => ⟨⟨h1 _ _ (c4 i hi).1.1, ?_⟩, ⟨h1 _ _ (c4 i hi).2.1.1, ?_⟩, h1 _ _ (c4 i hi).2.2.1, ?_⟩⟩
  · have e := a2 q hq
    rcases zcP_01 q hq with e0 | e0
    · rw [e0] at e ⊢
      rw [h2 0 _ _ (zc_t0 h) (by omega)]; exact e
    · rw [e0] at e ⊢
      rw [h2 1 _ _ (zc_t1 h) (by omega)]; exact e
  · rw [h2 2 _ _ (zc_t2 h) (by omega)]; exact (c1 i hi).2
  · rw [h2 3 _ _ (zc_t3 h) (by omega)]; exact (c2 i hi).2
  · rw [h2 4 _ _ (zc_t4 h) (by omega)]; exact (c3 i hi).2
  · rw [h2 5 _ _ (zc_t5 h) (by omega)]; exact (c4 i hi).1.2
  · rw [h2 _ _ _ (c4 i hi).1.1 (by omega)]; exact (c4 i hi).2.1.2
  · rw [h2 _ _ _ (c4 i hi).2.1.1 (by omega)]; exact (c4 i hi).2.2.2
theorem zs_some {ty : zTyp} {κ0 : Nat} {q : Option (Nat × Nat)} (hf : ty κ0 = none) {κ : Nat} {t : Nat × Nat} (h : ty κ = some t) : zs ty κ0 q κ = some t := by
  rw [zs_ne _ _ (fun e => by rw [e, hf] at h; cases h)]
  exact h
theorem zT_island {ni nc ns nt : Nat} {ty : zTyp} {P : zPt} (hT : zcls ni nc ns nt ty P ∧ zFree ni nc ns nt ty) (hlt : ni < 10) :
    (zcls (ni + 1) nc ns nt (zs ty (16 + ni) (some (1, 0))) (zu (zs P (16 + ni) (fun _ => none)) 2 ni (some (16 + ni))) ∧ zFree (ni + 1) nc ns nt (zs ty (16 + ni) (some (1, 0)))) := by
  obtain ⟨hC, hF⟩ := hT
  have hfr := hF.1 ni (Nat.le_refl _) hlt
  have hb := zc_b hC
  obtain ⟨a, b, c1, c2, c3, c4⟩ := zcls_gen (ty' := zs ty (16 + ni) (some (1, 0))) (P' := zu (zs P (16 + ni) (fun _ => none)) 2 ni (some (16 + ni))) 2 ni hC (fun κ t h => zs_some hfr h)
    (fun κ t k h hne => by rw [zu_ne _ _ hne, zs_ne _ _ (fun e => by rw [e, hfr] at h; cases h)]) (Or.inl ⟨rfl, Nat.le_refl _⟩)
  refine ⟨⟨a, by omega, fun i hi => ?_, c2, c3, c4⟩, ?_⟩
  · by_cases hin : i = ni
    · subst hin
      exact ⟨zs_self _ _ _, zu_self _ _ _ _⟩
    · exact c1 i (by omega)
  · refine ⟨fun i h1 h2 => ?_, fun i h1 h2 => ?_, fun i h1 h2 => ?_, fun i h1 h2 => ?_⟩
    · rw [zs_ne _ _ (by omega)]; exact hF.1 i (by omega) h2
    · rw [zs_ne _ _ (by omega)]; exact hF.2.1 i h1 h2
    · rw [zs_ne _ _ (by omega)]; exact hF.2.2.1 i h1 h2
    · rw [zs_ne _ _ (by omega), zs_ne _ _ (by omega), zs_ne _ _ (by omega)]; exact hF.2.2.2 i h1 h2
theorem zT_cable {ni nc ns nt : Nat} {ty : zTyp} {P : zPt} (hT : zcls ni nc ns nt ty P ∧ zFree ni nc ns nt ty) (hlt : nc < 16) :
    (zcls ni (nc + 1) ns nt (zs ty (32 + nc) (some (0, 0))) (zu (zs P (32 + nc) (fun _ => none)) 3 nc (some (32 + nc))) ∧ zFree ni (nc + 1) ns nt (zs ty (32 + nc) (some (0, 0)))) := by
  obtain ⟨hC, hF⟩ := hT
  have hfr := hF.2.1 nc (Nat.le_refl _) hlt
  have hb := zc_b hC
  obtain ⟨a, b, c1, c2, c3, c4⟩ := zcls_gen (ty' := zs ty (32 + nc) (some (0, 0))) (P' := zu (zs P (32 + nc) (fun _ => none)) 3 nc (some (32 + nc))) 3 nc hC (fun κ t h => zs_some hfr h)
    (fun κ t k h hne => by rw [zu_ne _ _ hne, zs_ne _ _ (fun e => by rw [e, hfr] at h; cases h)]) (Or.inr (Or.inl ⟨rfl, Nat.le_refl _⟩))
  refine ⟨⟨a, by omega, c1, fun i hi => ?_, c3, c4⟩, ?_⟩
  · by_cases hin : i = nc
    · subst hin
      exact ⟨zs_self _ _ _, zu_self _ _ _ _⟩
    · exact c2 i (by omega)
  · refine ⟨fun i h1 h2 => ?_, fun i h1 h2 => ?_, fun i h1 h2 => ?_, fun i h1 h2 => ?_⟩
    · rw [zs_ne _ _ (by omega)]; exact hF.1 i (by omega) h2
    · rw [zs_ne _ _ (by omega)]; exact hF.2.1 i (by omega) h2
    · rw [zs_ne _ _ (by omega)]; exact hF.2.2.1 i h1 h2
    · rw [zs_ne _ _ (by omega), zs_ne _ _ (by omega), zs_ne _ _ (by omega)]; exact hF.2.2.2 i h1 h2
theorem zT_ship {ni nc ns nt : Nat} {ty : zTyp} {P : zPt} (hT : zcls ni nc ns nt ty P ∧ zFree ni nc ns nt ty) (hlt : ns < 4) :
    (zcls ni nc (ns + 1) nt (zs ty (48 + ns) (some (3, 0))) (zu (zs P (48 + ns) (fun _ => none)) 4 ns (some (48 + ns))) ∧ zFree ni nc (ns + 1) nt (zs ty (48 + ns) (some (3, 0)))) := by
  obtain ⟨hC, hF⟩ := hT
  have hfr := hF.2.2.1 ns (Nat.le_refl _) hlt
  have hb := zc_b hC
  obtain ⟨a, b, c1, c2, c3, c4⟩ := zcls_gen (ty' := zs ty (48 + ns) (some (3, 0))) (P' := zu (zs P (48 + ns) (fun _ => none)) 4 ns (some (48 + ns))) 4 ns hC (fun κ t h => zs_some hfr h)
    (fun κ t k h hne => by rw [zu_ne _ _ hne, zs_ne _ _ (fun e => by rw [e, hfr] at h; cases h)]) (Or.inr (Or.inr (Or.inl ⟨rfl, Nat.le_refl _⟩)))
  refine ⟨⟨a, by omega, c1, c2, fun i hi => ?_, c4⟩, ?_⟩
  · by_cases hin : i = ns
    · subst hin
      exact ⟨zs_self _ _ _, zu_self _ _ _ _⟩
    · exact c3 i (by omega)
  · refine ⟨fun i h1 h2 => ?_, fun i h1 h2 => ?_, fun i h1 h2 => ?_, fun i h1 h2 => ?_⟩
    · rw [zs_ne _ _ (by omega)]; exact hF.1 i (by omega) h2
    · rw [zs_ne _ _ (by omega)]; exact hF.2.1 i (by omega) h2
    · rw [zs_ne _ _ (by omega)]; exact hF.2.2.1 i (by omega) h2
    · rw [zs_ne _ _ (by omega), zs_ne _ _ (by omega), zs_ne _ _ (by omega)]; exact hF.2.2.2 i h1 h2
theorem zT_trader {ni nc ns nt : Nat} {ty : zTyp} {P : zPt} (hT : zcls ni nc ns nt ty P ∧ zFree ni nc ns nt ty) (hlt : nt < 12) {ty2 : zTyp} {P2 : zPt} (e1 : ty2 = (zs (zs (zs ty (64 + nt) (some (4, 0))) (80 + nt) (some (5, 0))) (96 + nt) (some (8, 9))))
    (e2 : P2 = (zu (zu (zu (zs (zs (zs P (64 + nt) (fun _ => none)) (80 + nt) (fun _ => none)) (96 + nt) (fun _ => none)) (80 + nt) 0 (some (96 + nt))) (64 + nt) 6 (some (80 + nt))) 5 nt (some (64 + nt)))) :
    (zcls ni nc ns (nt + 1) ty2 P2 ∧ zFree ni nc ns (nt + 1) ty2) := by
  obtain ⟨hC, hF⟩ := hT
  obtain ⟨f1, f2, f3⟩ := hF.2.2.2 nt (Nat.le_refl _) hlt
  have hb := zc_b hC
  have tN : ∀ κ, κ ≠ 64 + nt → κ ≠ 80 + nt → κ ≠ 96 + nt → ty2 κ = ty κ := fun κ q1 q2 q3 => by rw [e1, zs_ne _ _ q3, zs_ne _ _ q2, zs_ne _ _ q1]
  have t64 : ty2 (64 + nt) = some (4, 0) := by rw [e1, zs_ne _ _ (by omega), zs_ne _ _ (by omega), zs_self]
  have t80 : ty2 (80 + nt) = some (5, 0) := by rw [e1, zs_ne _ _ (by omega), zs_self]
  have t96 : ty2 (96 + nt) = some (8, 9) := by rw [e1, zs_self]
  have pN : ∀ κ k, κ ≠ 64 + nt → κ ≠ 80 + nt → κ ≠ 96 + nt → ¬ (κ = 5 ∧ k = nt) → P2 κ k = P κ k := fun κ k q1 q2 q3 q4 => by rw [e2, zu_ne _ _ q4, zu_rne q1, zu_rne q2, zs_ne _ _ q3, zs_ne _ _ q2, zs_ne _ _ q1]
  have p5 : P2 5 nt = some (64 + nt) := by rw [e2, zu_self]
  have p64 : P2 (64 + nt) 6 = some (80 + nt) := by rw [e2, zu_ne _ _ (by omega), zu_self]
  have p80 : P2 (80 + nt) 0 = some (96 + nt) := by rw [e2, zu_ne _ _ (by omega), zu_ne _ _ (by omega), zu_self]
  have hne : ∀ κ t, ty κ = some t → κ ≠ 64 + nt ∧ κ ≠ 80 + nt ∧ κ ≠ 96 + nt := fun κ t h => ⟨fun e => (by rw [e, f1] at h; cases h), fun e => (by rw [e, f2] at h; cases h), fun e => (by rw [e, f3] at h; cases h)⟩
  obtain ⟨a, b, c1, c2, c3, c4⟩ := zcls_gen (ty' := ty2) (P' := P2) 5 nt hC (fun κ t h => by obtain ⟨q1, q2, q3⟩ := hne κ t h; rw [tN κ q1 q2 q3]; exact h)
    (fun κ t k h hk => by obtain ⟨q1, q2, q3⟩ := hne κ t h; exact pN κ k q1 q2 q3 hk) (Or.inr (Or.inr (Or.inr ⟨rfl, Nat.le_refl _⟩)))
  refine ⟨⟨a, by omega, c1, c2, c3, fun i hi => ?_⟩, ?_⟩
  · by_cases hin : i = nt
    · subst hin
      exact ⟨⟨t64, p5⟩, ⟨t80, p64⟩, t96, p80⟩
    · exact c4 i (by omega)
  · refine ⟨fun i h1 h2 => ?_, fun i h1 h2 => ?_, fun i h1 h2 => ?_, fun i h1 h2 => ?_⟩
    · rw [tN _ (by omega) (by omega) (by omega)]; exact hF.1 i (by omega) h2
    · rw [tN _ (by omega) (by omega) (by omega)]; exact hF.2.1 i (by omega) h2
    · rw [tN _ (by omega) (by omega) (by omega)]; exact hF.2.2.1 i (by omega) h2
    · rw [tN _ (by omega) (by omega) (by omega), tN _ (by omega) (by omega) (by omega), tN _ (by omega) (by omega) (by omega)]; exact hF.2.2.2 i (by omega) h2
