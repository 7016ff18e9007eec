theorem zTy_ok : ∀ ci, ci < 8 → ∀ k, k < zN ci → parseFieldDescriptor (zT ci k).2.2.1 = some (zTy ci k) := by
  intro ci h
  match ci, h with
  | 0, _ => exact tyX0_ok
  | 1, _ => exact tyX1_ok
  | 2, _ => exact tyX2_ok
  | 3, _ => exact tyX3_ok
  | 4, _ => exact tyX4_ok
  | 5, _ => exact tyX5_ok
  | 6, _ => exact tyX6_ok
  | 7, _ => exact tyX6_ok
  | n + 8, h => omega
theorem zT_nm : ∀ ci, ci < 8 → ∀ a, a < zN ci → ∀ b, b < zN ci → a ≠ b → (zT ci a).2.1 ≠ (zT ci b).2.1 := by
  intro ci h
  match ci, h with
  | 0, _ => exact nmX0
  | 1, _ => exact nmX1
  | 2, _ => exact nmX2
  | 3, _ => exact nmX3
  | 4, _ => exact nmX4
  | 5, _ => exact nmX5
  | 6, _ => exact nmX6
  | 7, _ => exact nmX6
  | n + 8, h => omega
theorem zlay_ok (C : String) (T : u_T) (N : Nat) : ∀ w ∈ u_ws C T N, zok w = true := by
  intro w hw
  obtain ⟨k, -, rfl⟩ := List.mem_map.mp hw
  unfold u_lay
  split <;> rfl
theorem zT_in : ∀ ci, ci < 8 → ∀ w ∈ u_ws (zR ci) (zT ci) (zN ci), w ∈ lw_tbl := by
  intro ci h
  match ci, h with
  | 0, _ => exact inX0
  | 1, _ => exact inX1
  | 2, _ => exact inX2
  | 3, _ => exact inX3
  | 4, _ => exact inX4
  | 5, _ => exact inX5
  | 6, _ => exact inX6
  | 7, _ => exact inX6
  | n + 8, h => omega
theorem zEnv.lays {s : State} {A : Array Value} (h : zEnv s) {ci : Nat} (hc : ci < 8) : ∀ w ∈ u_ws (zR ci) (zT ci) (zN ci), w.before A s = true :=
  fun w hw => h.use (zT_in ci hc w hw) (zlay_ok _ _ _ w hw)
/-- the table's facts of a field as an instruction names it -/
def zF (own : String) (idx ci k kd : Nat) : Prop := ci < 8 ∧ k < zN ci ∧ zkd (zTy ci k) = kd ∧ (zT ci k).1 = zR ci ∧
  (Cond.fieldLink own idx (zR ci) (zT ci k).2.1 (zT ci k).2.2.1 ∈ lw_tbl ∨ ∃ host, Cond.fieldLinkNest own idx (zR ci) (zT ci k).2.1 (zT ci k).2.2.1 host ∈ lw_tbl)
/-- what a walk stands on -/
def zM (p : Program) (s : State) (m : MethodId) (c : Code) (cc : ByteArray) (own : String) (nL base : Nat) (D : zDD) (cA : Nat → ClassId) : Prop :=
  p.tables.exec = Jvm.exec ∧ c.code = cc ∧ c.maxLocals = nL ∧ s.vm.findClass own = some m.cls ∧ zG base D cA s
theorem z_ref {ad : Nat → Nat} {T : FieldType} {x : Int32} {y : Int64} {q : Option Nat} {κ : Nat} (h : zkd T = 2) (hq : q = some κ) : zv ad T x y q = .ref (ad κ) := by
  rw [zv_r h, hq]
  rfl
section ZR
variable {p : Program} {l : Launch} {e : Env} {R : Room} {s : State} {m : MethodId} {args : Array Value} {below : List Frame} {meth : Method} {c : Code} {H : Heap} {locs : List Loc} {cells slots : Nat} {Q : State → Prop}
variable {cc : ByteArray} {own : String} {nL base : Nat} {D : zDD} {cA : Nat → ClassId} {ad : Nat → Nat} {ty : zTyp} {I : zIt} {L : zLt} {P : zPt}
variable {pc : Nat} {ls : Array Slot} {rest : List Value} {κ ci n k idx : Nat}
theorem z_getv (M : zM p s m c cc own nL base D cA) (hw : zH base D cA s H locs ad ty I L P) {kd : Nat} (hty : ty κ = some (ci, n)) (hF : zF own idx ci k kd) {v : Value} (hv : zv ad (zTy ci k) (I κ k) (L κ k) (P κ k) = v) (hdg : decode cc pc = .ok (.getfield idx, 3))
    (kk : W p l e R s m args below meth c H locs cells slots Q (F0 m (pc + 3) ls (v :: rest))) : W p l e R s m args below meth c H locs cells slots Q (F0 m pc ls (.ref (ad κ) :: rest)) := by
  obtain ⟨hx, hb, -, hown, hE, hKn, -⟩ := M
  obtain ⟨h8, hk, -, hcl, hlk⟩ := hF
  obtain ⟨cell, q1, q2, q3, q4⟩ := (zAt.obj h8).mp (hw.1.1 κ _ hty).1
  obtain ⟨hS, hfc, kC, hkC, hkind⟩ := hKn.1 ci h8
  obtain ⟨cf, kf, fi, f, hi, hsl⟩ := hS k hk
  have hst := (u_facts hfc hkC (u_lays (args := args) (hE.lays h8) (fun _ h => h) hk) hi).1
  have hsv : cell.slots[f.slot]? = some v := by rw [hsl]; exact (q4 k hk).trans (congrArg some hv)
  rw [hcl] at hi
  rcases hlk with hlk | ⟨host, hlk⟩
  · exact W.getf hx hb hown (hE.use hlk rfl) hi hst q1 (by rw [q3]; exact fun h => by cases h) (v := v) hsv rfl rfl hdg kk
  · exact va_Wgetf hx hb hown (hE.use hlk rfl) hi hst q1 (by rw [q3]; exact fun h => by cases h) (v := v) hsv rfl rfl hdg kk
theorem z_geti (M : zM p s m c cc own nL base D cA) (hw : zH base D cA s H locs ad ty I L P) (hty : ty κ = some (ci, n)) (hF : zF own idx ci k 0) (hdg : decode cc pc = .ok (.getfield idx, 3))
    (kk : W p l e R s m args below meth c H locs cells slots Q (F0 m (pc + 3) ls (.int (I κ k) :: rest))) : W p l e R s m args below meth c H locs cells slots Q (F0 m pc ls (.ref (ad κ) :: rest)) :=
  z_getv M hw hty hF (zv_i hF.2.2.1) hdg kk
theorem z_getl (M : zM p s m c cc own nL base D cA) (hw : zH base D cA s H locs ad ty I L P) (hty : ty κ = some (ci, n)) (hF : zF own idx ci k 1) (hdg : decode cc pc = .ok (.getfield idx, 3))
    (kk : W p l e R s m args below meth c H locs cells slots Q (F0 m (pc + 3) ls (.long (L κ k) :: rest))) : W p l e R s m args below meth c H locs cells slots Q (F0 m pc ls (.ref (ad κ) :: rest)) :=
  z_getv M hw hty hF (zv_l hF.2.2.1) hdg kk
theorem z_getr (M : zM p s m c cc own nL base D cA) (hw : zH base D cA s H locs ad ty I L P) (hty : ty κ = some (ci, n)) (hF : zF own idx ci k 2) {κ' : Nat} (hp : P κ k = some κ') (hdg : decode cc pc = .ok (.getfield idx, 3))
    (kk : W p l e R s m args below meth c H locs cells slots Q (F0 m (pc + 3) ls (.ref (ad κ') :: rest))) : W p l e R s m args below meth c H locs cells slots Q (F0 m pc ls (.ref (ad κ) :: rest)) :=
  z_getv M hw hty hF (z_ref hF.2.2.1 hp) hdg kk
theorem zKn.apart {s : State} (hE : zEnv s) (hKn : zKn D cA s) (h8 : ci < 8) : ∀ x y, x < zN ci → y < zN ci → x ≠ y → (D.1.2 ci) x ≠ (D.1.2 ci) y := by
  intro x y hx hy hne
  obtain ⟨hS, -⟩ := hKn.1 ci h8
  obtain ⟨_, _, _, fa, hia, ea⟩ := hS x hx
  obtain ⟨_, _, _, fb, hib, eb⟩ := hS y hy
  rw [← ea, ← eb]
  refine u_apart (args := #[]) (u_lays (hE.lays h8) (fun _ h => h) hx) (u_lays (hE.lays h8) (fun _ h => h) hy) hia hib ?_
  rw [(State.fieldFound?_type hia (zTy_ok ci h8 x hx)).1, (State.fieldFound?_type hib (zTy_ok ci h8 y hy)).1]
  exact zT_nm ci h8 x hx y hy hne
theorem z_putv (M : zM p s m c cc own nL base D cA) (hw : zH base D cA s H locs ad ty I L P) {kd : Nat} (hty : ty κ = some (ci, n)) (hF : zF own idx ci k kd) (hfin : (zT ci k).2.2.2 = false ∨ ((zT ci k).2.2.2 = true ∧ zR ci = own ∧ meth.name = "<init>")) {v : Value} (hn : narrow (zTy ci k) v = v) (hfit : fits (zTy ci k) v = true)
    {I' : zIt} {L' : zLt} {P' : zPt} (hI : ∀ κ', κ' ≠ κ → I' κ' = I κ') (hL : ∀ κ', κ' ≠ κ → L' κ' = L κ') (hP : ∀ κ', κ' ≠ κ → P' κ' = P κ') (hPc : ∀ k κ', P' κ k = some κ' → ∃ t, ty κ' = some t)
    (hV : ∀ j, j < zN ci → updV (fun k => zv ad (zTy ci k) (I κ k) (L κ k) (P κ k)) k v j = zv ad (zTy ci j) (I' κ j) (L' κ j) (P' κ j)) (hdg : decode cc pc = .ok (.putfield idx, 3))
    (kk : ∀ (H : Heap) (locs : List Loc), zH base D cA s H locs ad ty I' L' P' → W p l e R s m args below meth c H locs cells slots Q (F0 m (pc + 3) ls rest)) : W p l e R s m args below meth c H locs cells slots Q (F0 m pc ls (v :: .ref (ad κ) :: rest)) := by
  obtain ⟨hx, hb, -, hown, hE, hKn, -⟩ := M
  obtain ⟨h8, hk, -, hcl, hlk⟩ := hF
  obtain ⟨hAt, hba, -, -⟩ := hw.1.1 κ _ hty
  obtain ⟨cell, q1, q2, q3, q4⟩ := (zAt.obj h8).mp hAt
  have hap := hKn.apart hE h8
  obtain ⟨hS, hfc, kC, hkC, hkind⟩ := hKn.1 ci h8
  obtain ⟨cf, kf, fi, f, hi, hsl⟩ := hS k hk
  have hst := (u_facts hfc hkC (u_lays (args := args) (hE.lays h8) (fun _ h => h) hk) hi).1
  have hlay := hE.lays (A := args) h8 _ (u_in_lay (C := zR ci) (T := zT ci) hk)
  unfold u_lay at hlay
  have last : ∀ H' : Heap, H'[ad κ]? = some (cell.setSlot f.slot v) → H'.size = H.size → (∀ q, q ≠ ad κ → H'[q]? = H[q]?) → W p l e R s m args below meth c H' (locs ++ [⟨ad κ, f.slot⟩]) cells slots Q (F0 m (pc + 3) ls rest) := by
    intro H' e1 e2 e3
    rw [hsl] at e1
    refine kk H' _ ⟨hw.1.put hty hI hL hP hPc ((zAt.obj h8).mpr ?_) e2 e3, hw.2.put e2 e3 hba⟩
    exact t_OB.to ⟨_, e1, q2, q3, t_set q4 hap hk v⟩ hV
  rcases hfin with hfin | ⟨hfin, hro, hin⟩
  · rw [if_neg (by rw [hfin]; decide)] at hlay
    have h6 := u_store hfc hkC hkind hlay hi (zTy_ok ci h8 k hk) hn hfit
    rw [hcl] at hi
    rcases hlk with hlk | ⟨host, hlk⟩
    · exact W.putK hx hb (f := f) ⟨hown, hE.use hlk rfl, ⟨_, _, _, hi⟩, hst⟩ (by rw [q2]; exact h6) q1 q3 (by rw [hsl]; exact k2_hasslot (q4 k hk)) rfl rfl hdg last
    · exact va_WputK hx hb (f := f) hown (hE.use hlk rfl) hi hst (by rw [q2]; exact h6) q1 q3 (by rw [hsl]; exact k2_hasslot (q4 k hk)) rfl rfl hdg last
  · rw [if_pos hfin] at hlay
    have hcf : m.cls = cf := by
      obtain ⟨_, _, c', _, _, _, -, -, hf', -, -, -, hown2, -⟩ := Cond.laysFinal_spec hlay
      have e1 : c' = cf := by have := hi.symm.trans hf'; simp at this; exact this.1.symm
      rw [hcl, hro] at hown2
      rw [← e1]; exact Option.some.inj (hown.symm.trans hown2)
    have h6 := u_fits hfc hkC hkind (Or.inr hlay) hi (zTy_ok ci h8 k hk) hn hfit
    rw [hcl] at hi
    rcases hlk with hlk | ⟨host, hlk⟩
    · exact W.putFinK hx hb hown (hE.use hlk rfl) hi hst hcf hin (by rw [q2]; exact h6) q1 q3 (by rw [hsl]; exact k2_hasslot (q4 k hk)) rfl rfl hdg last
    · exact va_Wputf hx hb hown (hE.use hlk rfl) hi hst (Or.inr ⟨hcf, hin⟩) q1 (by rw [q3]; exact fun h => by cases h) (by rw [hsl]; exact k2_hasslot (q4 k hk)) h6.1 (by rw [q2, q3]; exact h6.2) rfl rfl hdg (last _ (by simp [Array.getElem?_setIfInBounds, (Array.getElem?_eq_some_iff.mp q1).1]) (by simp) (fun q hq => by simp [Array.getElem?_setIfInBounds, Ne.symm hq]))
theorem z_puti (M : zM p s m c cc own nL base D cA) (hw : zH base D cA s H locs ad ty I L P) (hty : ty κ = some (ci, n)) (hF : zF own idx ci k 0) (hfin : (zT ci k).2.2.2 = false ∨ ((zT ci k).2.2.2 = true ∧ zR ci = own ∧ meth.name = "<init>")) {x : Int32} (hn : narrow (zTy ci k) (.int x) = .int x) (hfit : fits (zTy ci k) (.int x) = true) (hdg : decode cc pc = .ok (.putfield idx, 3))
    (kk : ∀ (H : Heap) (locs : List Loc), zH base D cA s H locs ad ty (zu I κ k x) L P → W p l e R s m args below meth c H locs cells slots Q (F0 m (pc + 3) ls rest)) : W p l e R s m args below meth c H locs cells slots Q (F0 m pc ls (.int x :: .ref (ad κ) :: rest)) := by
  refine z_putv M hw hty hF hfin hn hfit (I' := zu I κ k x) (L' := L) (P' := P) (fun κ' h => ?_) (fun _ _ => rfl) (fun _ _ => rfl) (fun k2 κ2 h => hw.1.2.2 κ k2 κ2 h) (fun j hj => ?_) hdg kk
  · funext b
    exact zu_ne _ _ (fun h2 => h h2.1)
  · by_cases hjk : j = k
    · subst hjk
      rw [zu_self, zv_i hF.2.2.1]
      simp [updV]
    · rw [zu_ne _ _ (fun h2 => hjk h2.2)]
      simp [updV, hjk]
theorem z_putl (M : zM p s m c cc own nL base D cA) (hw : zH base D cA s H locs ad ty I L P) (hty : ty κ = some (ci, n)) (hF : zF own idx ci k 1) (hfin : (zT ci k).2.2.2 = false ∨ ((zT ci k).2.2.2 = true ∧ zR ci = own ∧ meth.name = "<init>")) {x : Int64} (hn : narrow (zTy ci k) (.long x) = .long x) (hfit : fits (zTy ci k) (.long x) = true) (hdg : decode cc pc = .ok (.putfield idx, 3))
    (kk : ∀ (H : Heap) (locs : List Loc), zH base D cA s H locs ad ty I (zu L κ k x) P → W p l e R s m args below meth c H locs cells slots Q (F0 m (pc + 3) ls rest)) : W p l e R s m args below meth c H locs cells slots Q (F0 m pc ls (.long x :: .ref (ad κ) :: rest)) := by
  refine z_putv M hw hty hF hfin hn hfit (I' := I) (L' := zu L κ k x) (P' := P) (fun _ _ => rfl) (fun κ' h => ?_) (fun _ _ => rfl) (fun k2 κ2 h => hw.1.2.2 κ k2 κ2 h) (fun j hj => ?_) hdg kk
  · funext b
    exact zu_ne _ _ (fun h2 => h h2.1)
  · by_cases hjk : j = k
    · subst hjk
      rw [zu_self, zv_l hF.2.2.1]
      simp [updV]
    · rw [zu_ne _ _ (fun h2 => hjk h2.2)]
      simp [updV, hjk]
theorem z_putr (M : zM p s m c cc own nL base D cA) (hw : zH base D cA s H locs ad ty I L P) (hty : ty κ = some (ci, n)) (hF : zF own idx ci k 2) (hfin : (zT ci k).2.2.2 = false ∨ ((zT ci k).2.2.2 = true ∧ zR ci = own ∧ meth.name = "<init>")) {κ' : Nat} {t' : Nat × Nat} (ht' : ty κ' = some t') (hn : ∀ a, narrow (zTy ci k) (.ref a) = .ref a) (hfit : ∀ a, fits (zTy ci k) (.ref a) = true) (hdg : decode cc pc = .ok (.putfield idx, 3))
    (kk : ∀ (H : Heap) (locs : List Loc), zH base D cA s H locs ad ty I L (zu P κ k (some κ')) → W p l e R s m args below meth c H locs cells slots Q (F0 m (pc + 3) ls rest)) : W p l e R s m args below meth c H locs cells slots Q (F0 m pc ls (.ref (ad κ') :: .ref (ad κ) :: rest)) := by
  refine z_putv M hw hty hF hfin (hn _) (hfit _) (I' := I) (L' := L) (P' := zu P κ k (some κ')) (fun _ _ => rfl) (fun _ _ => rfl) (fun κ2 h => ?_) (fun k2 κ2 h => ?_) (fun j hj => ?_) hdg kk
  · funext b
    exact zu_ne _ _ (fun h2 => h h2.1)
  · by_cases hk2 : k2 = k
    · subst hk2
      rw [zu_self] at h
      cases h
      exact ⟨_, ht'⟩
    · rw [zu_ne _ _ (fun h2 => hk2 h2.2)] at h
      exact hw.1.2.2 κ k2 κ2 h
  · by_cases hjk : j = k
    · subst hjk
      rw [zu_self, zv_r hF.2.2.1]
      simp [updV, va_rf]
    · rw [zu_ne _ _ (fun h2 => hjk h2.2)]
      simp [updV, hjk]
end ZR
