theorem zTy_nf : ∀ ci, ci < 8 → ∀ k, k < zN ci → zTy ci k ≠ .float ∧ zTy ci k ≠ .double := by decide +kernel
section ZA
variable {p : Program} {l : Launch} {e : Env} {R : Room} {s : State} {m : MethodId} {args : Array Value} {below : List Frame} {meth : Method} {c : Code} {H : Heap} {locs : List Loc} {cells slots : Nat} {Q : State → Prop}
variable {cc : ByteArray} {own : String} {nL base : Nat} {D : zDD} {cA : Nat → ClassId} {ad : Nat → Nat} {ty : zTyp} {I : zIt} {L : zLt} {P : zPt}
variable {pc : Nat} {ls : Array Slot} {rest : List Value} {κ ci n k idx : Nat}
theorem z_iald (M : zM p s m c cc own nL base D cA) (hw : zH base D cA s H locs ad ty I L P) (hty : ty κ = some (8, n)) {i : Int32} (hin : vp_in i n) (hdg : decode cc pc = .ok (.iaload, 1))
    (kk : W p l e R s m args below meth c H locs cells slots Q (F0 m (pc + 1) ls (.int (I κ i.toNatClampNeg) :: rest))) : W p l e R s m args below meth c H locs cells slots Q (F0 m pc ls (.int i :: .ref (ad κ) :: rest)) := by
  obtain ⟨hx, hb, -, hown, hE, hKn, -⟩ := M
  have hlt : i.toNatClampNeg < n := Nat.not_le.mp fun q => hin (Or.inr q)
  have hc := (zAt.arr (e := 0)).mp (hw.1.1 κ _ hty).1
  exact W.iald (v := .int (I κ i.toNatClampNeg)) hx hb hc ((hKn.2 0 (by decide)).1 n _) (fun q => by cases q) (by rw [arrV_size]; exact hin) (by rw [arrV_read _ _ hlt]; rfl) rfl rfl hdg kk
theorem z_lald (M : zM p s m c cc own nL base D cA) (hw : zH base D cA s H locs ad ty I L P) (hty : ty κ = some (9, n)) {i : Int32} (hin : vp_in i n) (hdg : decode cc pc = .ok (.laload, 1))
    (kk : W p l e R s m args below meth c H locs cells slots Q (F0 m (pc + 1) ls (.long (L κ i.toNatClampNeg) :: rest))) : W p l e R s m args below meth c H locs cells slots Q (F0 m pc ls (.int i :: .ref (ad κ) :: rest)) := by
  obtain ⟨hx, hb, -, hown, hE, hKn, -⟩ := M
  have hlt : i.toNatClampNeg < n := Nat.not_le.mp fun q => hin (Or.inr q)
  have hc := (zAt.arr (e := 1)).mp (hw.1.1 κ _ hty).1
  exact W.lald (v := .long (L κ i.toNatClampNeg)) hx hb hc ((hKn.2 1 (by decide)).1 n _) (fun q => by cases q) (by rw [arrV_size]; exact hin) (by rw [arrV_read _ _ hlt]; rfl) rfl rfl hdg kk
theorem z_aald (M : zM p s m c cc own nL base D cA) (hw : zH base D cA s H locs ad ty I L P) {e9 : Nat} (hty : ty κ = some (8 + e9, n)) (he9 : e9 < 7 ∧ zkd (zEl e9) = 2) {i : Int32} (hin : vp_in i n) {κ' : Nat} (hp : P κ i.toNatClampNeg = some κ') (hdg : decode cc pc = .ok (.aaload, 1))
    (kk : W p l e R s m args below meth c H locs cells slots Q (F0 m (pc + 1) ls (.ref (ad κ') :: rest))) : W p l e R s m args below meth c H locs cells slots Q (F0 m pc ls (.int i :: .ref (ad κ) :: rest)) := by
  obtain ⟨hx, hb, -, hown, hE, hKn, -⟩ := M
  have hlt : i.toNatClampNeg < n := Nat.not_le.mp fun q => hin (Or.inr q)
  have hc := zAt.arr.mp (hw.1.1 κ _ hty).1
  have hr : (zEl e9).isReference = true := by
    have := he9.2
    revert this
    cases zEl e9 <;> intro h <;> first | rfl | (cases h)
  exact W.aald (v := .ref (ad κ')) hx hb hc ((hKn.2 e9 he9.1).1 n _) hr (fun q => by cases q) (by rw [arrV_size]; exact hin) (by rw [arrV_read _ _ hlt, z_ref he9.2 hp]) rfl rfl hdg kk
theorem z_alen (M : zM p s m c cc own nL base D cA) (hw : zH base D cA s H locs ad ty I L P) {e9 : Nat} (hty : ty κ = some (8 + e9, n)) (he9 : e9 < 7) (hdg : decode cc pc = .ok (.arraylength, 1))
    (kk : W p l e R s m args below meth c H locs cells slots Q (F0 m (pc + 1) ls (.int (nI n) :: rest))) : W p l e R s m args below meth c H locs cells slots Q (F0 m pc ls (.ref (ad κ) :: rest)) := by
  obtain ⟨hx, hb, -, hown, hE, hKn, -⟩ := M
  have hc := zAt.arr.mp (hw.1.1 κ _ hty).1
  exact W.alen (n := nI n) hx hb hc ((hKn.2 e9 he9).1 n _) (by rw [arrV_size]; rfl) rfl rfl hdg kk
/-- an array's cell behind a store -/
theorem z_arrput (hw : zH base D cA s H locs ad ty I L P) {e9 : Nat} (hty : ty κ = some (8 + e9, n)) {j : Nat} {v : Value} {H1 : Heap} {I' : zIt} {L' : zLt} {P' : zPt} (hI : ∀ κ', κ' ≠ κ → I' κ' = I κ') (hL : ∀ κ', κ' ≠ κ → L' κ' = L κ') (hP : ∀ κ', κ' ≠ κ → P' κ' = P κ') (hPc : ∀ k κ', P' κ k = some κ' → ∃ t, ty κ' = some t)
    (hV : ∀ q, updV (fun k => zv ad (zEl e9) (I κ k) (L κ k) (P κ k)) j v q = zv ad (zEl e9) (I' κ q) (L' κ q) (P' κ q))
    (e1 : H1[ad κ]? = some ((arrV (cA e9) n (fun k => zv ad (zEl e9) (I κ k) (L κ k) (P κ k))).setSlot j v)) (e2 : H1.size = H.size) (e3 : ∀ q, q ≠ ad κ → H1[q]? = H[q]?) : zH base D cA s H1 (locs ++ [⟨ad κ, j⟩]) ad ty I' L' P' := by
  obtain ⟨-, hba, -, -⟩ := hw.1.1 κ _ hty
  refine ⟨hw.1.put hty hI hL hP hPc (zAt.arr.mpr ?_) e2 e3, hw.2.put e2 e3 hba⟩
  rw [e1, arrV_store]
  congr 2
  funext q
  exact hV q
theorem z_iast (M : zM p s m c cc own nL base D cA) (hw : zH base D cA s H locs ad ty I L P) (hty : ty κ = some (8, n)) {i x : Int32} (hin : vp_in i n) (hdg : decode cc pc = .ok (.iastore, 1))
    (kk : ∀ (H : Heap) (locs : List Loc), zH base D cA s H locs ad ty (zu I κ i.toNatClampNeg x) L P → W p l e R s m args below meth c H locs cells slots Q (F0 m (pc + 1) ls rest)) : W p l e R s m args below meth c H locs cells slots Q (F0 m pc ls (.int x :: .int i :: .ref (ad κ) :: rest)) := by
  obtain ⟨hx, hb, -, hown, hE, hKn, -⟩ := M
  have hc := (zAt.arr (e := 0)).mp (hw.1.1 κ _ hty).1
  refine W.iast hx hb hc ((hKn.2 0 (by decide)).1 n _) (fun q => by cases q) (by rw [arrV_size]; exact hin) rfl rfl hdg fun H1 e1 e2 e3 => ?_
  refine kk H1 _ (z_arrput (e9 := 0) hw hty (fun κ' h => ?_) (fun _ _ => rfl) (fun _ _ => rfl) (fun k2 κ2 h => hw.1.2.2 κ k2 κ2 h) (fun q => ?_) e1 e2 e3)
  · funext b
    exact zu_ne _ _ (fun h2 => h h2.1)
  · by_cases hq : q = i.toNatClampNeg
    · subst hq
      rw [zu_self]
      simp [updV]
      rfl
    · rw [zu_ne _ _ (fun h2 => hq h2.2)]
      simp [updV, hq]
theorem z_last (M : zM p s m c cc own nL base D cA) (hw : zH base D cA s H locs ad ty I L P) (hty : ty κ = some (9, n)) {i : Int32} {x : Int64} (hin : vp_in i n) (hdg : decode cc pc = .ok (.lastore, 1))
    (kk : ∀ (H : Heap) (locs : List Loc), zH base D cA s H locs ad ty I (zu L κ i.toNatClampNeg x) P → W p l e R s m args below meth c H locs cells slots Q (F0 m (pc + 1) ls rest)) : W p l e R s m args below meth c H locs cells slots Q (F0 m pc ls (.long x :: .int i :: .ref (ad κ) :: rest)) := by
  obtain ⟨hx, hb, -, hown, hE, hKn, -⟩ := M
  have hc := (zAt.arr (e := 1)).mp (hw.1.1 κ _ hty).1
  refine W.last hx hb hc ((hKn.2 1 (by decide)).1 n _) (fun q => by cases q) (by rw [arrV_size]; exact hin) rfl rfl hdg fun H1 e1 e2 e3 => ?_
  refine kk H1 _ (z_arrput (e9 := 1) hw hty (fun _ _ => rfl) (fun κ' h => ?_) (fun _ _ => rfl) (fun k2 κ2 h => hw.1.2.2 κ k2 κ2 h) (fun q => ?_) e1 e2 e3)
  · funext b
    exact zu_ne _ _ (fun h2 => h h2.1)
  · by_cases hq : q = i.toNatClampNeg
    · subst hq
      rw [zu_self]
      simp [updV]
      rfl
    · rw [zu_ne _ _ (fun h2 => hq h2.2)]
      simp [updV, hq]
theorem z_aast (M : zM p s m c cc own nL base D cA) (hw : zH base D cA s H locs ad ty I L P) {e9 : Nat} (hty : ty κ = some (8 + e9, n)) (he9 : e9 < 7) {κ' : Nat} (hty' : ty κ' = some (ci, k)) (hci : ci < 8 ∧ zEl e9 = .object (zR ci)) {i : Int32} (hin : vp_in i n) (hdg : decode cc pc = .ok (.aastore, 1))
    (kk : ∀ (H : Heap) (locs : List Loc), zH base D cA s H locs ad ty I L (zu P κ i.toNatClampNeg (some κ')) → W p l e R s m args below meth c H locs cells slots Q (F0 m (pc + 1) ls rest)) : W p l e R s m args below meth c H locs cells slots Q (F0 m pc ls (.ref (ad κ') :: .int i :: .ref (ad κ) :: rest)) := by
  obtain ⟨hx, hb, -, hown, hE, hKn, -⟩ := M
  have hlt : i.toNatClampNeg < n := Nat.not_le.mp fun q => hin (Or.inr q)
  have h0 : ¬ i < 0 := fun q => hin (Or.inl q)
  obtain ⟨hci, hel⟩ := hci
  have hc := zAt.arr.mp (hw.1.1 κ _ hty).1
  obtain ⟨cellV, g1, g2, g3, -⟩ := (zAt.obj hci).mp (hw.1.1 κ' _ hty').1
  have hcls := (hKn.1 ci hci).2
  have hra := (hKn.2 e9 he9).2
  rw [hel] at hra
  obtain ⟨kA, comp, k1, k2, k3, -⟩ := hra
  have hcomp : comp = D.1.1 ci := Option.some.inj (k3.symm.trans hcls.1)
  subst hcomp
  obtain ⟨kC, hkC, -⟩ := hcls.2
  refine W.aast hx hb hc (fun q h => by cases h) (fun h => by cases h) k1 k2 rfl hkC ⟨h0, by rw [arrV_size]; exact hlt⟩ g1 (fun q h => by rw [g3] at h; cases h) (by rw [g2]; exact hkC) (by rw [g2]; exact va_assign hcls) rfl rfl hdg fun H1 e1 e2 e3 => ?_
  refine kk H1 _ (z_arrput (e9 := e9) hw hty (fun _ _ => rfl) (fun _ _ => rfl) (fun κ' h => ?_) (fun k2 κ2 h => ?_) (fun q => ?_) e1 e2 e3)
  · funext b
    exact zu_ne _ _ (fun h2 => h h2.1)
  · by_cases hk2 : k2 = i.toNatClampNeg
    · subst hk2
      rw [zu_self] at h
      cases h
      exact ⟨_, hty'⟩
    · rw [zu_ne _ _ (fun h2 => hk2 h2.2)] at h
      exact hw.1.2.2 κ k2 κ2 h
  · have hkd : zkd (zEl e9) = 2 := by rw [hel]; rfl
    by_cases hq : q = i.toNatClampNeg
    · subst hq
      rw [zu_self, zv_r hkd]
      simp [updV, va_rf]
    · rw [zu_ne _ _ (fun h2 => hq h2.2)]
      simp [updV, hq]
theorem z_new (M : zM p s m c cc own nL base D cA) (hw : zH base D cA s H locs ad ty I L P) (κ : Nat) (hfree : ty κ = none) (hci : ci < 8) (hcl : Cond.classLink own idx (zR ci) ∈ lw_tbl) (hins : Cond.instantiable (zR ci) (zN ci) ∈ lw_tbl) (hini : Cond.initialized (zR ci) ∈ lw_tbl) (hcells : cells + 1 ≤ R.cells) (hslots : slots + zN ci ≤ R.slots) (hdg : decode cc pc = .ok (.new idx, 3))
    (kk : ∀ (a : Nat) (H : Heap), zH base D cA s H locs (zs ad κ a) (zs ty κ (some (ci, 0))) (zs I κ (fun _ => 0)) (zs L κ (fun _ => 0)) (zs P κ (fun _ => none)) → W p l e R s m args below meth c H locs (cells + 1) (slots + zN ci) Q (F0 m (pc + 3) ls (.ref (zs ad κ a κ) :: rest))) : W p l e R s m args below meth c H locs cells slots Q (F0 m pc ls rest) := by
  obtain ⟨hx, hb, -, hown, hE, hKn, hX, hSt, hbs⟩ := M
  have hKc := hKn.1 ci hci
  refine W.newcK hx hb hown (hE.use hcl rfl) (hE.use hins rfl) (hE.use hini rfl) rfl hdg hcells hslots hKc.2.1 rfl fun H1 kC hkC e1 z1 o1 => ?_
  have hbH : base ≤ H.size := Nat.le_trans hbs hw.2.1
  have kk9 := kk H.size H1
  rw [zs_self] at kk9
  refine kk9 ⟨hw.1.make hfree (show ci < 15 by omega) hbH ((zAt.obj hci).mpr ?_) z1 o1, Nat.le_trans hw.2.1 (by omega), fun x h1 h2 => (o1 x (Nat.lt_of_lt_of_le h1 hw.2.1)).trans (hw.2.2.1 x h1 h2), hw.2.2.2⟩
  refine (u_born (args := args) (zTy ci) (hE.lays hci) (fun _ h => h) hKc hkC e1 (zTy_ok ci hci)).to fun k hk => ?_
  have hnf := zTy_nf ci hci k hk
  revert hnf
  cases zTy ci k <;> intro hnf <;> first | rfl | (exact absurd rfl hnf.1) | (exact absurd rfl hnf.2)
theorem z_newarr (M : zM p s m c cc own nL base D cA) (hw : zH base D cA s H locs ad ty I L P) (κ : Nat) (hfree : ty κ = none) {atype : ArrayType} {e9 N : Nat} (he9 : e9 < 3 ∧ newarray.typeOf atype = zEl e9) (harr : Cond.arrayClass (newarray.typeOf atype) ∈ lw_tbl) {i : Int32} (hn : ¬ i < 0) (hN : i.toNatClampNeg = N) (hbytes : N ≤ 1000) (hcells : cells + 1 ≤ R.cells) (hslots : slots + N ≤ R.slots) (hdg : decode cc pc = .ok (.newarray atype, 2))
    (kk : ∀ (a : Nat) (H : Heap), zH base D cA s H locs (zs ad κ a) (zs ty κ (some (8 + e9, N))) (zs I κ (fun _ => 0)) (zs L κ (fun _ => 0)) (zs P κ (fun _ => none)) → W p l e R s m args below meth c H locs (cells + 1) (slots + N) Q (F0 m (pc + 2) ls (.ref (zs ad κ a κ) :: rest))) : W p l e R s m args below meth c H locs cells slots Q (F0 m pc ls (.int i :: rest)) := by
  obtain ⟨hx, hb, -, hown, hE, hKn, hX, hSt, hbs⟩ := M
  obtain ⟨he3, het⟩ := he9
  have hbt : N * componentBytes (newarray.typeOf atype) ≤ 536870912 := by
    have : componentBytes (newarray.typeOf atype) ≤ 8 := by cases atype <;> decide
    have := Nat.mul_le_mul hbytes this
    omega
  refine va_newaK hx hb (hE.use harr rfl) rfl hdg rfl hn hN hbt hcells hslots rfl fun H1 cB e1 z1 o1 hAr hNm => ?_
  have hbH : base ≤ H.size := Nat.le_trans hbs hw.2.1
  have kk9 := kk H.size H1
  rw [zs_self] at kk9
  have hcB : cB = cA e9 := by
    have hra := (hKn.2 e9 (by omega)).2
    rw [← het] at hra
    have : s.vm.findClass ("[" ++ (newarray.typeOf atype).toString) = some (cA e9) := by
      revert hra
      cases atype <;> exact fun h => h
    exact Option.some.inj (hNm.symm.trans this)
  refine kk9 ⟨hw.1.make hfree (show 8 + e9 < 15 by omega) hbH (zAt.arr.mpr ?_) z1 o1, Nat.le_trans hw.2.1 (by omega), fun x h1 h2 => (o1 x (Nat.lt_of_lt_of_le h1 hw.2.1)).trans (hw.2.2.1 x h1 h2), hw.2.2.2⟩
  rw [e1, hcB, het]
  congr 2
  funext q
  match e9, he3 with
  | 0, _ => rfl
  | 1, _ => rfl
  | 2, _ => rfl
theorem z_anew (M : zM p s m c cc own nL base D cA) (hw : zH base D cA s H locs ad ty I L P) (κ : Nat) (hfree : ty κ = none) {e9 N : Nat} {C : String} (he9 : e9 < 7 ∧ zEl e9 = .object C) (hcl : Cond.classLink own idx C ∈ lw_tbl) (hover : Cond.arrayOver (.object C) ∈ lw_tbl ∧ zok (Cond.arrayOver (.object C)) = true) {i : Int32} (hn : ¬ i < 0) (hN : i.toNatClampNeg = N) (hbytes : N ≤ 1000) (hcells : cells + 1 ≤ R.cells) (hslots : slots + N ≤ R.slots) (hdg : decode cc pc = .ok (.anewarray idx, 3))
    (kk : ∀ (a : Nat) (H : Heap), zH base D cA s H locs (zs ad κ a) (zs ty κ (some (8 + e9, N))) (zs I κ (fun _ => 0)) (zs L κ (fun _ => 0)) (zs P κ (fun _ => none)) → W p l e R s m args below meth c H locs (cells + 1) (slots + N) Q (F0 m (pc + 3) ls (.ref (zs ad κ a κ) :: rest))) : W p l e R s m args below meth c H locs cells slots Q (F0 m pc ls (.int i :: rest)) := by
  obtain ⟨hx, hb, -, hown, hE, hKn, hX, hSt, hbs⟩ := M
  obtain ⟨he7, het⟩ := he9
  subst hN
  refine W.anew hx hb hown (hE.use hcl rfl) (hE.use hover.1 hover.2) rfl hdg rfl hn (by omega) hcells hslots fun cB kA comp f1 f2 f3 f4 => ?_
  have hbH : base ≤ H.size := Nat.le_trans hbs hw.2.1
  generalize hH1 : H.push ({ cls := cB, slots := Array.replicate i.toNatClampNeg .null, vm := .none } : Cell) = H1
  have z1 : H1.size = H.size + 1 := by rw [← hH1, Array.size_push]
  have e1 : H1[H.size]? = some (arrV cB i.toNatClampNeg (fun _ => .null)) := by rw [← hH1, Array.getElem?_push_size, ← arrV_new]
  have o1 : ∀ q : Nat, q < H.size → H1[q]? = H[q]? := fun q hq => by rw [← hH1, Array.getElem?_push, if_neg (Nat.ne_of_lt hq)]
  have kk9 := kk H.size H1
  rw [zs_self] at kk9
  have hcB : cB = cA e9 := by
    have hra := (hKn.2 e9 he7).2
    rw [het] at hra
    obtain ⟨_, _, _, _, _, h4⟩ := hra
    exact Option.some.inj (f1.symm.trans h4)
  refine kk9 ⟨hw.1.make hfree (show 8 + e9 < 15 by omega) hbH (zAt.arr.mpr ?_) z1 o1, Nat.le_trans hw.2.1 (by omega), fun x h1 h2 => (o1 x (Nat.lt_of_lt_of_le h1 hw.2.1)).trans (hw.2.2.1 x h1 h2), hw.2.2.2⟩
  rw [e1, hcB, het]
  rfl
end ZA
/-! the same by a number for the index -/
section ZAN
variable {p : Program} {l : Launch} {e : Env} {R : Room} {s : State} {m : MethodId} {args : Array Value} {below : List Frame} {meth : Method} {c : Code} {H : Heap} {locs : List Loc} {cells slots : Nat} {Q : State → Prop}
variable {cc : ByteArray} {own : String} {nL base : Nat} {D : zDD} {cA : Nat → ClassId} {ad : Nat → Nat} {ty : zTyp} {I : zIt} {L : zLt} {P : zPt}
variable {pc : Nat} {ls : Array Slot} {rest : List Value} {κ ci n k idx : Nat}
theorem z_ix {i : Int32} {k n : Nat} (hi : i = nI k) (hk : k < n ∧ n ≤ 4000) : vp_in i n ∧ i.toNatClampNeg = k := by
  subst hi
  exact ⟨vp_in_nI hk.1 (by omega), nI_clamp (by omega)⟩
theorem z_iNald (M : zM p s m c cc own nL base D cA) (hw : zH base D cA s H locs ad ty I L P) (hty : ty κ = some (8, n)) {i : Int32} (hi : i = nI k) (hk : k < n ∧ n ≤ 4000) (hdg : decode cc pc = .ok (.iaload, 1))
    (kk : W p l e R s m args below meth c H locs cells slots Q (F0 m (pc + 1) ls (.int (I κ k) :: rest))) : W p l e R s m args below meth c H locs cells slots Q (F0 m pc ls (.int i :: .ref (ad κ) :: rest)) :=
  z_iald M hw hty (z_ix hi hk).1 hdg (by rw [(z_ix hi hk).2]; exact kk)
theorem z_lNald (M : zM p s m c cc own nL base D cA) (hw : zH base D cA s H locs ad ty I L P) (hty : ty κ = some (9, n)) {i : Int32} (hi : i = nI k) (hk : k < n ∧ n ≤ 4000) (hdg : decode cc pc = .ok (.laload, 1))
    (kk : W p l e R s m args below meth c H locs cells slots Q (F0 m (pc + 1) ls (.long (L κ k) :: rest))) : W p l e R s m args below meth c H locs cells slots Q (F0 m pc ls (.int i :: .ref (ad κ) :: rest)) :=
  z_lald M hw hty (z_ix hi hk).1 hdg (by rw [(z_ix hi hk).2]; exact kk)
theorem z_aNald (M : zM p s m c cc own nL base D cA) (hw : zH base D cA s H locs ad ty I L P) {e9 : Nat} (hty : ty κ = some (8 + e9, n)) (he9 : e9 < 7 ∧ zkd (zEl e9) = 2) {i : Int32} (hi : i = nI k) (hk : k < n ∧ n ≤ 4000) {κ' : Nat} (hp : P κ k = some κ') (hdg : decode cc pc = .ok (.aaload, 1))
    (kk : W p l e R s m args below meth c H locs cells slots Q (F0 m (pc + 1) ls (.ref (ad κ') :: rest))) : W p l e R s m args below meth c H locs cells slots Q (F0 m pc ls (.int i :: .ref (ad κ) :: rest)) :=
  z_aald M hw hty he9 (z_ix hi hk).1 (by rw [(z_ix hi hk).2]; exact hp) hdg kk
theorem z_iNast (M : zM p s m c cc own nL base D cA) (hw : zH base D cA s H locs ad ty I L P) (hty : ty κ = some (8, n)) {i x : Int32} (hi : i = nI k) (hk : k < n ∧ n ≤ 4000) (hdg : decode cc pc = .ok (.iastore, 1))
    (kk : ∀ (H : Heap) (locs : List Loc), zH base D cA s H locs ad ty (zu I κ k x) L P → W p l e R s m args below meth c H locs cells slots Q (F0 m (pc + 1) ls rest)) : W p l e R s m args below meth c H locs cells slots Q (F0 m pc ls (.int x :: .int i :: .ref (ad κ) :: rest)) :=
  z_iast M hw hty (z_ix hi hk).1 hdg (by rw [(z_ix hi hk).2]; exact kk)
theorem z_lNast (M : zM p s m c cc own nL base D cA) (hw : zH base D cA s H locs ad ty I L P) (hty : ty κ = some (9, n)) {i : Int32} {x : Int64} (hi : i = nI k) (hk : k < n ∧ n ≤ 4000) (hdg : decode cc pc = .ok (.lastore, 1))
    (kk : ∀ (H : Heap) (locs : List Loc), zH base D cA s H locs ad ty I (zu L κ k x) P → W p l e R s m args below meth c H locs cells slots Q (F0 m (pc + 1) ls rest)) : W p l e R s m args below meth c H locs cells slots Q (F0 m pc ls (.long x :: .int i :: .ref (ad κ) :: rest)) :=
  z_last M hw hty (z_ix hi hk).1 hdg (by rw [(z_ix hi hk).2]; exact kk)
theorem z_aNast (M : zM p s m c cc own nL base D cA) (hw : zH base D cA s H locs ad ty I L P) {e9 : Nat} (hty : ty κ = some (8 + e9, n)) (he9 : e9 < 7) {κ' n' : Nat} (hty' : ty κ' = some (ci, n')) (hci : ci < 8 ∧ zEl e9 = .object (zR ci)) {i : Int32} (hi : i = nI k) (hk : k < n ∧ n ≤ 4000) (hdg : decode cc pc = .ok (.aastore, 1))
    (kk : ∀ (H : Heap) (locs : List Loc), zH base D cA s H locs ad ty I L (zu P κ k (some κ')) → W p l e R s m args below meth c H locs cells slots Q (F0 m (pc + 1) ls rest)) : W p l e R s m args below meth c H locs cells slots Q (F0 m pc ls (.ref (ad κ') :: .int i :: .ref (ad κ) :: rest)) :=
  z_aast M hw hty he9 hty' hci (z_ix hi hk).1 hdg (by rw [(z_ix hi hk).2]; exact kk)
end ZAN
