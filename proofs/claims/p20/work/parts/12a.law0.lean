/-! THE LAW'S HELPERS: static methods with tables of exceptions -/
def zct (oc : Nat) : Nat := match oc with
  | 1 => 24 | 2 => 14 | _ => 18
def zoc3 (oc : Nat) : Prop := oc = 1 ∨ oc = 2 ∨ oc = 3
theorem zlk {oc : Nat} (h : zoc3 oc) : Cond.classLink RL (zct oc) (zEn oc) ∈ lw_tbl ∧ Cond.castable (zEn oc) (zEn oc) ∈ lw_tbl := by
  rcases h with rfl | rfl | rfl
  · exact ⟨tb 216 (by decide +kernel), tb 226 (by decide +kernel)⟩
  · exact ⟨tb 102 (by decide +kernel), tb 113 (by decide +kernel)⟩
  · exact ⟨tb 103 (by decide +kernel), tb 184 (by decide +kernel)⟩
/-- the three kinds of exceptions are apart -/
def zNcs (U : State) : Prop := ∀ a b : Nat, zoc3 a → zoc3 b → a ≠ b → va_Nc (zEn a) (zEn b) U
theorem zNcs.moved {u U : State} (hvm : u.vm.Alike U.vm) (h : zNcs u) : zNcs U := fun a b h1 h2 h3 => (h a b h1 h2 h3).moved hvm
def zPh (base : Nat) (D : zDD) (cA : Nat → ClassId) (av : List Value) (W0 : Heap → Prop) : Array Value → State → Prop := va_Pc av (fun U => (zG base D cA U ∧ zNcs U) ∧ W0 U.heap)
theorem zPh.blind {base : Nat} {D : zDD} {cA : Nat → ClassId} {av : List Value} {W0 : Heap → Prop} : FrameBlind (zPh base D cA av W0) := fun a _ g mk h => ⟨h.1, ⟨h.2.1.1.calling a g mk, h.2.1.2.moved (State.WarmedH.refl _).alike⟩, h.2.2⟩
abbrev zMh (l : Launch) (base : Nat) (D : zDD) (cA : Nat → ClassId) (y : MethodName) (bytes : ByteArray) (maxL : Nat) (hh : List (Nat × Nat × Nat × Nat)) (fr lo mc ms : Nat) (av : List Value) (W0 : Heap → Prop) (r : Int64) (W1 : Heap → Prop) : Prop :=
  Met l y [Cond.codeWith y bytes maxL (some .long) hh] (zRm fr lo mc ms) (zPh base D cA av W0) (zQl base r W1) mc ms (fun q => base ≤ q)
theorem z_ofWH {l : Launch} {y : MethodName} {ws ws' : List Cond} {rm : Room} {Pc : Array Value → State → Prop} {Qc : Array Value → State → Outcome → State → Prop} {mc ms : Nat} {free : Addr → Prop} {cc : ByteArray} {maxL : Nat} {ret : Option FieldType} {hh : List (Nat × Nat × Nat × Nat)}
    (hy : plainName y.cls = true) (hw : ws = Cond.codeWith y cc maxL ret hh :: ws')
    (body : ∀ p e s m args below meth c s₁, BodyLoose p l y (headSpec ws rm) cc maxL ret e s m args below meth c s₁ → c.maxLocals = maxL → Pc args s →
      W p l e (headSpec ws rm).room s m args below meth c s.heap [] 0 0 (MQ below Qc args s mc ms free) (entryFrame m args maxL)) : Met l y ws rm Pc Qc mc ms free := by
  refine MetFree.of_bodyS (code := cc) (maxLocals := maxL) (ret := ret) hy ?_ ?_
  · intro args s m h hn
    obtain ⟨m9, meth, c, hn9, h1, h2, h3, h4, -, h5, h6, -⟩ := Cond.codeWith_spec (atoms_spec (ws := ws) h _ (by rw [hw]; exact List.mem_cons_self))
    cases hn.symm.trans hn9
    exact ⟨meth, c, h1, h2, h3, h4, h5, h6⟩
  · intro p e s m args below meth c s₁ B hml hP _
    have hh0 : s₁.heap = s.heap := by rw [B.state]; rfl
    obtain ⟨t, a1, o, b1, b2, b3⟩ := body p e s m args below meth c s₁ B hml hP s₁ hh0 (Stand.of_body B)
    exact ⟨t, o, a1, b1, b2, b3⟩
/-- the head of a helper -/
theorem z_hstart {l : Launch} {base maxL fr lo mc ms : Nat} {D : zDD} {cA : Nat → ClassId} {y : MethodName} {cc : ByteArray} {hh : List (Nat × Nat × Nat × Nat)} {av : List Value} {W0 : Heap → Prop} {Qc : Array Value → State → Outcome → State → Prop} {free : Addr → Prop}
    (hy : plainName y.cls = true) (hav : (lg_sl av).length ≤ maxL)
    (body : ∀ (p : Program) (e : Env) (s : State) (m : MethodId) (below : List Frame) (meth : Method) (c : Code) (ls : Array Slot), zM p s m c cc y.cls maxL base D cA → W0 s.heap → va_S (fun q => base ≤ q) s.heap s.heap [] → lv_has ls maxL (lv_args 0 av) → meth.sig.returnType = some .long → meth.locks = false → zNcs s → c.exceptionTable.toList = tableOf hh →
      W p l e (zRm fr lo mc ms) s m av.toArray below meth c s.heap [] 0 0 (MQ below Qc av.toArray s mc ms free) (F0 m 0 ls [])) : Met l y [Cond.codeWith y cc maxL (some .long) hh] (zRm fr lo mc ms) (zPh base D cA av W0) Qc mc ms free := by
  refine z_ofWH (cc := cc) (maxL := maxL) (ret := some .long) (hh := hh) hy rfl ?_
  intro p e s m args below meth c s₁ B hml hv
  obtain ⟨rfl, ⟨hG, hN⟩, hP⟩ := hv
  have hcw := atoms_spec (ws := [Cond.codeWith y cc maxL (some .long) hh]) B.pre _ List.mem_cons_self
  have hl := lv_entry av (n := maxL) hav
  rw [lg_entry_eq]
  generalize (lg_sl av ++ List.replicate (maxL - (lg_sl av).length) Slot.unset).toArray = ls at hl ⊢
  exact body p e s m below meth c ls ⟨B.exec, B.bytes, hml, findClass_of_methodNamed B.named, hG⟩ hP va_S.rf hl B.returns B.notSynchronized hN (vx_table (x := y) B hcw)
section ZH
variable {p : Program} {l : Launch} {e : Env} {R : Room} {s : State} {m : MethodId} {args : Array Value} {below : List Frame} {meth : Method} {c : Code} {H : Heap} {locs : List Loc} {cells slots : Nat} {Q : State → Prop}
variable {cc bytes : ByteArray} {nL maxL base fr lo mc ms nA : Nat} {D : zDD} {cA : Nat → ClassId}
variable {pc : Nat} {ls : Array Slot} {rest st0 As : List Value} {idx : Nat} {y : MethodName} {W0 W1 : Heap → Prop} {Qc : Array Value → State → Outcome → State → Prop} {free : Addr → Prop} {hh : List (Nat × Nat × Nat × Nat)}
theorem z_catch (M : zM p s m c cc RL nL base D cA) (hN : zNcs s) (htab : c.exceptionTable.toList = tableOf hh) {oc oc' : Nat} (he : oc = oc') (hoc : zoc3 oc') (pre : List ExceptionTableEntry) (x : ExceptionTableEntry) (suf : List ExceptionTableEntry) (hsplit : tableOf hh = pre ++ x :: suf)
    (hpre : ∀ z ∈ pre, z.catchType ≠ 0 ∧ ∃ o, zoc3 o ∧ o ≠ oc' ∧ z.catchType = zct o) (hx : covers x pc = true) (hct : x.catchType = zct oc') {ce : Cell} {q : Addr} (hq : H[q]? = some ce) (hv : ce.vm = .none) (hcl : s.vm.findClass (zEn oc) = some ce.cls)
    (kk : W p l e R s m args below meth c H locs cells slots Q (F0 m x.handlerPc ls [.ref q])) : vx_W p l e R s m args below meth c H locs cells slots Q (F0 m pc ls rest) q := by
  subst he
  obtain ⟨-, -, -, hown, hE, -⟩ := M
  have hk := zlk hoc
  refine vx_catch hown pre x suf (htab.trans hsplit) (fun z hz => Or.inr ?_) hx ?_ (hct ▸ hE.use hk.1 rfl) (hE.use hk.2 rfl) hq hv hcl kk
  · obtain ⟨h0, o, h1, h2, h3⟩ := hpre z hz
    exact ⟨h0, zEn o, h3 ▸ hE.use (zlk h1).1 rfl, hN _ _ hoc h1 (Ne.symm h2)⟩
  · rw [hct]
    rcases hoc with rfl | rfl | rfl <;> decide
/-- a call of a helper -/
def zCH (idx : Nat) (y : MethodName) (bytes : ByteArray) (maxL : Nat) (hh : List (Nat × Nat × Nat × Nat)) (n : Nat) : Prop :=
  Cond.methodLink RL idx y ∈ lw_tbl ∧ Cond.initialized y.cls ∈ lw_tbl ∧ (Cond.codeWith y bytes maxL (some .long) hh ∈ lw_tbl ∧ zok (Cond.codeWith y bytes maxL (some .long) hh) = true) ∧ (y.cls ≠ "java/lang/invoke/MethodHandle" ∧ y.cls ≠ "java/lang/invoke/VarHandle") ∧ (parseMethodDescriptor y.desc).map (fun d => d.parameters.length) = some n ∧ Cond.static y ∈ lw_tbl
theorem z_runH (M : zM p s m c cc RL nL base D cA) (hN : zNcs s) (hS : va_S (fun q => base ≤ q) s.heap H locs) (hC : zCH idx y bytes maxL hh nA) (hM : Met l y [Cond.codeWith y bytes maxL (some .long) hh] (zRm fr lo mc ms) (zPh base D cA As W0) Qc mc ms free) (hW0 : W0 H)
    (hst : st0 = As.reverse ++ rest) (hn : As.length = nA) (hR : fr + 1 ≤ R.frames ∧ 8 + (maxL + 11) + lo ≤ R.locals) (hf : cells + mc ≤ R.cells ∧ slots + ms ≤ R.slots) (hsize : ls.size = nL) (hr8 : (rest.map fun v => v.category).sum ≤ 8) (hdg : decode cc pc = .ok (.invokestatic idx, 3)) :
    va_Run p l e R s m args below meth c H locs cells slots mc ms (F0 m pc ls st0) rest (Qc As.toArray) free := by
  obtain ⟨hl, hin, ⟨hcode, hzc⟩, hd1, hd2, hstt⟩ := hC
  have hb : PreS s H (zPh base D cA As W0) As := ⟨zPh.blind, fun U hU hW => ⟨rfl, ⟨M.2.2.2.2.go hS hU hW, hN.moved hW.alike⟩, by rw [hU]; exact hW0⟩⟩
  obtain ⟨hx, hbc, hml, hown, hE, hKn, -⟩ := M
  have hW8 : 2 * (F0 m pc ls st0).monitorRoom + (rest.map fun v => v.category).sum ≤ 8 := by rw [z_mon]; exact hr8
  refine vx_runSW (Ts := []) ⟨hx, hbc, hml, hown, fun _ h => nomatch h⟩ hM ⟨⟨rfl, rfl, hR.1, hR.2, ?_, List.mem_cons_self⟩, hE.use hcode hzc, hE.use hin rfl, hd1, fun sig h => ?_, hE.use hl rfl, hE.use hstt rfl⟩ hb rfl hn hsize hst hW8 hdg hf
  · intro w hw a' U hW
    rw [List.mem_singleton.mp hw]
    exact zok_at (A := #[]) hW hzc (hE _ hcode hzc)
  · rw [h] at hd2
    exact (Option.some.inj hd2).symm
end ZH

/-! the law's own methods that call its helpers -/
abbrev zNl (l : Launch) (base : Nat) (D : zDD) (cA : Nat → ClassId) (y : MethodName) (bytes : ByteArray) (maxL fr lo mc ms : Nat) (av : List Value) (W0 : Heap → Prop) (r : Int64) (W1 : Heap → Prop) : Prop :=
  Met l y [Cond.code y bytes maxL (some .long)] (zRm fr lo mc ms) (zPh base D cA av W0) (zQl base r W1) mc ms (fun q => base ≤ q)
abbrev zNz (l : Launch) (base : Nat) (D : zDD) (cA : Nat → ClassId) (y : MethodName) (bytes : ByteArray) (maxL fr lo mc ms : Nat) (av : List Value) (W0 : Heap → Prop) (r : Int32) (W1 : Heap → Prop) : Prop :=
  Met l y [Cond.code y bytes maxL (some .boolean)] (zRm fr lo mc ms) (zPh base D cA av W0) (zQi base r W1) mc ms (fun q => base ≤ q)
theorem z_nstart {l : Launch} {base maxL fr lo mc ms : Nat} {D : zDD} {cA : Nat → ClassId} {y : MethodName} {cc : ByteArray} {ret : Option FieldType} {av : List Value} {W0 : Heap → Prop} {Qc : Array Value → State → Outcome → State → Prop} {free : Addr → Prop} (hy : plainName y.cls = true) (hav : (lg_sl av).length ≤ maxL)
    (body : ∀ (p : Program) (e : Env) (s : State) (m : MethodId) (below : List Frame) (meth : Method) (c : Code) (ls : Array Slot), zM p s m c cc y.cls maxL base D cA → W0 s.heap → va_S (fun q => base ≤ q) s.heap s.heap [] → lv_has ls maxL (lv_args 0 av) → meth.sig.returnType = ret → meth.locks = false → zNcs s →
      W p l e (zRm fr lo mc ms) s m av.toArray below meth c s.heap [] 0 0 (MQ below Qc av.toArray s mc ms free) (F0 m 0 ls [])) : Met l y [Cond.code y cc maxL ret] (zRm fr lo mc ms) (zPh base D cA av W0) Qc mc ms free := by
  refine Met.ofW (cc := cc) (maxL := maxL) (ret := ret) hy rfl ?_
  intro p e s m args below meth c s₁ B hml hv
  obtain ⟨rfl, ⟨hG, hN⟩, hP⟩ := hv
  have hl := lv_entry av (n := maxL) hav
  rw [lg_entry_eq]
  generalize (lg_sl av ++ List.replicate (maxL - (lg_sl av).length) Slot.unset).toArray = ls at hl ⊢
  exact body p e s m below meth c ls ⟨B.exec, B.bytes, hml, findClass_of_methodNamed B.named, hG⟩ hP va_S.rf hl B.returns B.notSynchronized hN
section ZNN
variable {p : Program} {l : Launch} {e : Env} {R : Room} {s : State} {m : MethodId} {args : Array Value} {below : List Frame} {meth : Method} {c : Code} {H : Heap} {locs : List Loc} {cells slots : Nat} {Q : State → Prop}
variable {cc bytes : ByteArray} {nL maxL base fr lo mc ms nA : Nat} {D : zDD} {cA : Nat → ClassId}
variable {pc : Nat} {ls : Array Slot} {rest st0 As : List Value} {idx : Nat} {y : MethodName} {ret : Option FieldType} {W0 W1 : Heap → Prop} {Qc : Array Value → State → Outcome → State → Prop} {free : Addr → Prop}
theorem z_runN (M : zM p s m c cc RL nL base D cA) (hN : zNcs s) (hS : va_S (fun q => base ≤ q) s.heap H locs) (hC : zCS RL idx y bytes maxL ret nA) (hM : Met l y [Cond.code y bytes maxL ret] (zRm fr lo mc ms) (zPh base D cA As W0) Qc mc ms free) (hW0 : W0 H)
    (hst : st0 = As.reverse ++ rest) (hn : As.length = nA) (hR : fr + 1 ≤ R.frames ∧ 8 + (maxL + 11) + lo ≤ R.locals) (hf : cells + mc ≤ R.cells ∧ slots + ms ≤ R.slots) (hsize : ls.size = nL) (hr8 : (rest.map fun v => v.category).sum ≤ 8) (hdg : decode cc pc = .ok (.invokestatic idx, 3)) :
    va_Run p l e R s m args below meth c H locs cells slots mc ms (F0 m pc ls st0) rest (Qc As.toArray) free := by
  obtain ⟨hC, hstt⟩ := hC
  have hb : PreS s H (zPh base D cA As W0) As := ⟨zPh.blind, fun U hU hW => ⟨rfl, ⟨M.2.2.2.2.go hS hU hW, hN.moved hW.alike⟩, by rw [hU]; exact hW0⟩⟩
  obtain ⟨hx, hbc, hml, hown, hE, hKn, -⟩ := M
  have hW8 : 2 * (F0 m pc ls st0).monitorRoom + (rest.map fun v => v.category).sum ≤ 8 := by rw [z_mon]; exact hr8
  rcases id hC.1 with hl | ⟨host, hl⟩
  · exact va_runS (Ts := []) ⟨hx, hbc, hml, hown, fun _ h => nomatch h⟩ hM ⟨z_CallB hE hC hR (hE.use hl rfl), hE.use hstt rfl⟩ hb rfl hn hsize hst hW8 hdg hf
  · exact va_runSN (Ts := []) ⟨hx, hbc, hml, hown, fun _ h => nomatch h⟩ hM ⟨z_CN hE hC hR (hE.use hl rfl), hE.use hstt rfl, trivial⟩ hb rfl hn hsize hst hW8 hdg hf
end ZNN
def zlow (v n : Int32) : Int32 := (v &&& 2147483647) - (v &&& 2147483647) / n * n
set_option maxHeartbeats 4000000 in
theorem c_L_low (l : Launch) (base : Nat) (D : zDD) (cA : Nat → ClassId) (W0 : Heap → Prop) (v n : Int32) (hn : ¬ n = 0) : zMi l base D cA yL_low cL_low 2 .int 0 0 0 0 [.int v, .int n] W0 (zlow v n) W0 := by
  refine z_start (by decide +kernel) (Nat.le_of_ble_eq_true rfl) fun p e s m below meth c ls M hP hS hl hr hlocks hnm => ?_
  have M : zM p s m c cL_low RL 2 base D cA := M
  obtain ⟨hx, hb, -⟩ := id M
  have hl : lv_has ls 2 [(0, .int v), (1, .int n)] := hl
  refine lv_iload_n hx hb dL_low_0 rfl (lv_at hl 0 rfl) ?_
  refine lv_ldc (v := 2147483647) hx hb M.2.2.2.1 (M.2.2.2.2.1.use (tb 98 (by decide +kernel)) rfl) dL_low_1 ?_
  refine lv_iand hx hb dL_low_3 ?_
  refine lv_iload_n hx hb dL_low_4 rfl (lv_at hl 1 rfl) ?_
  refine lv_irem hx hb dL_low_5 hn ?_
  exact z_iret hx hb hr rfl rfl hS hP (Nat.le_of_ble_eq_true rfl) (Nat.le_of_ble_eq_true rfl) dL_low_6 hlocks
