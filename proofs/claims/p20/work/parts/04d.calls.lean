/-! CONTRACTS and CALLS over the keyed world. A contract: the arguments, the world before (W0), the answer r, the world behind (W1);
what lies below 'base' is never touched. A method that may throw: the place oc of its exception (0: none; then r and W1), the world as it was. -/
def zPc (base : Nat) (D : zDD) (cA : Nat → ClassId) (av : List Value) (W0 : Heap → Prop) : Array Value → State → Prop := va_Pc av (fun U => zG base D cA U ∧ W0 U.heap)
theorem zPc.blind {base : Nat} {D : zDD} {cA : Nat → ClassId} {av : List Value} {W0 : Heap → Prop} : FrameBlind (zPc base D cA av W0) := fun a _ g mk h => ⟨h.1, h.2.1.calling a g mk, h.2.2⟩
def zQi (base : Nat) (r : Int32) (W1 : Heap → Prop) : Array Value → State → Outcome → State → Prop := va_Qi (S := Unit) (fun v _ => v = r) (fun _ t => W1 t.heap) (fun q => base ≤ q)
def zQl (base : Nat) (r : Int64) (W1 : Heap → Prop) : Array Value → State → Outcome → State → Prop := va_Ql (S := Unit) (fun v _ => v = r) (fun _ t => W1 t.heap) (fun q => base ≤ q)
def zQv (base : Nat) (W1 : Heap → Prop) : Array Value → State → Outcome → State → Prop := va_Qv (S := Unit) (fun _ => True) (fun _ t => W1 t.heap) (fun q => base ≤ q)
def zXQi (base oc : Nat) (r : Int32) (W1 : Heap → Prop) : Array Value → State → Outcome → State → Prop := va_Qi (S := Unit) (fun v _ => v = r ∧ oc = 0) (fun _ t => W1 t.heap) (fun q => base ≤ q)
def zXQl (base oc : Nat) (r : Int64) (W1 : Heap → Prop) : Array Value → State → Outcome → State → Prop := va_Ql (S := Unit) (fun v _ => v = r ∧ oc = 0) (fun _ t => W1 t.heap) (fun q => base ≤ q)
def zXQv (base oc : Nat) (W1 : Heap → Prop) : Array Value → State → Outcome → State → Prop := va_Qv (S := Unit) (fun _ => oc = 0) (fun _ t => W1 t.heap) (fun q => base ≤ q)
def zEn (oc : Nat) : String := match oc with
  | 1 => "java/lang/IndexOutOfBoundsException" | 2 => "java/lang/IllegalArgumentException" | _ => "java/lang/IllegalStateException"
def zXC (base oc : Nat) (W0 : Heap → Prop) : String → State → State → Prop := vx_X (S := Unit) (fun _ => oc ≠ 0) (fun E _ t => E = zEn oc ∧ W0 t.heap) (fun q => base ≤ q)
abbrev zRm (fr lo mc ms : Nat) : Room := { frames := fr, cells := mc, slots := ms, locals := lo }
abbrev zMi (l : Launch) (base : Nat) (D : zDD) (cA : Nat → ClassId) (y : MethodName) (bytes : ByteArray) (maxL : Nat) (rt : FieldType) (fr lo mc ms : Nat) (av : List Value) (W0 : Heap → Prop) (r : Int32) (W1 : Heap → Prop) : Prop :=
  Met l y [Cond.code y bytes maxL (some rt)] (zRm fr lo mc ms) (zPc base D cA av W0) (zQi base r W1) mc ms (fun q => base ≤ q)
abbrev zMl (l : Launch) (base : Nat) (D : zDD) (cA : Nat → ClassId) (y : MethodName) (bytes : ByteArray) (maxL : Nat) (fr lo mc ms : Nat) (av : List Value) (W0 : Heap → Prop) (r : Int64) (W1 : Heap → Prop) : Prop :=
  Met l y [Cond.code y bytes maxL (some .long)] (zRm fr lo mc ms) (zPc base D cA av W0) (zQl base r W1) mc ms (fun q => base ≤ q)
abbrev zMv (l : Launch) (base : Nat) (D : zDD) (cA : Nat → ClassId) (y : MethodName) (bytes : ByteArray) (maxL : Nat) (fr lo mc ms : Nat) (av : List Value) (W0 : Heap → Prop) (W1 : Heap → Prop) : Prop :=
  Met l y [Cond.code y bytes maxL none] (zRm fr lo mc ms) (zPc base D cA av W0) (zQv base W1) mc ms (fun q => base ≤ q)
abbrev zXi (l : Launch) (base : Nat) (D : zDD) (cA : Nat → ClassId) (y : MethodName) (bytes : ByteArray) (maxL : Nat) (rt : FieldType) (fr lo mc ms : Nat) (av : List Value) (W0 : Heap → Prop) (oc : Nat) (r : Int32) (W1 : Heap → Prop) : Prop :=
  vx_Met l y [Cond.code y bytes maxL (some rt)] (zRm fr lo mc ms) (zPc base D cA av W0) (zXQi base oc r W1) (zXC base oc W0) mc ms (fun q => base ≤ q)
abbrev zXl (l : Launch) (base : Nat) (D : zDD) (cA : Nat → ClassId) (y : MethodName) (bytes : ByteArray) (maxL : Nat) (fr lo mc ms : Nat) (av : List Value) (W0 : Heap → Prop) (oc : Nat) (r : Int64) (W1 : Heap → Prop) : Prop :=
  vx_Met l y [Cond.code y bytes maxL (some .long)] (zRm fr lo mc ms) (zPc base D cA av W0) (zXQl base oc r W1) (zXC base oc W0) mc ms (fun q => base ≤ q)
abbrev zXv (l : Launch) (base : Nat) (D : zDD) (cA : Nat → ClassId) (y : MethodName) (bytes : ByteArray) (maxL : Nat) (fr lo mc ms : Nat) (av : List Value) (W0 : Heap → Prop) (oc : Nat) (W1 : Heap → Prop) : Prop :=
  vx_Met l y [Cond.code y bytes maxL none] (zRm fr lo mc ms) (zPc base D cA av W0) (zXQv base oc W1) (zXC base oc W0) mc ms (fun q => base ≤ q)
/-- a call's words -/
def zC (own : String) (idx : Nat) (y : MethodName) (bytes : ByteArray) (maxL : Nat) (ret : Option FieldType) (n : Nat) : Prop :=
  (Cond.methodLink own idx y ∈ lw_tbl ∨ ∃ host, Cond.methodLinkNest own idx y host ∈ lw_tbl) ∧ Cond.initialized y.cls ∈ lw_tbl ∧ Cond.code y bytes maxL ret ∈ lw_tbl ∧ (y.cls ≠ "java/lang/invoke/MethodHandle" ∧ y.cls ≠ "java/lang/invoke/VarHandle") ∧ (parseMethodDescriptor y.desc).map (fun d => d.parameters.length) = some n
def zCV (own : String) (idx : Nat) (y : MethodName) (bytes : ByteArray) (maxL : Nat) (ret : Option FieldType) (n ci : Nat) : Prop :=
  zC own idx y bytes maxL ret n ∧ Cond.instanceMethod y ∈ lw_tbl ∧ Cond.selects y.cls y y ∈ lw_tbl ∧ ci < 8 ∧ y.cls = zR ci
def zCS (own : String) (idx : Nat) (y : MethodName) (bytes : ByteArray) (maxL : Nat) (ret : Option FieldType) (n : Nat) : Prop :=
  zC own idx y bytes maxL ret n ∧ Cond.static y ∈ lw_tbl
def zCI (own : String) (idx : Nat) (y : MethodName) (bytes : ByteArray) (maxL n : Nat) : Prop :=
  zC own idx y bytes maxL none n ∧ Cond.instanceMethod y ∈ lw_tbl ∧ y.name = "<init>"
section ZC
variable {p : Program} {l : Launch} {e : Env} {R : Room} {s : State} {m : MethodId} {args : Array Value} {below : List Frame} {meth : Method} {c : Code} {H : Heap} {locs : List Loc} {cells slots : Nat} {Q : State → Prop}
variable {cc bytes : ByteArray} {own : String} {nL maxL base fr lo mc ms nA : Nat} {D : zDD} {cA : Nat → ClassId} {ad : Nat → Nat} {ty : zTyp} {I : zIt} {L : zLt} {P : zPt}
variable {pc : Nat} {ls : Array Slot} {rest st0 As : List Value} {κ ci n k idx : Nat} {y : MethodName} {ret : Option FieldType} {W0 W1 : Heap → Prop} {Qc : Array Value → State → Outcome → State → Prop} {XC : String → State → State → Prop} {free : Addr → Prop}
theorem z_CallB (hE : zEnv s) (hC : zC own idx y bytes maxL ret nA) (hR : fr + 1 ≤ R.frames ∧ 8 + (maxL + 11) + lo ≤ R.locals) (hl : (Cond.methodLink own idx y).before args s = true) : CallB R s args own idx y bytes maxL ret [Cond.code y bytes maxL ret] (zRm fr lo mc ms) mc ms nA := by
  obtain ⟨-, hini, hcode, hd1, hd2⟩ := hC
  refine ⟨rfl, rfl, hR.1, hR.2, ?_, List.mem_cons_self, hE.use hcode rfl, hE.use hini rfl, hd1, fun sig h => ?_, hl⟩
  · intro w hw a' U hW
    rw [List.mem_singleton.mp hw]
    exact zok_at (A := #[]) hW rfl (hE _ hcode rfl)
  · rw [h] at hd2
    exact (Option.some.inj hd2).symm
theorem z_CN (hE : zEnv s) (hC : zC own idx y bytes maxL ret nA) (hR : fr + 1 ≤ R.frames ∧ 8 + (maxL + 11) + lo ≤ R.locals) {host : String} (hl : (Cond.methodLinkNest own idx y host).before args s = true) : va_CN R s args own idx y host bytes maxL ret [Cond.code y bytes maxL ret] (zRm fr lo mc ms) mc ms nA := by
  obtain ⟨-, hini, hcode, hd1, hd2⟩ := hC
  refine ⟨⟨rfl, rfl, hR.1, hR.2, ?_, List.mem_cons_self⟩, hE.use hcode rfl, hE.use hini rfl, hd1, fun sig h => ?_, hl⟩
  · intro w hw a' U hW
    rw [List.mem_singleton.mp hw]
    exact zok_at (A := #[]) hW rfl (hE _ hcode rfl)
  · rw [h] at hd2
    exact (Option.some.inj hd2).symm
theorem z_mon : 2 * (F0 m pc ls st0).monitorRoom + (rest.map fun v => v.category).sum = (rest.map fun v => v.category).sum := by
  show 2 * 0 + _ = _
  omega
theorem z_preS (M : zM p s m c cc own nL base D cA) (hS : va_S (fun q => base ≤ q) s.heap H locs) (hW0 : W0 H) {av : List Value} : PreS s H (zPc base D cA av W0) av :=
  ⟨zPc.blind, fun U hU hW => ⟨rfl, M.2.2.2.2.go hS hU hW, by rw [hU]; exact hW0⟩⟩
theorem z_recv (M : zM p s m c cc own nL base D cA) (hw : zH base D cA s H locs ad ty I L P) (hty : ty κ = some (ci, n)) (h8 : ci < 8) : ∃ cellB : Cell, H[ad κ]? = some cellB ∧ cellB.vm.isStatics = false ∧ s.vm.findClass (zR ci) = some cellB.cls := by
  obtain ⟨cell, q1, q2, q3, -⟩ := (zAt.obj h8).mp (hw.1.1 κ _ hty).1
  exact ⟨cell, q1, by rw [q3]; rfl, by rw [q2]; exact (M.2.2.2.2.2.1.1 ci h8).2.1⟩
theorem z_runV (M : zM p s m c cc own nL base D cA) (hw : zH base D cA s H locs ad ty I L P) (hty : ty κ = some (ci, n)) (hC : zCV own idx y bytes maxL ret nA ci) (hM : Met l y [Cond.code y bytes maxL ret] (zRm fr lo mc ms) (zPc base D cA (.ref (ad κ) :: As) W0) Qc mc ms free) (hW0 : W0 H)
    (hst : st0 = As.reverse ++ .ref (ad κ) :: rest) (hn : As.length = nA) (hR : fr + 1 ≤ R.frames ∧ 8 + (maxL + 11) + lo ≤ R.locals) (hf : cells + mc ≤ R.cells ∧ slots + ms ≤ R.slots) (hsize : ls.size = nL) (hr8 : (rest.map fun v => v.category).sum ≤ 8) (hdg : decode cc pc = .ok (.invokevirtual idx, 3)) :
    va_Run p l e R s m args below meth c H locs cells slots mc ms (F0 m pc ls st0) rest (Qc (Value.ref (ad κ) :: As).toArray) free := by
  obtain ⟨hC, hin, hsel, h8, hyc⟩ := hC
  have hb : PreV s H (zR ci) (ad κ) (zPc base D cA (.ref (ad κ) :: As) W0) As := ⟨zPc.blind, z_recv M hw hty h8, (z_preS M hw.2 hW0).2⟩
  obtain ⟨hx, hbc, hml, hown, hE, hKn, -⟩ := M
  rw [hyc] at hsel
  have hW8 : 2 * (F0 m pc ls st0).monitorRoom + (rest.map fun v => v.category).sum ≤ 8 := by rw [z_mon]; exact hr8
  rcases id hC.1 with hl | ⟨host, hl⟩
  · exact va_runV (Ts := []) ⟨hx, hbc, hml, hown, fun _ h => nomatch h⟩ hM ⟨z_CallB hE hC hR (hE.use hl rfl), hE.use hin rfl, hE.use hsel rfl⟩ hb rfl hn hsize hst hW8 hdg hf
  · exact va_runVN (Ts := []) ⟨hx, hbc, hml, hown, fun _ h => nomatch h⟩ hM ⟨z_CN hE hC hR (hE.use hl rfl), hE.use hin rfl, hE.use hsel rfl⟩ hb rfl hn hsize hst hW8 hdg hf
theorem z_runS (M : zM p s m c cc own nL base D cA) (hS : va_S (fun q => base ≤ q) s.heap H locs) (hC : zCS own idx y bytes maxL ret nA) (hM : Met l y [Cond.code y bytes maxL ret] (zRm fr lo mc ms) (zPc base D cA As W0) Qc mc ms free) (hW0 : W0 H)
    (hst : st0 = As.reverse ++ rest) (hn : As.length = nA) (hR : fr + 1 ≤ R.frames ∧ 8 + (maxL + 11) + lo ≤ R.locals) (hf : cells + mc ≤ R.cells ∧ slots + ms ≤ R.slots) (hsize : ls.size = nL) (hr8 : (rest.map fun v => v.category).sum ≤ 8) (hdg : decode cc pc = .ok (.invokestatic idx, 3)) :
    va_Run p l e R s m args below meth c H locs cells slots mc ms (F0 m pc ls st0) rest (Qc As.toArray) free := by
  obtain ⟨hC, hstt⟩ := hC
  have hb := z_preS M hS hW0 (av := As)
  obtain ⟨hx, hbc, hml, hown, hE, hKn, -⟩ := M
  have hW8 : 2 * (F0 m pc ls st0).monitorRoom + (rest.map fun v => v.category).sum ≤ 8 := by rw [z_mon]; exact hr8
  rcases id hC.1 with hl | ⟨host, hl⟩
  · exact va_runS (Ts := []) ⟨hx, hbc, hml, hown, fun _ h => nomatch h⟩ hM ⟨z_CallB hE hC hR (hE.use hl rfl), hE.use hstt rfl⟩ hb rfl hn hsize hst hW8 hdg hf
  · exact va_runSN (Ts := []) ⟨hx, hbc, hml, hown, fun _ h => nomatch h⟩ hM ⟨z_CN hE hC hR (hE.use hl rfl), hE.use hstt rfl, trivial⟩ hb rfl hn hsize hst hW8 hdg hf
theorem z_runI (M : zM p s m c cc own nL base D cA) (hS : va_S (fun q => base ≤ q) s.heap H locs) {b : Addr} (hC : zCI own idx y bytes maxL nA) (hM : Met l y [Cond.code y bytes maxL none] (zRm fr lo mc ms) (zPc base D cA (.ref b :: As) W0) Qc mc ms free) (hW0 : W0 H)
    (hst : st0 = As.reverse ++ .ref b :: rest) (hn : As.length = nA) (hR : fr + 1 ≤ R.frames ∧ 8 + (maxL + 11) + lo ≤ R.locals) (hf : cells + mc ≤ R.cells ∧ slots + ms ≤ R.slots) (hsize : ls.size = nL) (hr8 : (rest.map fun v => v.category).sum ≤ 8) (hdg : decode cc pc = .ok (.invokespecial idx, 3)) :
    va_Run p l e R s m args below meth c H locs cells slots mc ms (F0 m pc ls st0) rest (Qc (Value.ref b :: As).toArray) free := by
  obtain ⟨hC, hin, hnm⟩ := hC
  have hb := z_preS M hS hW0 (av := .ref b :: As)
  obtain ⟨hx, hbc, hml, hown, hE, hKn, -⟩ := M
  have hW8 : 2 * (F0 m pc ls st0).monitorRoom + (rest.map fun v => v.category).sum ≤ 8 := by rw [z_mon]; exact hr8
  rcases id hC.1 with hl | ⟨host, hl⟩
  · exact va_runI (Ts := []) ⟨hx, hbc, hml, hown, fun _ h => nomatch h⟩ hM ⟨z_CallB hE hC hR (hE.use hl rfl), hnm, hE.use hin rfl⟩ hb rfl hn hsize hst hW8 hdg hf
  · exact va_runIN (Ts := []) ⟨hx, hbc, hml, hown, fun _ h => nomatch h⟩ hM ⟨z_CN hE hC hR (hE.use hl rfl), hnm, hE.use hin rfl⟩ hb rfl hn hsize hst hW8 hdg hf
/-- behind a call -/
theorem z_ci {a : Array Value} {r : Int32} (hr : va_Run p l e R s m args below meth c H locs cells slots mc ms (F0 m pc ls st0) rest (zQi base r W1 a) (fun q => base ≤ q)) (hS : va_S (fun q => base ≤ q) s.heap H locs)
    (kk : ∀ (H : Heap) (locs : List Loc), W1 H → va_S (fun q => base ≤ q) s.heap H locs → W p l e R s m args below meth c H locs (cells + mc) (slots + ms) Q (F0 m (pc + 3) ls (.int r :: rest))) : W p l e R s m args below meth c H locs cells slots Q (F0 m pc ls st0) := by
  refine va_calli hr hS (fun q _ h => h) (fun q h => h) fun v u t H1 locs1 ht _ hp hb _ _ hS1 => ?_
  cases hp
  exact kk H1 locs1 (by rw [← ht]; exact hb) hS1
theorem z_cl {a : Array Value} {r : Int64} (hr : va_Run p l e R s m args below meth c H locs cells slots mc ms (F0 m pc ls st0) rest (zQl base r W1 a) (fun q => base ≤ q)) (hS : va_S (fun q => base ≤ q) s.heap H locs)
    (kk : ∀ (H : Heap) (locs : List Loc), W1 H → va_S (fun q => base ≤ q) s.heap H locs → W p l e R s m args below meth c H locs (cells + mc) (slots + ms) Q (F0 m (pc + 3) ls (.long r :: rest))) : W p l e R s m args below meth c H locs cells slots Q (F0 m pc ls st0) := by
  refine va_calll hr hS (fun q _ h => h) (fun q h => h) fun v u t H1 locs1 ht _ hp hb _ _ hS1 => ?_
  cases hp
  exact kk H1 locs1 (by rw [← ht]; exact hb) hS1
theorem z_cv {a : Array Value} (hr : va_Run p l e R s m args below meth c H locs cells slots mc ms (F0 m pc ls st0) rest (zQv base W1 a) (fun q => base ≤ q)) (hS : va_S (fun q => base ≤ q) s.heap H locs)
    (kk : ∀ (H : Heap) (locs : List Loc), W1 H → va_S (fun q => base ≤ q) s.heap H locs → W p l e R s m args below meth c H locs (cells + mc) (slots + ms) Q (F0 m (pc + 3) ls rest)) : W p l e R s m args below meth c H locs cells slots Q (F0 m pc ls st0) := by
  refine va_callv hr hS (fun q _ h => h) (fun q h => h) fun u t H1 locs1 ht _ hp hb _ _ hS1 => ?_
  exact kk H1 locs1 (by rw [← ht]; exact hb) hS1
/-- .. where nothing is made -/
theorem z_ci0 {a : Array Value} {r : Int32} {I' : zIt} {L' : zLt} {P' : zPt} {ty' : zTyp} (hr : va_Run p l e R s m args below meth c H locs cells slots 0 0 (F0 m pc ls st0) rest (zQi base r (zW base D cA ad ty' I' L' P') a) (fun q => base ≤ q)) (hw : zH base D cA s H locs ad ty I L P)
    (kk : ∀ (H : Heap) (locs : List Loc), zH base D cA s H locs ad ty' I' L' P' → W p l e R s m args below meth c H locs cells slots Q (F0 m (pc + 3) ls (.int r :: rest))) : W p l e R s m args below meth c H locs cells slots Q (F0 m pc ls st0) :=
  z_ci hr hw.2 fun H locs h1 h2 => kk H locs ⟨h1, h2⟩
theorem z_cl0 {a : Array Value} {r : Int64} {I' : zIt} {L' : zLt} {P' : zPt} {ty' : zTyp} (hr : va_Run p l e R s m args below meth c H locs cells slots 0 0 (F0 m pc ls st0) rest (zQl base r (zW base D cA ad ty' I' L' P') a) (fun q => base ≤ q)) (hw : zH base D cA s H locs ad ty I L P)
    (kk : ∀ (H : Heap) (locs : List Loc), zH base D cA s H locs ad ty' I' L' P' → W p l e R s m args below meth c H locs cells slots Q (F0 m (pc + 3) ls (.long r :: rest))) : W p l e R s m args below meth c H locs cells slots Q (F0 m pc ls st0) :=
  z_cl hr hw.2 fun H locs h1 h2 => kk H locs ⟨h1, h2⟩
theorem z_cv0 {a : Array Value} {I' : zIt} {L' : zLt} {P' : zPt} {ty' : zTyp} (hr : va_Run p l e R s m args below meth c H locs cells slots 0 0 (F0 m pc ls st0) rest (zQv base (zW base D cA ad ty' I' L' P') a) (fun q => base ≤ q)) (hw : zH base D cA s H locs ad ty I L P)
    (kk : ∀ (H : Heap) (locs : List Loc), zH base D cA s H locs ad ty' I' L' P' → W p l e R s m args below meth c H locs cells slots Q (F0 m (pc + 3) ls rest)) : W p l e R s m args below meth c H locs cells slots Q (F0 m pc ls st0) :=
  z_cv hr hw.2 fun H locs h1 h2 => kk H locs ⟨h1, h2⟩
/-- a method's end -/
theorem z_iret (hx : p.tables.exec = Jvm.exec) (hb : c.code = cc) {rt : FieldType} (hr : meth.sig.returnType = some rt) {v r : Int32} (hv : v = r) (hn : narrow rt (.int v) = .int v) (hS : va_S (fun q => base ≤ q) s.heap H locs) (hW1 : W1 H) (hc : cells ≤ mc) (hs : slots ≤ ms) (hdg : decode cc pc = .ok (.ireturn, 1)) (hlocks : meth.locks = false) :
    W p l e R s m args below meth c H locs cells slots (MQ below (zQi base r W1) args s mc ms (fun q => base ≤ q)) (F0 m pc ls [.int v]) :=
  W.widen hc hs (W.zret hx hb hr hn (fun t ht _ => ⟨⟨v, (), rfl, hv, show W1 t.heap by rw [ht]; exact hW1⟩, hS.F ht⟩) hS.2.2 hdg hlocks)
theorem z_lret (hx : p.tables.exec = Jvm.exec) (hb : c.code = cc) (hr : meth.sig.returnType = some .long) {v r : Int64} (hv : v = r) (hS : va_S (fun q => base ≤ q) s.heap H locs) (hW1 : W1 H) (hc : cells ≤ mc) (hs : slots ≤ ms) (hdg : decode cc pc = .ok (.lreturn, 1)) (hlocks : meth.locks = false) :
    W p l e R s m args below meth c H locs cells slots (MQ below (zQl base r W1) args s mc ms (fun q => base ≤ q)) (F0 m pc ls [.long v]) :=
  W.widen hc hs (W.lret hx hb hr (fun t ht _ => ⟨⟨v, (), rfl, hv, show W1 t.heap by rw [ht]; exact hW1⟩, hS.F ht⟩) hS.2.2 hdg hlocks)
theorem z_vret (hx : p.tables.exec = Jvm.exec) (hb : c.code = cc) (hr : meth.sig.returnType = none) (hS : va_S (fun q => base ≤ q) s.heap H locs) (hW1 : W1 H) (hc : cells ≤ mc) (hs : slots ≤ ms) (hdg : decode cc pc = .ok (.return_, 1)) (hlocks : meth.locks = false) :
    W p l e R s m args below meth c H locs cells slots (MQ below (zQv base W1) args s mc ms (fun q => base ≤ q)) (F0 m pc ls []) :=
  W.widen hc hs (W.vret hx hb hr (fun t ht _ => ⟨⟨(), rfl, trivial, show W1 t.heap by rw [ht]; exact hW1⟩, hS.F ht⟩) hS.2.2 hdg hlocks)
theorem z_xiret (hx : p.tables.exec = Jvm.exec) (hb : c.code = cc) {rt : FieldType} (hr : meth.sig.returnType = some rt) {v r : Int32} {oc : Nat} (hv : v = r ∧ oc = 0) (hn : narrow rt (.int v) = .int v) (hS : va_S (fun q => base ≤ q) s.heap H locs) (hW1 : W1 H) (hc : cells ≤ mc) (hs : slots ≤ ms) (hdg : decode cc pc = .ok (.ireturn, 1)) (hlocks : meth.locks = false) :
    W p l e R s m args below meth c H locs cells slots (vx_MQ below (zXQi base oc r W1) XC args s mc ms (fun q => base ≤ q)) (F0 m pc ls [.int v]) :=
  W.widen hc hs (vx_ret (W.zret hx hb hr hn (fun t ht _ => ⟨⟨v, (), rfl, hv, show W1 t.heap by rw [ht]; exact hW1⟩, hS.F ht⟩) hS.2.2 hdg hlocks))
theorem z_xlret (hx : p.tables.exec = Jvm.exec) (hb : c.code = cc) (hr : meth.sig.returnType = some .long) {v r : Int64} {oc : Nat} (hv : v = r ∧ oc = 0) (hS : va_S (fun q => base ≤ q) s.heap H locs) (hW1 : W1 H) (hc : cells ≤ mc) (hs : slots ≤ ms) (hdg : decode cc pc = .ok (.lreturn, 1)) (hlocks : meth.locks = false) :
    W p l e R s m args below meth c H locs cells slots (vx_MQ below (zXQl base oc r W1) XC args s mc ms (fun q => base ≤ q)) (F0 m pc ls [.long v]) :=
  W.widen hc hs (vx_ret (W.lret hx hb hr (fun t ht _ => ⟨⟨v, (), rfl, hv, show W1 t.heap by rw [ht]; exact hW1⟩, hS.F ht⟩) hS.2.2 hdg hlocks))
theorem z_xvret (hx : p.tables.exec = Jvm.exec) (hb : c.code = cc) (hr : meth.sig.returnType = none) {oc : Nat} (hv : oc = 0) (hS : va_S (fun q => base ≤ q) s.heap H locs) (hW1 : W1 H) (hc : cells ≤ mc) (hs : slots ≤ ms) (hdg : decode cc pc = .ok (.return_, 1)) (hlocks : meth.locks = false) :
    W p l e R s m args below meth c H locs cells slots (vx_MQ below (zXQv base oc W1) XC args s mc ms (fun q => base ≤ q)) (F0 m pc ls []) :=
  W.widen hc hs (vx_ret (W.vret hx hb hr (fun t ht _ => ⟨⟨(), rfl, hv, show W1 t.heap by rw [ht]; exact hW1⟩, hS.F ht⟩) hS.2.2 hdg hlocks))
/-- calls of methods that may throw -/
theorem z_xrunV (M : zM p s m c cc own nL base D cA) (hw : zH base D cA s H locs ad ty I L P) (hty : ty κ = some (ci, n)) (hC : zCV own idx y bytes maxL ret nA ci) (hno : Cond.methodLink own idx y ∈ lw_tbl) (hM : vx_Met l y [Cond.code y bytes maxL ret] (zRm fr lo mc ms) (zPc base D cA (.ref (ad κ) :: As) W0) Qc XC mc ms free) (hW0 : W0 H)
    (hst : st0 = As.reverse ++ .ref (ad κ) :: rest) (hn : As.length = nA) (hR : fr + 1 ≤ R.frames ∧ 8 + (maxL + 11) + lo ≤ R.locals) (hf : cells + mc ≤ R.cells ∧ slots + ms ≤ R.slots) (hsize : ls.size = nL) (hr8 : (rest.map fun v => v.category).sum ≤ 8) (hdg : decode cc pc = .ok (.invokevirtual idx, 3)) :
    vx_Run p l e R s m args below meth c H locs cells slots mc ms (F0 m pc ls st0) rest (Qc (Value.ref (ad κ) :: As).toArray) XC free := by
  obtain ⟨hC, hin, hsel, h8, hyc⟩ := hC
  have hb : PreV s H (zR ci) (ad κ) (zPc base D cA (.ref (ad κ) :: As) W0) As := ⟨zPc.blind, z_recv M hw hty h8, (z_preS M hw.2 hW0).2⟩
  obtain ⟨hx, hbc, hml, hown, hE, hKn, -⟩ := M
  rw [hyc] at hsel
  have hW8 : 2 * (F0 m pc ls st0).monitorRoom + (rest.map fun v => v.category).sum ≤ 8 := by rw [z_mon]; exact hr8
  exact vx_runV (Ts := []) ⟨hx, hbc, hml, hown, fun _ h => nomatch h⟩ hM ⟨z_CallB hE hC hR (hE.use hno rfl), hE.use hin rfl, hE.use hsel rfl⟩ hb rfl hn hsize hst hW8 hdg hf
theorem z_xrunS (M : zM p s m c cc own nL base D cA) (hS : va_S (fun q => base ≤ q) s.heap H locs) (hC : zCS own idx y bytes maxL ret nA) (hno : Cond.methodLink own idx y ∈ lw_tbl) (hM : vx_Met l y [Cond.code y bytes maxL ret] (zRm fr lo mc ms) (zPc base D cA As W0) Qc XC mc ms free) (hW0 : W0 H)
    (hst : st0 = As.reverse ++ rest) (hn : As.length = nA) (hR : fr + 1 ≤ R.frames ∧ 8 + (maxL + 11) + lo ≤ R.locals) (hf : cells + mc ≤ R.cells ∧ slots + ms ≤ R.slots) (hsize : ls.size = nL) (hr8 : (rest.map fun v => v.category).sum ≤ 8) (hdg : decode cc pc = .ok (.invokestatic idx, 3)) :
    vx_Run p l e R s m args below meth c H locs cells slots mc ms (F0 m pc ls st0) rest (Qc As.toArray) XC free := by
  obtain ⟨hC, hstt⟩ := hC
  have hb := z_preS M hS hW0 (av := As)
  obtain ⟨hx, hbc, hml, hown, hE, hKn, -⟩ := M
  have hW8 : 2 * (F0 m pc ls st0).monitorRoom + (rest.map fun v => v.category).sum ≤ 8 := by rw [z_mon]; exact hr8
  exact vx_runS (Ts := []) ⟨hx, hbc, hml, hown, fun _ h => nomatch h⟩ hM ⟨z_CallB hE hC hR (hE.use hno rfl), hE.use hstt rfl⟩ hb rfl hn hsize hst hW8 hdg hf
/-- behind them: thrown (kx), or returned (kk) -/
theorem z_xcv {a : Array Value} {oc : Nat} (hr : vx_Run p l e R s m args below meth c H locs cells slots mc ms (F0 m pc ls st0) rest (zXQv base oc W1 a) (zXC base oc W0) (fun q => base ≤ q)) (hS : va_S (fun q => base ≤ q) s.heap H locs)
    (kx : oc ≠ 0 → ∀ (ce : Cell) (q : Addr) (H : Heap) (locs : List Loc), W0 H → va_S (fun q => base ≤ q) s.heap H locs → H[q]? = some ce → ce.vm = .none → s.vm.findClass (zEn oc) = some ce.cls → vx_W p l e R s m args below meth c H locs (cells + mc) (slots + ms) Q (F0 m pc ls rest) q)
    (kk : oc = 0 → ∀ (H : Heap) (locs : List Loc), W1 H → va_S (fun q => base ≤ q) s.heap H locs → W p l e R s m args below meth c H locs (cells + mc) (slots + ms) Q (F0 m (pc + 3) ls rest)) : W p l e R s m args below meth c H locs cells slots Q (F0 m pc ls st0) := by
  refine vx_callv hr hS (fun q _ h => h) (fun q h => h) (fun q _ h => h) (fun E ce q u t H1 locs1 ht _ hp hb _ _ hS1 h1 h2 h3 => ?_) fun u t H1 locs1 ht _ hp hb _ _ hS1 => ?_
  · exact kx hp ce q H1 locs1 (by rw [← ht]; exact hb.2) hS1 h1 h2 (by rw [← hb.1]; exact h3)
  · exact kk hp H1 locs1 (by rw [← ht]; exact hb) hS1
theorem z_xci {a : Array Value} {oc : Nat} {r : Int32} (hr : vx_Run p l e R s m args below meth c H locs cells slots mc ms (F0 m pc ls st0) rest (zXQi base oc r W1 a) (zXC base oc W0) (fun q => base ≤ q)) (hS : va_S (fun q => base ≤ q) s.heap H locs)
    (kx : oc ≠ 0 → ∀ (ce : Cell) (q : Addr) (H : Heap) (locs : List Loc), W0 H → va_S (fun q => base ≤ q) s.heap H locs → H[q]? = some ce → ce.vm = .none → s.vm.findClass (zEn oc) = some ce.cls → vx_W p l e R s m args below meth c H locs (cells + mc) (slots + ms) Q (F0 m pc ls rest) q)
    (kk : oc = 0 → ∀ (H : Heap) (locs : List Loc), W1 H → va_S (fun q => base ≤ q) s.heap H locs → W p l e R s m args below meth c H locs (cells + mc) (slots + ms) Q (F0 m (pc + 3) ls (.int r :: rest))) : W p l e R s m args below meth c H locs cells slots Q (F0 m pc ls st0) := by
  refine vx_calli hr hS (fun q _ h => h) (fun q h => h) (fun q _ h => h) (fun E ce q u t H1 locs1 ht _ hp hb _ _ hS1 h1 h2 h3 => ?_) fun v u t H1 locs1 ht _ hp hb _ _ hS1 => ?_
  · exact kx hp ce q H1 locs1 (by rw [← ht]; exact hb.2) hS1 h1 h2 (by rw [← hb.1]; exact h3)
  · obtain ⟨rfl, h0⟩ := hp
    exact kk h0 H1 locs1 (by rw [← ht]; exact hb) hS1
theorem z_xcl {a : Array Value} {oc : Nat} {r : Int64} (hr : vx_Run p l e R s m args below meth c H locs cells slots mc ms (F0 m pc ls st0) rest (zXQl base oc r W1 a) (zXC base oc W0) (fun q => base ≤ q)) (hS : va_S (fun q => base ≤ q) s.heap H locs)
    (kx : oc ≠ 0 → ∀ (ce : Cell) (q : Addr) (H : Heap) (locs : List Loc), W0 H → va_S (fun q => base ≤ q) s.heap H locs → H[q]? = some ce → ce.vm = .none → s.vm.findClass (zEn oc) = some ce.cls → vx_W p l e R s m args below meth c H locs (cells + mc) (slots + ms) Q (F0 m pc ls rest) q)
    (kk : oc = 0 → ∀ (H : Heap) (locs : List Loc), W1 H → va_S (fun q => base ≤ q) s.heap H locs → W p l e R s m args below meth c H locs (cells + mc) (slots + ms) Q (F0 m (pc + 3) ls (.long r :: rest))) : W p l e R s m args below meth c H locs cells slots Q (F0 m pc ls st0) := by
  refine vx_calll hr hS (fun q _ h => h) (fun q h => h) (fun q _ h => h) (fun E ce q u t H1 locs1 ht _ hp hb _ _ hS1 h1 h2 h3 => ?_) fun v u t H1 locs1 ht _ hp hb _ _ hS1 => ?_
  · exact kx hp ce q H1 locs1 (by rw [← ht]; exact hb.2) hS1 h1 h2 (by rw [← hb.1]; exact h3)
  · obtain ⟨rfl, h0⟩ := hp
    exact kk h0 H1 locs1 (by rw [← ht]; exact hb) hS1
end ZC
