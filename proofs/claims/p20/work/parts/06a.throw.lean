/-- the words of 'throw new E("text")' -/
abbrev zNs : List String := ["java/lang/RuntimeException", "java/lang/Exception"]
def zTh (own : String) (ik ic oc : Nat) : Prop := Cond.classLink own ik (zEn oc) ∈ lw_tbl ∧ Cond.initialized (zEn oc) ∈ lw_tbl ∧ ∀ w ∈ vx_atS own ic (zEn oc) zNs, w ∈ lw_tbl ∧ zok w = true ∧ vx_ot w = true
theorem zth_1 : zTh RX6 146 150 1 := ⟨tb 224 (by decide +kernel), tb 9 (by decide +kernel), by decide +kernel⟩
theorem zth_2 : zTh RX6 219 223 2 := ⟨tb 111 (by decide +kernel), tb 6 (by decide +kernel), by decide +kernel⟩
theorem zth_3 : zTh RX6 93 97 3 := ⟨tb 182 (by decide +kernel), tb 7 (by decide +kernel), by decide +kernel⟩
theorem zEn_fit (oc : Nat) : Bundle.fit (zEn oc) = true := by
  match oc with
  | 0 => decide +kernel
  | 1 => decide +kernel
  | 2 => decide +kernel
  | n + 3 => exact (by decide +kernel : Bundle.fit "java/lang/IllegalStateException" = true)
section ZT
variable {p : Program} {l : Launch} {e : Env} {R : Room} {s : State} {m : MethodId} {args : Array Value} {below : List Frame} {meth : Method} {c : Code} {H : Heap} {locs : List Loc} {cells slots : Nat}
variable {cc : ByteArray} {own : String} {nL base mc ms oc : Nat} {D : zDD} {cA : Nat → ClassId} {ad : Nat → Nat} {ty : zTyp} {I : zIt} {L : zLt} {P : zPt}
variable {pc : Nat} {ls : Array Slot} {rest : List Value} {Qc : Array Value → State → Outcome → State → Prop}
theorem z_throw (hl : l.stackTraces = false) (M : zM p s m c cc own nL base D cA) (hw : zH base D cA s H locs ad ty I L P) (hoc : oc ≠ 0) {ik is ic : Nat} {text : String} (hstr : (own, is, text) ∈ zstr) (hT : zTh own ik ic oc) (hsize : ls.size = nL)
    (d0 : decode cc pc = .ok (.new ik, 3)) (d3 : decode cc (pc + 3) = .ok (.dup, 1)) (d4 : decode cc (pc + 4) = .ok (.ldc is, 2)) (d6 : decode cc (pc + 6) = .ok (.invokespecial ic, 3)) (d9 : decode cc (pc + 9) = .ok (.athrow, 1))
    (hout : ∀ x ∈ c.exceptionTable.toList, False) (hR : 5 < R.frames ∧ (rest.map fun v => v.category).sum + 82 ≤ R.locals ∧ cells + 1 ≤ R.cells ∧ slots + 6 ≤ R.slots) (hc : cells + 1 ≤ mc) (hs : slots + 6 ≤ ms) (hlocks : meth.locks = false) :
    W p l e R s m args below meth c H locs cells slots (vx_MQ below Qc (zXC base oc (zW base D cA ad ty I L P)) args s mc ms (fun q => base ≤ q)) (F0 m pc ls rest) := by
  obtain ⟨hx, hb, hml, hown, hE, hKn, hX, hSt, hbs⟩ := M
  obtain ⟨hcl, hini, hat⟩ := hT
  obtain ⟨sa, hsa⟩ := hSt _ hstr
  refine vx_throwS hx hb hl (names := zNs) (A := fun q => base ≤ q) hown (zEn_fit oc) (by decide +kernel) (hE.use hcl rfl) (hE.use hini rfl) hsa (fun w hw => hE.use (hat w hw).1 (hat w hw).2.1) (fun w hw => ?_) hX.1 hX.2 hw.2 (hsize.trans hml.symm) d0 d3 d4 d6 d9 (fun x hx => (hout x hx).elim) hR.1 hR.2.1 hR.2.2.1 hR.2.2.2 hlocks (fun t _ h1 h2 => ?_) hw.2.2.2 hc hs
  · rcases List.mem_cons.mp hw with rfl | hw
    · rfl
    · rcases List.mem_cons.mp hw with rfl | hw
      · rfl
      · exact (hat w hw).2.2
  · exact ⟨(), hoc, ⟨rfl, hw.1.kept h1 h2⟩, Nat.le_trans hw.2.1 h1, fun q h3 h4 => (h2 q (Nat.lt_of_lt_of_le h3 hw.2.1)).trans (hw.2.2.1 q h3 h4)⟩
theorem z_throw_at {oc0 : Nat} (heq : oc = oc0) (hl : l.stackTraces = false) (M : zM p s m c cc own nL base D cA) (hw : zH base D cA s H locs ad ty I L P) (hoc : oc0 ≠ 0) {ik is ic : Nat} {text : String} (hstr : (own, is, text) ∈ zstr) (hT : zTh own ik ic oc0) (hsize : ls.size = nL)
    (d0 : decode cc pc = .ok (.new ik, 3)) (d3 : decode cc (pc + 3) = .ok (.dup, 1)) (d4 : decode cc (pc + 4) = .ok (.ldc is, 2)) (d6 : decode cc (pc + 6) = .ok (.invokespecial ic, 3)) (d9 : decode cc (pc + 9) = .ok (.athrow, 1))
    (hout : ∀ x ∈ c.exceptionTable.toList, False) (hR : 5 < R.frames ∧ (rest.map fun v => v.category).sum + 82 ≤ R.locals ∧ cells + 1 ≤ R.cells ∧ slots + 6 ≤ R.slots) (hc : cells + 1 ≤ mc) (hs : slots + 6 ≤ ms) (hlocks : meth.locks = false) :
    W p l e R s m args below meth c H locs cells slots (vx_MQ below Qc (zXC base oc (zW base D cA ad ty I L P)) args s mc ms (fun q => base ≤ q)) (F0 m pc ls rest) := by
  subst heq
  exact z_throw hl M hw hoc hstr hT hsize d0 d3 d4 d6 d9 hout hR hc hs hlocks
/-- thrown by a callee, not caught here: it goes on to the caller -/
theorem z_xout {oc' : Nat} {W0' : Heap → Prop} (hoc : oc ≠ 0) (he : oc' = oc) {ce : Cell} {q : Addr} (hW0 : W0' H) (hS : va_S (fun q => base ≤ q) s.heap H locs) (hq : H[q]? = some ce) (hv : ce.vm = .none) (hcl : s.vm.findClass (zEn oc) = some ce.cls)
    (hout : ∀ x ∈ c.exceptionTable.toList, False) (hc : cells ≤ mc) (hs : slots ≤ ms) (hlocks : meth.locks = false) :
    vx_W p l e R s m args below meth c H locs cells slots (vx_MQ below Qc (zXC base oc' W0') args s mc ms (fun q => base ≤ q)) (F0 m pc ls rest) q := by
  subst he
  exact vx_out (fun x hx => (hout x hx).elim) hlocks hq hv hcl (fun t ht _ => ⟨(), hoc, ⟨rfl, by rw [ht]; exact hW0⟩, hS.F ht⟩) hS.2.2 hc hs
end ZT
