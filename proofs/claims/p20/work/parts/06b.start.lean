section ZS
variable {l : Launch} {base maxL fr lo mc ms : Nat} {D : zDD} {cA : Nat → ClassId} {y : MethodName} {cc : ByteArray} {ret : Option FieldType} {av : List Value} {W0 : Heap → Prop} {Qc : Array Value → State → Outcome → State → Prop} {XC : String → State → State → Prop} {free : Addr → Prop}
/-- the head of a method -/
theorem z_start (hy : plainName y.cls = true) (hav : (lg_sl av).length ≤ maxL)
    (body : ∀ (p : Program) (e : Env) (s : State) (m : MethodId) (below : List Frame) (meth : Method) (c : Code) (ls : Array Slot), zM p s m c cc y.cls maxL base D cA → W0 s.heap → va_S (fun q => base ≤ q) s.heap s.heap [] → lv_has ls maxL (lv_args 0 av) → meth.sig.returnType = ret → meth.locks = false → meth.name = y.name →
      W p l e (zRm fr lo mc ms) s m av.toArray below meth c s.heap [] 0 0 (MQ below Qc av.toArray s mc ms free) (F0 m 0 ls [])) : Met l y [Cond.code y cc maxL ret] (zRm fr lo mc ms) (zPc base D cA av W0) Qc mc ms free := by
  refine Met.ofW (cc := cc) (maxL := maxL) (ret := ret) hy rfl ?_
  intro p e s m args below meth c s₁ B hml hv
  obtain ⟨rfl, hG, hP⟩ := hv
  have hl := lv_entry av (n := maxL) hav
  rw [lg_entry_eq]
  generalize (lg_sl av ++ List.replicate (maxL - (lg_sl av).length) Slot.unset).toArray = ls at hl ⊢
  exact body p e s m below meth c ls ⟨B.exec, B.bytes, hml, findClass_of_methodNamed B.named, hG⟩ hP va_S.rf hl B.returns B.notSynchronized (name_of_methodNamed B.named B.method).1
theorem z_xstart (hy : plainName y.cls = true) (hav : (lg_sl av).length ≤ maxL)
    (body : ∀ (p : Program) (e : Env) (s : State) (m : MethodId) (below : List Frame) (meth : Method) (c : Code) (ls : Array Slot), zM p s m c cc y.cls maxL base D cA → W0 s.heap → va_S (fun q => base ≤ q) s.heap s.heap [] → lv_has ls maxL (lv_args 0 av) → meth.sig.returnType = ret → meth.locks = false → meth.name = y.name → (∀ x ∈ c.exceptionTable.toList, False) →
      W p l e (zRm fr lo mc ms) s m av.toArray below meth c s.heap [] 0 0 (vx_MQ below Qc XC av.toArray s mc ms free) (F0 m 0 ls [])) : vx_Met l y [Cond.code y cc maxL ret] (zRm fr lo mc ms) (zPc base D cA av W0) Qc XC mc ms free := by
  refine vx_ofW (cc := cc) (maxL := maxL) (ret := ret) hy rfl ?_
  intro p e s m args below meth c s₁ B hml hout hv
  obtain ⟨rfl, hG, hP⟩ := hv
  have hl := lv_entry av (n := maxL) hav
  rw [lg_entry_eq]
  generalize (lg_sl av ++ List.replicate (maxL - (lg_sl av).length) Slot.unset).toArray = ls at hl ⊢
  exact body p e s m below meth c ls ⟨B.exec, B.bytes, hml, findClass_of_methodNamed B.named, hG⟩ hP va_S.rf hl B.returns B.notSynchronized (name_of_methodNamed B.named B.method).1 hout
end ZS
/-- a truth as the machine has it -/
def zb (c : Prop) [Decidable c] : Int32 := if c then 1 else 0
theorem zb_1 {c : Prop} [Decidable c] (h : c) : zb c = 1 := if_pos h
theorem zb_0 {c : Prop} [Decidable c] (h : ¬ c) : zb c = 0 := if_neg h
theorem zb_eq0 {c : Prop} [Decidable c] : zb c = 0 ↔ ¬ c := by
  unfold zb
  by_cases h : c
  · rw [if_pos h]; exact ⟨fun e => absurd e (by decide), fun e => absurd h e⟩
  · rw [if_neg h]; exact ⟨fun _ => h, fun _ => rfl⟩
theorem zb_ne0 {c : Prop} [Decidable c] : ¬ zb c = 0 ↔ c := by rw [zb_eq0, Decidable.not_not]
theorem zb_nb (c : Prop) [Decidable c] : narrow .boolean (.int (zb c)) = .int (zb c) := by
  by_cases h : c
  · rw [zb_1 h]; rfl
  · rw [zb_0 h]; rfl
section ZL
variable {p : Program} {l : Launch} {e : Env} {R : Room} {s : State} {m : MethodId} {args : Array Value} {below : List Frame} {meth : Method} {c : Code} {cells slots : Nat} {Q : State → Prop} {pc : Nat} {st0 : List Value}
/-- a loop with a counter: k0 to N -/
theorem z_loop (N : Nat) (Inv : Nat → Heap → List Loc → Array Slot → Prop) (k0 : Nat) {H : Heap} {locs : List Loc} {ls : Array Slot} (h0 : Inv k0 H locs ls) (hk0 : k0 ≤ N)
    (hstep : ∀ k, k ≤ N → (k < N → ∀ (H : Heap) (locs : List Loc) (ls : Array Slot), Inv (k + 1) H locs ls → W p l e R s m args below meth c H locs cells slots Q (F0 m pc ls st0)) → ∀ (H : Heap) (locs : List Loc) (ls : Array Slot), Inv k H locs ls → W p l e R s m args below meth c H locs cells slots Q (F0 m pc ls st0)) :
    W p l e R s m args below meth c H locs cells slots Q (F0 m pc ls st0) := by
  have key : ∀ (n k : Nat), k ≤ N → N + 1 ≤ k + n → ∀ (H : Heap) (locs : List Loc) (ls : Array Slot), Inv k H locs ls → W p l e R s m args below meth c H locs cells slots Q (F0 m pc ls st0) := by
    intro n
    induction n with
    | zero => intro k h1 h2; exact absurd h2 (by omega)
    | succ n ih => intro k h1 h2; exact hstep k h1 fun h3 => ih (k + 1) (by omega) (by omega)
  exact key (N + 1) k0 hk0 (by omega) H locs ls h0
end ZL
section ZTP
variable {p : Program} {l : Launch} {e : Env} {R : Room} {s : State} {m : MethodId} {args : Array Value} {below : List Frame} {meth : Method} {c : Code} {H : Heap} {locs : List Loc} {cells slots : Nat} {Q : State → Prop} {pc : Nat} {ls : Array Slot} {rest : List Value}
theorem z_topi {x y : Int32} (h : x = y) (k : W p l e R s m args below meth c H locs cells slots Q (F0 m pc ls (.int y :: rest))) : W p l e R s m args below meth c H locs cells slots Q (F0 m pc ls (.int x :: rest)) := by rw [h]; exact k
theorem z_topl {x y : Int64} (h : x = y) (k : W p l e R s m args below meth c H locs cells slots Q (F0 m pc ls (.long y :: rest))) : W p l e R s m args below meth c H locs cells slots Q (F0 m pc ls (.long x :: rest)) := by rw [h]; exact k
end ZTP
