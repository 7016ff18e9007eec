section ZS
variable {l : Launch} {base maxL fr lo mc ms : Nat} {D : va_G} {cA : Nat → ClassId} {y : MethodName} {cc : ByteArray} {ret : Option FieldType} {av : List Value} {W0 : Heap → Prop} {Qc : Array Value → State → Outcome → State → Prop} {XC : String → State → State → Prop} {free : Addr → Prop}
/-- the head of a method -/
theorem z_start (hy : plainName y.cls = true) (hav : (lg_sl av).length ≤ maxL)
    (body : ∀ (p : Program) (e : Env) (s : State) (m : MethodId) (below : List Frame) (meth : Method) (c : Code) (ls : Array Slot), zM p s m c cc y.cls maxL base D cA → W0 s.heap → va_S (fun q => base ≤ q) s.heap s.heap [] → lv_has ls maxL (lv_args 0 av) → meth.sig.returnType = ret → meth.locks = false → meth.name = y.name →
      W p l e (zRm fr lo mc ms) s m av.toArray below meth c s.heap [] 0 0 (MQ below Qc av.toArray s mc ms free) (F0 m 0 ls [])) : Met l y [Cond.code y cc maxL ret] (zRm fr lo mc ms) (zPc base D cA av W0) Qc mc ms free := by
  refine Met.ofW (cc := cc) (maxL := maxL) (ret := ret) hy rfl ?_
  intro p e s m args below meth c s₁ B hml hv
  obtain ⟨rfl, hG, hP⟩ := hv
  have hl := lv_entry av (n := maxL) hav
  rw [lg_entry_eq]
  generalize (lg_sl av ++ List.replicate (maxL - (lg_sl av).length) Slot.unset).toArray = ls at hl ⊢
  exact body p e s m below meth c ls ⟨B.exec, B.bytes, hml, findClass_of_methodNamed B.named, hG⟩ hP va_S.rf hl B.returns B.notSynchronized (name_of_methodNamed B.named B.method).1
theorem z_xstart (hy : plainName y.cls = true) (hav : (lg_sl av).length ≤ maxL)
    (body : ∀ (p : Program) (e : Env) (s : State) (m : MethodId) (below : List Frame) (meth : Method) (c : Code) (ls : Array Slot), zM p s m c cc y.cls maxL base D cA → W0 s.heap → va_S (fun q => base ≤ q) s.heap s.heap [] → lv_has ls maxL (lv_args 0 av) → meth.sig.returnType = ret → meth.locks = false → meth.name = y.name → (∀ x ∈ c.exceptionTable.toList, False) →
      W p l e (zRm fr lo mc ms) s m av.toArray below meth c s.heap [] 0 0 (vx_MQ below Qc XC av.toArray s mc ms free) (F0 m 0 ls [])) : vx_Met l y [Cond.code y cc maxL ret] (zRm fr lo mc ms) (zPc base D cA av W0) Qc XC mc ms free := by
  refine vx_ofW (cc := cc) (maxL := maxL) (ret := ret) hy rfl ?_
  intro p e s m args below meth c s₁ B hml hout hv
  obtain ⟨rfl, hG, hP⟩ := hv
  have hl := lv_entry av (n := maxL) hav
  rw [lg_entry_eq]
  generalize (lg_sl av ++ List.replicate (maxL - (lg_sl av).length) Slot.unset).toArray = ls at hl ⊢
  exact body p e s m below meth c ls ⟨B.exec, B.bytes, hml, findClass_of_methodNamed B.named, hG⟩ hP va_S.rf hl B.returns B.notSynchronized (name_of_methodNamed B.named B.method).1 hout
end ZS
/-- a truth as the machine has it -/
def zb (c : Prop) [Decidable c] : Int32 := if c then 1 else 0
theorem zb_1 {c : Prop} [Decidable c] (h : c) : zb c = 1 := if_pos h
theorem zb_0 {c : Prop} [Decidable c] (h : ¬ c) : zb c = 0 := if_neg h
theorem zb_eq0 {c : Prop} [Decidable c] : zb c = 0 ↔ ¬ c := by
  unfold zb
  by_cases h : c
  · rw [if_pos h]; exact ⟨fun e => absurd e (by decide), fun e => absurd h e⟩
  · rw [if_neg h]; exact ⟨fun _ => h, fun _ => rfl⟩
theorem zb_ne0 {c : Prop} [Decidable c] : ¬ zb c = 0 ↔ c := by rw [zb_eq0, Decidable.not_not]
theorem zb_nb (c : Prop) [Decidable c] : narrow .boolean (.int (zb c)) = .int (zb c) := by
  by_cases h : c
  · rw [zb_1 h]; rfl
  · rw [zb_0 h]; rfl
