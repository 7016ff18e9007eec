/-! THE LAW'S ENTRY: what the Statement gives of it, in the words of the keyed world -/
theorem zstr_in : ∀ q ∈ zstr, Cond.stringRef q.1 q.2.1 q.2.2 ∈ lw_tbl := List.forall_mem_cons.mpr ⟨tb 152 (by decide +kernel), List.forall_mem_cons.mpr ⟨tb 191 (by decide +kernel), List.forall_mem_cons.mpr ⟨tb 233 (by decide +kernel), List.forall_mem_cons.mpr ⟨tb 243 (by decide +kernel), List.forall_mem_cons.mpr ⟨tb 305 (by decide +kernel), List.forall_mem_cons.mpr ⟨tb 367 (by decide +kernel), List.forall_mem_cons.mpr ⟨tb 368 (by decide +kernel), List.forall_mem_cons.mpr ⟨tb 593 (by decide +kernel), List.forall_mem_cons.mpr ⟨tb 612 (by decide +kernel), fun _ h => absurd h List.not_mem_nil⟩⟩⟩⟩⟩⟩⟩⟩⟩
theorem zstr_6 : ∀ q ∈ zstr, q.1 = RX6 := by decide
theorem zinst : ∀ ci, ci < 8 → Cond.instantiable (zR ci) (zN ci) ∈ lw_tbl := by
  intro ci h
  match ci, h with
  | 0, _ => exact tb 245 (by decide +kernel)
  | 1, _ => exact tb 198 (by decide +kernel)
  | 2, _ => exact tb 27 (by decide +kernel)
  | 3, _ => exact tb 320 (by decide +kernel)
  | 4, _ => exact tb 415 (by decide +kernel)
  | 5, _ => exact tb 421 (by decide +kernel)
  | 6, _ => exact tb 17 (by decide +kernel)
  | 7, _ => exact tb 17 (by decide +kernel)
  | n + 8, h => omega
theorem z_arrC {A : Array Value} {s : State} {t : FieldType} (h : (Cond.arrayClass t).before A s = true) : ∃ cA : ClassId, ArrOfT s cA t ∧ s.vm.findClass ("[" ++ t.toString) = some cA := by
  obtain ⟨c, k, comp, h1, h2, h3⟩ := Cond.arrayClass_spec h
  exact ⟨c, fun n z => ⟨fun k h => (by cases h), k, h2, comp, h3⟩, h1⟩
theorem z_arrO {A : Array Value} {s : State} {C : String} (h : (Cond.arrayOver (.object C)).before A s = true) : ∃ cA : ClassId, ArrOfT s cA (.object C) ∧ va_RA s cA (.object C) := by
  obtain ⟨comp, c, k, h1, -, h3, h4, h5⟩ := Cond.arrayOver_spec h
  exact ⟨c, fun n z => ⟨fun k h => (by cases h), k, h3, comp, h4⟩, k, comp, h3, h4, h1, h5⟩
theorem z_kn0 {A : Array Value} {s : State} (hts : ∀ w ∈ lw_tbl, w.before A s = true) : ∃ (G : va_G) (cA : Nat → ClassId), zKn (G, fun _ => none) cA s := by
  have h1 : ∀ ci, ci < 8 → ∃ (cC : ClassId) (iS : Nat → Nat), u_Kn s (zR ci) (zT ci) (zN ci) cC iS := fun ci hci => u_known hts (zT_in ci hci) (hts _ (zinst ci hci))
  have h3 : ∀ j, j < 7 → ∃ cA : ClassId, ArrOfT s cA (zEl j) ∧ va_RA s cA (zEl j) := by
    intro j hj
    match j, hj with
    | 0, _ =>
      obtain ⟨c, g1, g2⟩ := z_arrC (t := .int) (hts _ (tb 55 (by decide +kernel)))
      exact ⟨c, g1, g2⟩
    | 1, _ =>
      obtain ⟨c, g1, g2⟩ := z_arrC (t := .long) (hts _ (tb 56 (by decide +kernel)))
      exact ⟨c, g1, g2⟩
    | 2, _ =>
      obtain ⟨c, g1, g2⟩ := z_arrC (t := .int) (hts _ (tb 55 (by decide +kernel)))
      exact ⟨c, g1, g2⟩
    | 3, _ => exact z_arrO (C := RX0) (hts _ (tb 33 (by decide +kernel)))
    | 4, _ => exact z_arrO (C := RX1) (hts _ (tb 25 (by decide +kernel)))
    | 5, _ => exact z_arrO (C := RX3) (hts _ (tb 58 (by decide +kernel)))
    | 6, _ => exact z_arrO (C := RX4) (hts _ (tb 60 (by decide +kernel)))
    | n + 7, h => omega
  refine ⟨(fun ci => if h : ci < 8 then (h1 ci h).choose else (h1 0 (by omega)).choose, fun ci => if h : ci < 8 then (h1 ci h).choose_spec.choose else fun _ => 0), fun j => if h : j < 7 then (h3 j h).choose else (h3 0 (by omega)).choose, fun ci h => ?_, fun j h => ?_⟩
  · dsimp only
    rw [dif_pos h, dif_pos h]
    exact (h1 ci h).choose_spec.choose_spec
  · dsimp only
    rw [dif_pos h]
    exact (h3 j h).choose_spec
theorem z_st0 {A : Array Value} {s : State} {D : zDD} {cA : Nat → ClassId} (hts : ∀ w ∈ lw_tbl, w.before A s = true) (hK : zKn D cA s) : zSt s := by
  intro q hq
  have h1 := hts _ (zstr_in q hq)
  have hcur : s.vm.findClass q.1 = some (D.1.1 6) := by
    rw [zstr_6 q hq]
    exact (hK.1 6 (by omega)).2.1
  obtain ⟨k, cf, i, sa, -, -, -, -, -, hev⟩ := Cond.stringRef_spec hcur h1
  exact ⟨sa, vk_R.of h1 hev⟩
theorem z_x0 {A : Array Value} {s : State} (hts : ∀ w ∈ lw_tbl, w.before A s = true) (hgv : (Jvm.Cond.and given_1 narrow_1).before A s = true) : zX s.heap.size s s.heap := by
  have hs := flat_of_before _ hgv
  exact ⟨vx_Zqof (hts _ (tb 138 (by decide +kernel))) (hts _ (tb 3 (by decide +kernel))) (hs _ (by decide +kernel)) (fun q hq h => absurd h (Nat.not_le.mpr hq)),
    vx_Zqof (hts _ (tb 140 (by decide +kernel))) (hts _ (tb 3 (by decide +kernel))) (hs _ (by decide +kernel)) (fun q hq h => absurd h (Nat.not_le.mpr hq))⟩
theorem z_ncs0 {A : Array Value} {s : State} (hgv : (Jvm.Cond.and given_1 narrow_1).before A s = true) : zNcs s := by
  have hs := flat_of_before _ hgv
  have h12 : va_Nc (zEn 1) (zEn 2) s := va_Nc.of (hs (Cond.not (.castable "java/lang/IndexOutOfBoundsException" "java/lang/IllegalArgumentException")) (by decide +kernel))
  have h13 : va_Nc (zEn 1) (zEn 3) s := va_Nc.of (hs (Cond.not (.castable "java/lang/IndexOutOfBoundsException" "java/lang/IllegalStateException")) (by decide +kernel))
  have h21 : va_Nc (zEn 2) (zEn 1) s := va_Nc.of (hs (Cond.not (.castable "java/lang/IllegalArgumentException" "java/lang/IndexOutOfBoundsException")) (by decide +kernel))
  have h23 : va_Nc (zEn 2) (zEn 3) s := va_Nc.of (hs (Cond.not (.castable "java/lang/IllegalArgumentException" "java/lang/IllegalStateException")) (by decide +kernel))
  have h31 : va_Nc (zEn 3) (zEn 1) s := va_Nc.of (hs (Cond.not (.castable "java/lang/IllegalStateException" "java/lang/IndexOutOfBoundsException")) (by decide +kernel))
  have h32 : va_Nc (zEn 3) (zEn 2) s := va_Nc.of (hs (Cond.not (.castable "java/lang/IllegalStateException" "java/lang/IllegalArgumentException")) (by decide +kernel))
  intro a b h1 h2 h3
  rcases h1 with rfl | rfl | rfl <;> rcases h2 with rfl | rfl | rfl
  · exact absurd rfl h3
  · exact h12
  · exact h13
  · exact h21
  · exact absurd rfl h3
  · exact h23
  · exact h31
  · exact h32
  · exact absurd rfl h3
