/-! TWO CHARTS in one heap, their cells apart: what one chart's methods do leaves the other as it is -/
def zTw (base : Nat) (G : va_G) (cA : Nat → ClassId) (ad ad' : Nat → Nat) (ty ty' : zTyp) (I I' : zIt) (L L' : zLt) (P P' : zPt) (H : Heap) : Prop :=
  zW base (G, fun _ => none) cA ad ty I L P H ∧ zW base (G, fun _ => none) cA ad' ty' I' L' P' H ∧ ∀ κ κ' t t', ty κ = some t → ty' κ' = some t' → ad κ ≠ ad' κ'
/-- the other chart's cells -/
noncomputable def zfo (ad : Nat → Nat) (ty : zTyp) (H : Heap) : Nat → Option Cell := fun a => @ite _ (∃ κ t, ty κ = some t ∧ ad κ = a) (Classical.propDecidable _) H[a]? none
theorem zfo_some {ad : Nat → Nat} {ty : zTyp} {H : Heap} {a : Nat} {x : Cell} (h : zfo ad ty H a = some x) : H[a]? = some x ∧ ∃ κ t, ty κ = some t ∧ ad κ = a := by
  unfold zfo at h
  by_cases q : ∃ κ t, ty κ = some t ∧ ad κ = a
  · rw [if_pos q] at h
    exact ⟨h, q⟩
  · rw [if_neg q] at h
    cases h
theorem zfo_at {ad : Nat → Nat} {ty : zTyp} {H : Heap} {κ : Nat} {t : Nat × Nat} (h : ty κ = some t) : zfo ad ty H (ad κ) = H[ad κ]? := by
  unfold zfo
  exact if_pos ⟨κ, t, h, rfl⟩
section ZTW
variable {base : Nat} {G : va_G} {cA : Nat → ClassId} {ad ad' ad2 : Nat → Nat} {ty ty' ty2 : zTyp} {I I' I2 : zIt} {L L' L2 : zLt} {P P' P2 : zPt} {H H2 : Heap}
theorem zW.fr0 {fo : Nat → Option Cell} (h : zW base (G, fo) cA ad ty I L P H) : zW base (G, fun _ => none) cA ad ty I L P H :=
  ⟨h.1, ⟨h.2.1.1, fun a x hx => by cases hx⟩, h.2.2⟩
theorem zTw.out (h : zTw base G cA ad ad' ty ty' I I' L L' P P' H) : zW base (G, zfo ad' ty' H) cA ad ty I L P H :=
  ⟨h.1.1, ⟨h.1.2.1.1, fun a x hx => ⟨(zfo_some hx).1, fun κ t ht e => by
    obtain ⟨-, κ', t', h1, h2⟩ := zfo_some hx
    exact h.2.2 κ κ' t t' ht h1 (e.trans h2.symm)⟩⟩, h.1.2.2⟩
theorem zTw.back (h : zTw base G cA ad ad' ty ty' I I' L L' P P' H) (hn : zW base (G, zfo ad' ty' H) cA ad2 ty2 I2 L2 P2 H2) : zTw base G cA ad2 ad' ty2 ty' I2 I' L2 L' P2 P' H2 := by
  have key : ∀ κ t, ty' κ = some t → ∃ x, H[ad' κ]? = some x ∧ H2[ad' κ]? = some x ∧ ∀ κ2 t2, ty2 κ2 = some t2 → ad2 κ2 ≠ ad' κ := by
    intro κ t ht
    have h1 := (h.2.1.1 κ t ht).2.2.1
    have h2 : H[ad' κ]? = some (H[ad' κ]'h1) := Array.getElem?_eq_getElem h1
    have h3 := hn.2.1.2 (ad' κ) _ ((zfo_at ht).trans h2)
    exact ⟨_, h2, h3.1, h3.2⟩
  refine ⟨hn.fr0, ⟨fun κ t ht => ?_, ⟨h.2.1.2.1.1, fun a x hx => by cases hx⟩, h.2.1.2.2⟩, fun κ κ' t t' h1 h2 => ?_⟩
  · obtain ⟨x, q1, q2, -⟩ := key κ t ht
    obtain ⟨g1, g2, g3, g4⟩ := h.2.1.1 κ t ht
    exact ⟨g1.kept (q2.trans q1.symm), g2, (Array.getElem?_eq_some_iff.mp q2).1, g4⟩
  · obtain ⟨x, -, -, q3⟩ := key κ' t' h2
    exact q3 κ t h1
theorem zTw.swap (h : zTw base G cA ad ad' ty ty' I I' L L' P P' H) : zTw base G cA ad' ad ty' ty I' I L' L P' P H :=
  ⟨h.2.1, h.1, fun κ κ' t t' h1 h2 e => h.2.2 κ' κ t' t h2 h1 e.symm⟩
theorem zM.fr {p : Program} {s : State} {m : MethodId} {c : Code} {cc : ByteArray} {own : String} {nL : Nat} {fo : Nat → Option Cell} (fo' : Nat → Option Cell) (M : zM p s m c cc own nL base (G, fo) cA) : zM p s m c cc own nL base (G, fo') cA := M
end ZTW
