/-! THE WORLD BY KEYS. Every object and array that the proof speaks of has a KEY (a number); 'ad' says where it lies, 'ty' what it is
(kind, length), and three tables say what it holds: I ints, L longs, P references (as keys). -/
/-- the classes and their slots, and the cells that are none of the world's (they stay as they are) -/
abbrev zDD : Type := va_G × (Nat → Option Cell)
def zN (ci : Nat) : Nat := match ci with
  | 0 => 6 | 1 => 2 | 2 => 6 | 3 => 8 | 4 => 11 | 5 => 4 | _ => 9
def zR (ci : Nat) : String := match ci with
  | 0 => RX0 | 1 => RX1 | 2 => RX2 | 3 => RX3 | 4 => RX4 | 5 => RX5 | _ => RX6
def zT (ci : Nat) : u_T := match ci with
  | 0 => TX0 | 1 => TX1 | 2 => TX2 | 3 => TX3 | 4 => TX4 | 5 => TX5 | _ => TX6
def zTy (ci : Nat) : Nat → FieldType := match ci with
  | 0 => tyX0 | 1 => tyX1 | 2 => tyX2 | 3 => tyX3 | 4 => tyX4 | 5 => tyX5 | _ => tyX6
def zEl (e : Nat) : FieldType := match e with
  | 0 => .int | 1 => .long | 2 => .int | 3 => .object RX0 | 4 => .object RX1 | 5 => .object RX3 | _ => .object RX4
def zkd (t : FieldType) : Nat := match t with
  | .long => 1 | .object _ => 2 | .array _ => 2 | _ => 0
def zv (ad : Nat → Nat) (t : FieldType) (x : Int32) (y : Int64) (q : Option Nat) : Value := match t with
  | .long => .long y | .object _ => va_rf (q.map ad) | .array _ => va_rf (q.map ad) | _ => .int x
theorem zv_i {ad : Nat → Nat} {t : FieldType} {x : Int32} {y : Int64} {q : Option Nat} (h : zkd t = 0) : zv ad t x y q = .int x := by
  cases t <;> first | rfl | (cases h)
theorem zv_l {ad : Nat → Nat} {t : FieldType} {x : Int32} {y : Int64} {q : Option Nat} (h : zkd t = 1) : zv ad t x y q = .long y := by
  cases t <;> first | rfl | (cases h)
theorem zv_r {ad : Nat → Nat} {t : FieldType} {x : Int32} {y : Int64} {q : Option Nat} (h : zkd t = 2) : zv ad t x y q = va_rf (q.map ad) := by
  cases t <;> first | rfl | (cases h)
/-- what is known of the classes: of the eight, and of the seven kinds of arrays -/
def zKn (D : zDD) (cA : Nat → ClassId) (U : State) : Prop := (∀ ci, ci < 8 → u_Kn U (zR ci) (zT ci) (zN ci) (D.1.1 ci) (D.1.2 ci)) ∧ ∀ e, e < 7 → ArrOfT U (cA e) (zEl e) ∧ va_RA U (cA e) (zEl e)
theorem zKn.moved {D : zDD} {cA : Nat → ClassId} {u U : State} (hvm : u.vm.Alike U.vm) (h : zKn D cA u) : zKn D cA U := ⟨fun c hc => u_Kn_moved hvm (h.1 c hc), fun k hk => ⟨arrOfT_moved hvm (h.2 k hk).1, (h.2 k hk).2.moved hvm⟩⟩
/-- the words of the tables that stay, as a method goes on -/
def zok (w : Cond) : Bool := match w with
  | .fieldLinkNest _ _ _ _ _ _ => true
  | .methodLinkNest _ _ _ _ => true
  | .castable _ _ => true
  | .declares _ => true
  | .arrayOver (.object _) => true
  | w => goodWord w
def zEnv (U : State) : Prop := ∀ w, w ∈ lw_tbl → zok w = true → w.before #[] U = true
theorem zok_at {A A' : Array Value} {s U : State} (hW : s.WarmedH U.vm) {w : Cond} (hg : zok w = true) (h : w.before A s = true) : w.before A' U = true := by
  have key : goodWord w = true → w.before A' U = true := fun hg => word_at hW (good_of_word hg) h
  cases w with
  | fieldLinkNest a i b n d h' => exact va_Nw.use rfl (va_Nw.warmF hW (va_Nw.of rfl h))
  | methodLinkNest a i x h' => exact va_Nw.use rfl (va_Nw.warmM hW (va_Nw.of rfl h))
  | arrayOver t =>
    cases t with
    | object C => exact va_AO.use (va_AO.moved hW.alike (va_AO.of h))
    | _ => exact key hg
  | declares x => exact va_Nw.use rfl (va_Nw.warmD hW (va_Nw.of rfl h))
  | castable a b => exact va_Nw.use rfl (va_Nw.warmC hW (va_Nw.of rfl h))
  | _ => exact key hg
theorem zEnv.warm {s U : State} (hW : s.WarmedH U.vm) (h : zEnv s) : zEnv U := fun w hw hg => zok_at hW hg (h w hw hg)
theorem zEnv.use {s : State} {A : Array Value} (h : zEnv s) {w : Cond} (hw : w ∈ lw_tbl) (hg : zok w = true) : w.before A s = true := zok_at (State.WarmedH.refl s) hg (h w hw hg)
theorem zEnv.of {s : State} {A : Array Value} (h : ∀ w ∈ lw_tbl, w.before A s = true) : zEnv s := fun w hw hg => zok_at (State.WarmedH.refl s) hg (h w hw)
theorem zok_calling {w : Cond} {A A' : Array Value} {U V : State} (hvm : U.vm = V.vm) (hg : zok w = true) (h : w.before A U = true) : w.before A' V = true := zok_at (by rw [← hvm]; exact State.WarmedH.refl U) hg h
/-- the nine texts, and the two statics of Throwable: they lie below the world's cells -/
def zstr : List (String × Nat × String) := [(RX6, 221, "an argument is out of range"), (RX6, 226, "there would be more than told"), (RX6, 214, "there is none of this number"), (RX6, 224, "both islands are the same"), (RX6, 95, "the span has a fault"), (RX6, 228, "the ship is not idle"), (RX6, 116, "the span has no fault"), (RX6, 148, "a rank is not below 0"), (RX6, 166, "a place is not below 0")]
def zSt (U : State) : Prop := ∀ q ∈ zstr, ∃ sa : Nat, vk_R q.1 q.2.1 q.2.2 sa U
def zX (base : Nat) (U : State) (H : Heap) : Prop := vx_Zq Bundle.tN "UNASSIGNED_STACK" Bundle.steD (fun q => base ≤ q) U H ∧ vx_Zq Bundle.tN "SUPPRESSED_SENTINEL" Bundle.listD (fun q => base ≤ q) U H
theorem zX.go {base : Nat} {u U : State} {H H1 : Heap} (hvm : u.vm.Alike U.vm) (hq : ∀ a : Nat, a < H.size → ¬ base ≤ a → H1[a]? = H[a]?) (h : zX base u H) : zX base U H1 := ⟨(h.1.moved hvm).kept hq, (h.2.moved hvm).kept hq⟩
/-- all that holds at any time: the words, the classes, what lies below 'base' -/
def zG (base : Nat) (D : zDD) (cA : Nat → ClassId) (U : State) : Prop := zEnv U ∧ zKn D cA U ∧ zX base U U.heap ∧ zSt U ∧ base ≤ U.heap.size
theorem zG.go {base : Nat} {D : zDD} {cA : Nat → ClassId} {s U : State} {H : Heap} {locs : List Loc} (h : zG base D cA s) (hS : va_S (fun q => base ≤ q) s.heap H locs) (hU : U.heap = H) (hW : s.WarmedH U.vm) : zG base D cA U := by
  obtain ⟨h1, h2, h3, h4, h5⟩ := h
  refine ⟨h1.warm hW, h2.moved hW.alike, ?_, fun q hq => ?_, ?_⟩
  · rw [hU]
    exact h3.go hW.alike fun a h6 h7 => hS.2.1 a h6 h7
  · obtain ⟨sa, h6⟩ := h4 q hq
    exact ⟨sa, h6.warm hW⟩
  · rw [hU]
    exact Nat.le_trans h5 hS.1
theorem zG.calling {base : Nat} {D : zDD} {cA : Nat → ClassId} {U : State} (h : zG base D cA U) (a : Array Value) (g : JFrame) (mk : MethodId) : zG base D cA (U.calling g mk a) := by
  have hv : U.vm = (U.calling g mk a).vm := rfl
  have hW : U.WarmedH (U.calling g mk a).vm := by rw [← hv]; exact State.WarmedH.refl U
  exact h.go (locs := []) va_S.rf rfl hW
/-- where a cell of the world lies: an object, or an array -/
def zAt (D : zDD) (cA : Nat → ClassId) (ad : Nat → Nat) (t : Nat × Nat) (i : Nat → Int32) (j : Nat → Int64) (r : Nat → Option Nat) (a : Nat) (H : Heap) : Prop :=
  if t.1 < 8 then t_OB a (D.1.1 t.1) (zN t.1) (D.1.2 t.1) H (fun k => zv ad (zTy t.1 k) (i k) (j k) (r k))
  else H[a]? = some (arrV (cA (t.1 - 8)) t.2 (fun k => zv ad (zEl (t.1 - 8)) (i k) (j k) (r k)))
abbrev zTyp : Type := Nat → Option (Nat × Nat)
abbrev zIt : Type := Nat → Nat → Int32
abbrev zLt : Type := Nat → Nat → Int64
abbrev zPt : Type := Nat → Nat → Option Nat
def zW (base : Nat) (D : zDD) (cA : Nat → ClassId) (ad : Nat → Nat) (ty : zTyp) (I : zIt) (L : zLt) (P : zPt) (H : Heap) : Prop :=
  (∀ κ t, ty κ = some t → zAt D cA ad t (I κ) (L κ) (P κ) (ad κ) H ∧ base ≤ ad κ ∧ ad κ < H.size ∧ t.1 < 15) ∧
  ((∀ κ κ' t t', ty κ = some t → ty κ' = some t' → ad κ = ad κ' → κ = κ') ∧ ∀ (a : Nat) (x : Cell), D.2 a = some x → H[a]? = some x ∧ ∀ κ t, ty κ = some t → ad κ ≠ a) ∧
  ∀ κ k κ', P κ k = some κ' → ∃ t, ty κ' = some t
abbrev zH (base : Nat) (D : zDD) (cA : Nat → ClassId) (s : State) (H : Heap) (locs : List Loc) (ad : Nat → Nat) (ty : zTyp) (I : zIt) (L : zLt) (P : zPt) : Prop :=
  zW base D cA ad ty I L P H ∧ va_S (fun q => base ≤ q) s.heap H locs
/-- one place of a table set anew -/
def zu {α : Type} (f : Nat → Nat → α) (κ k : Nat) (x : α) : Nat → Nat → α := fun a b => if a = κ ∧ b = k then x else f a b
theorem zu_self {α : Type} (f : Nat → Nat → α) (κ k : Nat) (x : α) : zu f κ k x κ k = x := by simp [zu]
theorem zu_ne {α : Type} (f : Nat → Nat → α) {κ k κ' k' : Nat} (x : α) (h : ¬ (κ' = κ ∧ k' = k)) : zu f κ k x κ' k' = f κ' k' := by simp [zu, h]
theorem zAt.kept {D : zDD} {cA : Nat → ClassId} {ad : Nat → Nat} {t : Nat × Nat} {i : Nat → Int32} {j : Nat → Int64} {r : Nat → Option Nat} {a : Nat} {H H1 : Heap} (h : zAt D cA ad t i j r a H) (hq : H1[a]? = H[a]?) : zAt D cA ad t i j r a H1 := by
  unfold zAt at h ⊢
  split
  · rename_i h1
    rw [if_pos h1] at h
    exact h.kept hq
  · rename_i h1
    rw [if_neg h1] at h
    exact hq.trans h
theorem zAt.obj {D : zDD} {cA : Nat → ClassId} {ad : Nat → Nat} {t : Nat × Nat} {i : Nat → Int32} {j : Nat → Int64} {r : Nat → Option Nat} {a : Nat} {H : Heap} (h8 : t.1 < 8) : zAt D cA ad t i j r a H ↔ t_OB a (D.1.1 t.1) (zN t.1) (D.1.2 t.1) H (fun k => zv ad (zTy t.1 k) (i k) (j k) (r k)) := by
  unfold zAt
  rw [if_pos h8]
theorem zAt.arr {D : zDD} {cA : Nat → ClassId} {ad : Nat → Nat} {e n : Nat} {i : Nat → Int32} {j : Nat → Int64} {r : Nat → Option Nat} {a : Nat} {H : Heap} : zAt D cA ad (8 + e, n) i j r a H ↔ H[a]? = some (arrV (cA e) n (fun k => zv ad (zEl e) (i k) (j k) (r k))) := by
  unfold zAt
  rw [if_neg (by simp), Nat.add_sub_cancel_left]
/-- a cell of the world written: the tables change at this key alone -/
theorem zW.put {base : Nat} {D : zDD} {cA : Nat → ClassId} {ad : Nat → Nat} {ty : zTyp} {I I' : zIt} {L L' : zLt} {P P' : zPt} {H H1 : Heap} {κ : Nat} {t : Nat × Nat} (h : zW base D cA ad ty I L P H) (hty : ty κ = some t)
    (hI : ∀ κ', κ' ≠ κ → I' κ' = I κ') (hL : ∀ κ', κ' ≠ κ → L' κ' = L κ') (hP : ∀ κ', κ' ≠ κ → P' κ' = P κ') (hPc : ∀ k κ', P' κ k = some κ' → ∃ t, ty κ' = some t)
    (he : zAt D cA ad t (I' κ) (L' κ) (P' κ) (ad κ) H1) (hz : H1.size = H.size) (oq : ∀ q : Nat, q ≠ ad κ → H1[q]? = H[q]?) : zW base D cA ad ty I' L' P' H1 := by
  obtain ⟨h1, ⟨h2, h4⟩, h3⟩ := h
  refine ⟨fun κ' t' ht' => ?_, ⟨h2, fun a x hx => ⟨(oq a (Ne.symm ((h4 a x hx).2 κ t hty))).trans (h4 a x hx).1, (h4 a x hx).2⟩⟩, fun κ' k κ2 hp => ?_⟩
  · obtain ⟨g1, g2, g3, g4⟩ := h1 κ' t' ht'
    refine ⟨?_, g2, by rw [hz]; exact g3, g4⟩
    by_cases hk : κ' = κ
    · subst hk
      cases hty.symm.trans ht'
      exact he
    · rw [hI _ hk, hL _ hk, hP _ hk]
      exact g1.kept (oq _ fun e => hk (h2 _ _ _ _ ht' hty e))
  · by_cases hk : κ' = κ
    · subst hk
      exact hPc k κ2 hp
    · rw [hP _ hk] at hp
      exact h3 κ' k κ2 hp
theorem zW.kept {base : Nat} {D : zDD} {cA : Nat → ClassId} {ad : Nat → Nat} {ty : zTyp} {I : zIt} {L : zLt} {P : zPt} {H H1 : Heap} (h : zW base D cA ad ty I L P H) (hz : H.size ≤ H1.size) (hq : ∀ q : Nat, q < H.size → H1[q]? = H[q]?) : zW base D cA ad ty I L P H1 := by
  obtain ⟨h1, ⟨h2, h4⟩, h3⟩ := h
  refine ⟨fun κ t ht => ?_, ⟨h2, fun a x hx => ⟨(hq a (Array.getElem?_eq_some_iff.mp (h4 a x hx).1).1).trans (h4 a x hx).1, (h4 a x hx).2⟩⟩, h3⟩
  obtain ⟨g1, g2, g3, g4⟩ := h1 κ t ht
  exact ⟨g1.kept (hq _ g3), g2, Nat.lt_of_lt_of_le g3 hz, g4⟩
/-- a function with one place set anew -/
def zs {α : Type} (f : Nat → α) (κ : Nat) (x : α) : Nat → α := fun a => if a = κ then x else f a
theorem zs_self {α : Type} (f : Nat → α) (κ : Nat) (x : α) : zs f κ x κ = x := by simp [zs]
theorem zs_ne {α : Type} (f : Nat → α) {κ a : Nat} (x : α) (h : a ≠ κ) : zs f κ x a = f a := by simp [zs, h]
theorem zv_ad {ad ad' : Nat → Nat} {t : FieldType} {x : Int32} {y : Int64} {q : Option Nat} (h : ∀ κ, q = some κ → ad' κ = ad κ) : zv ad' t x y q = zv ad t x y q := by
  cases q with
  | none => cases t <;> rfl
  | some κ => cases t <;> simp [zv, h κ rfl]
/-- a cell made: it gets a key that is free -/
theorem zW.make {base : Nat} {D : zDD} {cA : Nat → ClassId} {ad : Nat → Nat} {ty : zTyp} {I : zIt} {L : zLt} {P : zPt} {H H1 : Heap} (h : zW base D cA ad ty I L P H) {κ : Nat} {t : Nat × Nat} (hfree : ty κ = none) (ht : t.1 < 15) (hb : base ≤ H.size)
    (he : zAt D cA (zs ad κ H.size) t (fun _ => 0) (fun _ => 0) (fun _ => none) H.size H1) (hz : H1.size = H.size + 1) (oq : ∀ q : Nat, q < H.size → H1[q]? = H[q]?) :
    zW base D cA (zs ad κ H.size) (zs ty κ (some t)) (zs I κ (fun _ => 0)) (zs L κ (fun _ => 0)) (zs P κ (fun _ => none)) H1 := by
  obtain ⟨h1, ⟨h2, h4⟩, h3⟩ := h
  have key : ∀ κ' t', zs ty κ (some t) κ' = some t' → (κ' = κ ∧ t' = t) ∨ (κ' ≠ κ ∧ ty κ' = some t') := by
    intro κ' t' ht'
    by_cases hk : κ' = κ
    · subst hk
      rw [zs_self] at ht'
      cases ht'
      exact Or.inl ⟨rfl, rfl⟩
    · rw [zs_ne _ _ hk] at ht'
      exact Or.inr ⟨hk, ht'⟩
  refine ⟨fun κ' t' ht' => ?_, ⟨fun κ1 κ2 t1 t2 e1 e2 e3 => ?_, fun a x hx => ?_⟩, fun κ' k κ2 hp => ?_⟩
  · rcases key κ' t' ht' with ⟨rfl, rfl⟩ | ⟨hk, h4⟩
    · simp only [zs_self]
      exact ⟨he, hb, by omega, ht⟩
    · obtain ⟨g1, g2, g3, g4⟩ := h1 κ' t' h4
      simp only [zs_ne _ _ hk]
      refine ⟨?_, g2, by omega, g4⟩
      have g5 := g1.kept (oq _ g3)
      have hv : ∀ (T : FieldType) (x : Int32) (y : Int64) (k : Nat), zv (zs ad κ H.size) T x y (P κ' k) = zv ad T x y (P κ' k) := fun T x y k => zv_ad fun κ2 hp => by
        obtain ⟨t2, ht2⟩ := h3 κ' k κ2 hp
        exact zs_ne _ _ (fun e => by rw [e, hfree] at ht2; cases ht2)
      unfold zAt at g5 ⊢
      simp only [hv]
      exact g5
  · rcases key κ1 t1 e1 with ⟨rfl, -⟩ | ⟨n1, h4⟩ <;> rcases key κ2 t2 e2 with ⟨rfl, -⟩ | ⟨n2, h5⟩
    · rfl
    · rw [zs_self, zs_ne _ _ n2] at e3
      have := (h1 κ2 t2 h5).2.2.1
      omega
    · rw [zs_self, zs_ne _ _ n1] at e3
      have := (h1 κ1 t1 h4).2.2.1
      omega
    · rw [zs_ne _ _ n1, zs_ne _ _ n2] at e3
      exact h2 κ1 κ2 t1 t2 h4 h5 e3
  · have ha := (Array.getElem?_eq_some_iff.mp (h4 a x hx).1).1
    refine ⟨(oq a ha).trans (h4 a x hx).1, fun κ' t' ht' => ?_⟩
    rcases key κ' t' ht' with ⟨rfl, -⟩ | ⟨n1, h5⟩
    · rw [zs_self]
      exact fun q => absurd ha (by rw [← q]; exact Nat.lt_irrefl _)
    · rw [zs_ne _ _ n1]
      exact (h4 a x hx).2 κ' t' h5
  · by_cases hk : κ' = κ
    · rw [hk, zs_self] at hp
      cases hp
    · rw [zs_ne _ _ hk] at hp
      obtain ⟨t2, ht2⟩ := h3 κ' k κ2 hp
      exact ⟨t2, by rw [zs_ne _ _ (fun e => by rw [e, hfree] at ht2; cases ht2)]; exact ht2⟩
