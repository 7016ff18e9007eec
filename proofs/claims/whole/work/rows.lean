section
-- ===== PART A: goes FIRST, ahead of the names: the tables' words, and 'selects' of the private methods out of them =====
/-- a private method of a class that the tables say can be made, by its rows of tables_1 -/
def lw_okq (q : MethodName × Nat) : Prop := (q.1.cls ≠ "java/lang/invoke/MethodHandle" ∧ q.1.cls ≠ "java/lang/invoke/VarHandle") ∧ Cond.instantiable q.1.cls q.2 ∈ tables_1 ∧ Cond.privateMethod q.1 ∈ tables_1 ∧ Cond.instanceMethod q.1 ∈ tables_1
theorem lw_p0 : lw_okq (⟨"java/lang/Throwable", "fillInStackTrace", "(I)Ljava/lang/Throwable;"⟩, 6) := ⟨⟨by decide +kernel, by decide +kernel⟩, List.mem_of_getElem? (i := 141) (by decide +kernel), List.mem_of_getElem? (i := 139) (by decide +kernel), List.mem_of_getElem? (i := 140) (by decide +kernel)⟩
theorem lw_p1 : lw_okq (⟨"CableChart", "checkSpan", "(II)V"⟩, 9) := ⟨⟨by decide +kernel, by decide +kernel⟩, List.mem_of_getElem? (i := 18) (by decide +kernel), List.mem_of_getElem? (i := 288) (by decide +kernel), List.mem_of_getElem? (i := 289) (by decide +kernel)⟩
theorem lw_p2 : lw_okq (⟨"CableChart", "setOff", "(LCableChart$Ship;II)I"⟩, 9) := ⟨⟨by decide +kernel, by decide +kernel⟩, List.mem_of_getElem? (i := 18) (by decide +kernel), List.mem_of_getElem? (i := 368) (by decide +kernel), List.mem_of_getElem? (i := 369) (by decide +kernel)⟩
theorem lw_p3 : lw_okq (⟨"CableChart", "arrive", "(LCableChart$Ship;)V"⟩, 9) := ⟨⟨by decide +kernel, by decide +kernel⟩, List.mem_of_getElem? (i := 18) (by decide +kernel), List.mem_of_getElem? (i := 383) (by decide +kernel), List.mem_of_getElem? (i := 384) (by decide +kernel)⟩
theorem lw_p4 : lw_okq (⟨"CableChart", "hasItsFault", "(LCableChart$Ship;)Z"⟩, 9) := ⟨⟨by decide +kernel, by decide +kernel⟩, List.mem_of_getElem? (i := 18) (by decide +kernel), List.mem_of_getElem? (i := 387) (by decide +kernel), List.mem_of_getElem? (i := 388) (by decide +kernel)⟩
theorem lw_p5 : lw_okq (⟨"CableChart", "passHour", "()V"⟩, 9) := ⟨⟨by decide +kernel, by decide +kernel⟩, List.mem_of_getElem? (i := 18) (by decide +kernel), List.mem_of_getElem? (i := 484) (by decide +kernel), List.mem_of_getElem? (i := 485) (by decide +kernel)⟩
theorem lw_p6 : lw_okq (⟨"CableChart", "workHour", "(LCableChart$Ship;)V"⟩, 9) := ⟨⟨by decide +kernel, by decide +kernel⟩, List.mem_of_getElem? (i := 18) (by decide +kernel), List.mem_of_getElem? (i := 488) (by decide +kernel), List.mem_of_getElem? (i := 489) (by decide +kernel)⟩
theorem lw_p7 : lw_okq (⟨"CableChart", "goOn", "(LCableChart$Ship;)V"⟩, 9) := ⟨⟨by decide +kernel, by decide +kernel⟩, List.mem_of_getElem? (i := 18) (by decide +kernel), List.mem_of_getElem? (i := 492) (by decide +kernel), List.mem_of_getElem? (i := 493) (by decide +kernel)⟩
theorem lw_p8 : lw_okq (⟨"CableChart", "mend", "(LCableChart$Ship;)V"⟩, 9) := ⟨⟨by decide +kernel, by decide +kernel⟩, List.mem_of_getElem? (i := 18) (by decide +kernel), List.mem_of_getElem? (i := 496) (by decide +kernel), List.mem_of_getElem? (i := 497) (by decide +kernel)⟩
theorem lw_p9 : lw_okq (⟨"CableChart", "findStaleWays", "()V"⟩, 9) := ⟨⟨by decide +kernel, by decide +kernel⟩, List.mem_of_getElem? (i := 18) (by decide +kernel), List.mem_of_getElem? (i := 504) (by decide +kernel), List.mem_of_getElem? (i := 505) (by decide +kernel)⟩
theorem lw_p10 : lw_okq (⟨"CableChart$Net", "measureTo", "(I)V"⟩, 6) := ⟨⟨by decide +kernel, by decide +kernel⟩, List.mem_of_getElem? (i := 28) (by decide +kernel), List.mem_of_getElem? (i := 516) (by decide +kernel), List.mem_of_getElem? (i := 517) (by decide +kernel)⟩
theorem lw_p11 : lw_okq (⟨"CableChart$Net", "nearestBeside", "(I)I"⟩, 6) := ⟨⟨by decide +kernel, by decide +kernel⟩, List.mem_of_getElem? (i := 28) (by decide +kernel), List.mem_of_getElem? (i := 524) (by decide +kernel), List.mem_of_getElem? (i := 525) (by decide +kernel)⟩
theorem lw_p12 : lw_okq (⟨"CableChart$Net", "spreadFrom", "(I)V"⟩, 6) := ⟨⟨by decide +kernel, by decide +kernel⟩, List.mem_of_getElem? (i := 28) (by decide +kernel), List.mem_of_getElem? (i := 528) (by decide +kernel), List.mem_of_getElem? (i := 529) (by decide +kernel)⟩
theorem lw_p13 : lw_okq (⟨"CableChart$Net", "lowestBestCable", "(I)I"⟩, 6) := ⟨⟨by decide +kernel, by decide +kernel⟩, List.mem_of_getElem? (i := 28) (by decide +kernel), List.mem_of_getElem? (i := 547) (by decide +kernel), List.mem_of_getElem? (i := 548) (by decide +kernel)⟩
theorem lw_p14 : lw_okq (⟨"CableChart$Trader", "credit", "(I)V"⟩, 11) := ⟨⟨by decide +kernel, by decide +kernel⟩, List.mem_of_getElem? (i := 405) (by decide +kernel), List.mem_of_getElem? (i := 559) (by decide +kernel), List.mem_of_getElem? (i := 560) (by decide +kernel)⟩
theorem lw_p15 : lw_okq (⟨"CableChart$Net", "lowerSum", "(III)V"⟩, 6) := ⟨⟨by decide +kernel, by decide +kernel⟩, List.mem_of_getElem? (i := 28) (by decide +kernel), List.mem_of_getElem? (i := 630) (by decide +kernel), List.mem_of_getElem? (i := 631) (by decide +kernel)⟩
def lw_privs_1 : List (MethodName × Nat) := [(⟨"java/lang/Throwable", "fillInStackTrace", "(I)Ljava/lang/Throwable;"⟩, 6), (⟨"CableChart", "checkSpan", "(II)V"⟩, 9), (⟨"CableChart", "setOff", "(LCableChart$Ship;II)I"⟩, 9), (⟨"CableChart", "arrive", "(LCableChart$Ship;)V"⟩, 9), (⟨"CableChart", "hasItsFault", "(LCableChart$Ship;)Z"⟩, 9), (⟨"CableChart", "passHour", "()V"⟩, 9), (⟨"CableChart", "workHour", "(LCableChart$Ship;)V"⟩, 9), (⟨"CableChart", "goOn", "(LCableChart$Ship;)V"⟩, 9), (⟨"CableChart", "mend", "(LCableChart$Ship;)V"⟩, 9), (⟨"CableChart", "findStaleWays", "()V"⟩, 9), (⟨"CableChart$Net", "measureTo", "(I)V"⟩, 6), (⟨"CableChart$Net", "nearestBeside", "(I)I"⟩, 6), (⟨"CableChart$Net", "spreadFrom", "(I)V"⟩, 6), (⟨"CableChart$Net", "lowestBestCable", "(I)I"⟩, 6), (⟨"CableChart$Trader", "credit", "(I)V"⟩, 11), (⟨"CableChart$Net", "lowerSum", "(III)V"⟩, 6)]
theorem lw_r1 : ∀ q ∈ lw_privs_1, lw_okq q := List.forall_mem_cons.mpr ⟨lw_p0, List.forall_mem_cons.mpr ⟨lw_p1, List.forall_mem_cons.mpr ⟨lw_p2, List.forall_mem_cons.mpr ⟨lw_p3, List.forall_mem_cons.mpr ⟨lw_p4, List.forall_mem_cons.mpr ⟨lw_p5, List.forall_mem_cons.mpr ⟨lw_p6, List.forall_mem_cons.mpr ⟨lw_p7, List.forall_mem_cons.mpr ⟨lw_p8, List.forall_mem_cons.mpr ⟨lw_p9, List.forall_mem_cons.mpr ⟨lw_p10, List.forall_mem_cons.mpr ⟨lw_p11, List.forall_mem_cons.mpr ⟨lw_p12, List.forall_mem_cons.mpr ⟨lw_p13, List.forall_mem_cons.mpr ⟨lw_p14, List.forall_mem_cons.mpr ⟨lw_p15, fun _ h => absurd h List.not_mem_nil⟩⟩⟩⟩⟩⟩⟩⟩⟩⟩⟩⟩⟩⟩⟩⟩
theorem lw_p16 : lw_okq (⟨"CableChartModel", "goesWell", "(I)Z"⟩, 31) := ⟨⟨by decide +kernel, by decide +kernel⟩, List.mem_of_getElem? (i := 652) (by decide +kernel), List.mem_of_getElem? (i := 764) (by decide +kernel), List.mem_of_getElem? (i := 765) (by decide +kernel)⟩
theorem lw_p17 : lw_okq (⟨"CableChartModel", "isIsland", "(I)Z"⟩, 31) := ⟨⟨by decide +kernel, by decide +kernel⟩, List.mem_of_getElem? (i := 652) (by decide +kernel), List.mem_of_getElem? (i := 772) (by decide +kernel), List.mem_of_getElem? (i := 773) (by decide +kernel)⟩
theorem lw_p18 : lw_okq (⟨"CableChartModel", "isCable", "(I)Z"⟩, 31) := ⟨⟨by decide +kernel, by decide +kernel⟩, List.mem_of_getElem? (i := 652) (by decide +kernel), List.mem_of_getElem? (i := 780) (by decide +kernel), List.mem_of_getElem? (i := 781) (by decide +kernel)⟩
theorem lw_p19 : lw_okq (⟨"CableChartModel", "isSpan", "(II)Z"⟩, 31) := ⟨⟨by decide +kernel, by decide +kernel⟩, List.mem_of_getElem? (i := 652) (by decide +kernel), List.mem_of_getElem? (i := 788) (by decide +kernel), List.mem_of_getElem? (i := 789) (by decide +kernel)⟩
theorem lw_p20 : lw_okq (⟨"CableChartModel", "placeOf", "(I)I"⟩, 31) := ⟨⟨by decide +kernel, by decide +kernel⟩, List.mem_of_getElem? (i := 652) (by decide +kernel), List.mem_of_getElem? (i := 792) (by decide +kernel), List.mem_of_getElem? (i := 793) (by decide +kernel)⟩
theorem lw_p21 : lw_okq (⟨"CableChartModel", "isShip", "(I)Z"⟩, 31) := ⟨⟨by decide +kernel, by decide +kernel⟩, List.mem_of_getElem? (i := 652) (by decide +kernel), List.mem_of_getElem? (i := 804) (by decide +kernel), List.mem_of_getElem? (i := 805) (by decide +kernel)⟩
theorem lw_p22 : lw_okq (⟨"CableChartModel", "sail", "(IIII)I"⟩, 31) := ⟨⟨by decide +kernel, by decide +kernel⟩, List.mem_of_getElem? (i := 652) (by decide +kernel), List.mem_of_getElem? (i := 811) (by decide +kernel), List.mem_of_getElem? (i := 812) (by decide +kernel)⟩
theorem lw_p23 : lw_okq (⟨"CableChartModel", "come", "(I)V"⟩, 31) := ⟨⟨by decide +kernel, by decide +kernel⟩, List.mem_of_getElem? (i := 652) (by decide +kernel), List.mem_of_getElem? (i := 818) (by decide +kernel), List.mem_of_getElem? (i := 819) (by decide +kernel)⟩
theorem lw_p24 : lw_okq (⟨"CableChartModel", "goOn", "(I)V"⟩, 31) := ⟨⟨by decide +kernel, by decide +kernel⟩, List.mem_of_getElem? (i := 652) (by decide +kernel), List.mem_of_getElem? (i := 835) (by decide +kernel), List.mem_of_getElem? (i := 836) (by decide +kernel)⟩
theorem lw_p25 : lw_okq (⟨"CableChartModel", "mend", "(I)V"⟩, 31) := ⟨⟨by decide +kernel, by decide +kernel⟩, List.mem_of_getElem? (i := 652) (by decide +kernel), List.mem_of_getElem? (i := 839) (by decide +kernel), List.mem_of_getElem? (i := 840) (by decide +kernel)⟩
theorem lw_p26 : lw_okq (⟨"CableChartModel", "hourOf", "(I)V"⟩, 31) := ⟨⟨by decide +kernel, by decide +kernel⟩, List.mem_of_getElem? (i := 652) (by decide +kernel), List.mem_of_getElem? (i := 843) (by decide +kernel), List.mem_of_getElem? (i := 844) (by decide +kernel)⟩
theorem lw_p27 : lw_okq (⟨"CableChartModel", "findWays", "(I)V"⟩, 31) := ⟨⟨by decide +kernel, by decide +kernel⟩, List.mem_of_getElem? (i := 652) (by decide +kernel), List.mem_of_getElem? (i := 847) (by decide +kernel), List.mem_of_getElem? (i := 848) (by decide +kernel)⟩
theorem lw_p28 : lw_okq (⟨"CableChartModel", "doesWork", "(I)Z"⟩, 31) := ⟨⟨by decide +kernel, by decide +kernel⟩, List.mem_of_getElem? (i := 652) (by decide +kernel), List.mem_of_getElem? (i := 852) (by decide +kernel), List.mem_of_getElem? (i := 853) (by decide +kernel)⟩
theorem lw_p29 : lw_okq (⟨"CableChartModel", "costs", "(I)J"⟩, 31) := ⟨⟨by decide +kernel, by decide +kernel⟩, List.mem_of_getElem? (i := 652) (by decide +kernel), List.mem_of_getElem? (i := 856) (by decide +kernel), List.mem_of_getElem? (i := 857) (by decide +kernel)⟩
theorem lw_p30 : lw_okq (⟨"CableChartModel", "isTrader", "(I)Z"⟩, 31) := ⟨⟨by decide +kernel, by decide +kernel⟩, List.mem_of_getElem? (i := 652) (by decide +kernel), List.mem_of_getElem? (i := 878) (by decide +kernel), List.mem_of_getElem? (i := 879) (by decide +kernel)⟩
theorem lw_p31 : lw_okq (⟨"CableChartModel", "next", "(I)I"⟩, 31) := ⟨⟨by decide +kernel, by decide +kernel⟩, List.mem_of_getElem? (i := 652) (by decide +kernel), List.mem_of_getElem? (i := 882) (by decide +kernel), List.mem_of_getElem? (i := 883) (by decide +kernel)⟩
def lw_privs_2 : List (MethodName × Nat) := [(⟨"CableChartModel", "goesWell", "(I)Z"⟩, 31), (⟨"CableChartModel", "isIsland", "(I)Z"⟩, 31), (⟨"CableChartModel", "isCable", "(I)Z"⟩, 31), (⟨"CableChartModel", "isSpan", "(II)Z"⟩, 31), (⟨"CableChartModel", "placeOf", "(I)I"⟩, 31), (⟨"CableChartModel", "isShip", "(I)Z"⟩, 31), (⟨"CableChartModel", "sail", "(IIII)I"⟩, 31), (⟨"CableChartModel", "come", "(I)V"⟩, 31), (⟨"CableChartModel", "goOn", "(I)V"⟩, 31), (⟨"CableChartModel", "mend", "(I)V"⟩, 31), (⟨"CableChartModel", "hourOf", "(I)V"⟩, 31), (⟨"CableChartModel", "findWays", "(I)V"⟩, 31), (⟨"CableChartModel", "doesWork", "(I)Z"⟩, 31), (⟨"CableChartModel", "costs", "(I)J"⟩, 31), (⟨"CableChartModel", "isTrader", "(I)Z"⟩, 31), (⟨"CableChartModel", "next", "(I)I"⟩, 31)]
theorem lw_r2 : ∀ q ∈ lw_privs_2, lw_okq q := List.forall_mem_cons.mpr ⟨lw_p16, List.forall_mem_cons.mpr ⟨lw_p17, List.forall_mem_cons.mpr ⟨lw_p18, List.forall_mem_cons.mpr ⟨lw_p19, List.forall_mem_cons.mpr ⟨lw_p20, List.forall_mem_cons.mpr ⟨lw_p21, List.forall_mem_cons.mpr ⟨lw_p22, List.forall_mem_cons.mpr ⟨lw_p23, List.forall_mem_cons.mpr ⟨lw_p24, List.forall_mem_cons.mpr ⟨lw_p25, List.forall_mem_cons.mpr ⟨lw_p26, List.forall_mem_cons.mpr ⟨lw_p27, List.forall_mem_cons.mpr ⟨lw_p28, List.forall_mem_cons.mpr ⟨lw_p29, List.forall_mem_cons.mpr ⟨lw_p30, List.forall_mem_cons.mpr ⟨lw_p31, fun _ h => absurd h List.not_mem_nil⟩⟩⟩⟩⟩⟩⟩⟩⟩⟩⟩⟩⟩⟩⟩⟩
theorem lw_p32 : lw_okq (⟨"CableChartModel", "across", "(II)I"⟩, 31) := ⟨⟨by decide +kernel, by decide +kernel⟩, List.mem_of_getElem? (i := 652) (by decide +kernel), List.mem_of_getElem? (i := 886) (by decide +kernel), List.mem_of_getElem? (i := 887) (by decide +kernel)⟩
def lw_privs_3 : List (MethodName × Nat) := [(⟨"CableChartModel", "across", "(II)I"⟩, 31)]
theorem lw_r3 : ∀ q ∈ lw_privs_3, lw_okq q := List.forall_mem_cons.mpr ⟨lw_p32, fun _ h => absurd h List.not_mem_nil⟩
def lw_privs : List (MethodName × Nat) := lw_privs_1 ++ (lw_privs_2 ++ (lw_privs_3))
def lw_tbl : List Cond := k2_sels lw_privs ++ tables_1
theorem lw_privs_ok : ∀ q ∈ lw_privs, lw_okq q := by
  show ∀ q ∈ lw_privs_1 ++ (lw_privs_2 ++ (lw_privs_3)), lw_okq q
  exact List.forall_mem_append.mpr ⟨lw_r1, List.forall_mem_append.mpr ⟨lw_r2, lw_r3⟩⟩
-- ===== end of PART A; then your names; then what follows =====
/-! ===== BEGIN words of one list among another's, by their places ===== -/
theorem goodIn_r {big : List Cond} (ws : List Cond) (ps : List Nat) (hp : ws = ps.filterMap (fun i => big[i]?)) (h : ws.all goodWord = true) : GoodIn big ws := by
  intro w hw
  have h1 := List.all_eq_true.mp h w hw
  rw [hp] at hw
  obtain ⟨i, -, hi⟩ := List.mem_filterMap.mp hw
  have hm : w ∈ big := by first | exact List.mem_of_getElem? hi | exact List.getElem?_mem hi
  exact ⟨hm, good_of_word h1⟩
theorem goodIn_app {big a b : List Cond} (ha : GoodIn big a) (hb : GoodIn big b) : GoodIn big (a ++ b) := fun w h => (List.mem_append.mp h).elim (ha w) (hb w)
theorem goodIn_ca {big a b : List Cond} {c : Cond} (ha : GoodIn big (c :: a)) (hb : GoodIn big b) : GoodIn big (c :: (a ++ b)) := fun w h => (List.mem_cons.mp h).elim (fun e => ha w (List.mem_cons.mpr (Or.inl e))) (fun h => (List.mem_append.mp h).elim (fun h => ha w (List.mem_cons.mpr (Or.inr h))) (hb w))
theorem goodIn_sub {big ws : List Cond} (hm : ∀ w ∈ ws, w ∈ big) (h : ws.all goodWord = true) : GoodIn big ws := fun w hw => ⟨hm w hw, good_of_word (List.all_eq_true.mp h w hw)⟩
/-! ===== END ===== -/

/-! ===== BEGIN exceptions that leave a method, and their catching by the caller (launches without stack traces) ===== -/
section VXA
/-! The laws vx_back, vx_callV, vx_callS, vx_callSW, vx_throw0, vx_throwS follow proofs of the library, with one case more: JvmDerived/Free/Laws.lean (Back.of_free), Shelf42/LK1.lean (callV, callS), Shelf/KitTraced.lean (throwNew0V, throwNewS). -/
/-- where a method has thrown q: the class by its name, the cell, what was written, the world -/
def vx_T (XC : String → State → State → Prop) (st : State) (q : Addr) (t : State) (mc ms : Nat) (free : Addr → Prop) : Prop :=
  ∃ (E : String) (ce : Cell) (L : List Loc), XC E st t ∧ t.heap[q]? = some ce ∧ ce.vm = .none ∧ st.vm.findClass E = some ce.cls ∧ st.WarmedH t.vm ∧ st.sameButNew ({ t with vm := st.vm } : State) L mc ms ∧ ∀ z ∈ L, free z.base
def vx_Q (Qc : Array Value → State → Outcome → State → Prop) (XC : String → State → State → Prop) (mc ms : Nat) (free : Addr → Prop) : Array Value → State → Outcome → State → Prop := fun a st o t =>
  (Qc a st o t ∧ ∃ L, FrameEnd st o t L mc ms ∧ ∀ q ∈ L, free q.base) ∨ ∃ q, o = .threw q ∧ vx_T XC st q t mc ms free
/-- a callee that returns or throws -/
def vx_Met (l : Launch) (y : MethodName) (ws : List Cond) (rm : Room) (Pc : Array Value → State → Prop) (Qc : Array Value → State → Outcome → State → Prop) (XC : String → State → State → Prop) (mc ms : Nat) (free : Addr → Prop) : Prop :=
  MetFree l y (headSpec ws rm) Pc (fun _ _ _ _ _ => True) (vx_Q Qc XC mc ms free)
def vx_Post (XC : String → State → State → Prop) (mc ms : Nat) (free : Addr → Prop) : Pt → Array Value → Addr → Pt → Prop := fun A a q B =>
  ∃ (g : JFrame) (mk : MethodId) (t : State) (L : List Loc) (E : String) (ce : Cell), B.U.heap = t.heap ∧ B.U.vm = t.vm ∧ XC E (A.U.calling g mk a) t ∧ t.heap[q]? = some ce ∧ ce.vm = .none ∧ A.U.vm.findClass E = some ce.cls ∧ B.locs = A.locs ++ L ∧ (∀ z ∈ L, free z.base) ∧ B.cells = A.cells + mc ∧ B.slots = A.slots + ms
def vx_Back (l : Launch) (R : Room) (p : Program) (e : Env) (below : List Frame) (s : State) (sargs : Array Value) (y : MethodName) (len W9 : Nat)
    (Pre : Pt → Array Value → Prop) (Post : Pt → Array Value → Option Value → Pt → Prop) (PostX : Pt → Array Value → Addr → Pt → Prop) : Prop :=
  ∀ (m : MethodId) (meth : Method) (c : Code) (A : Pt) (g : JFrame) (ig : Instr) (mk : MethodId) (a : Array Value),
    Stand p l e R s m sargs below meth c A.U A.locs A.cells A.slots → g.method = m → g.locals.size = c.maxLocals → decode c.code g.pc = .ok (ig, len) →
    2 * g.monitorRoom + (g.stack.map fun v => v.category).sum ≤ W9 → A.U.methodNamed? y = some mk → Pre A a →
    (∃ (v : Option Value) (B : Pt), Stand p l e R s m sargs below meth c B.U B.locs B.cells B.slots ∧ Post A a v B ∧
      Steps p.tables e below (doInvoke e (A.U.setTop g) [] mk a).1 (B.U.setTop { g with pc := g.pc + len, stack := v.toList ++ g.stack })) ∨
    (∃ (q : Addr) (B : Pt), Stand p l e R s m sargs below meth c B.U B.locs B.cells B.slots ∧ PostX A a q B ∧
      Steps p.tables e below (doInvoke e (A.U.setTop g) [] mk a).1 ((B.U.setTop g).pushFrame (.throwing q)))
section Payer
variable {l : Launch} {R : Room} {p : Program} {e : Env} {below : List Frame} {s : State} {sargs : Array Value} {y : MethodName} {len W9 : Nat}
theorem vx_back {ws : List Cond} {rm : Room} {Pc : Array Value → State → Prop} {Qc : Array Value → State → Outcome → State → Prop} {XC : String → State → State → Prop} {mc ms : Nat} {free : Addr → Prop} {bytes : ByteArray} {maxL : Nat} {ret : Option FieldType}
    (hM : vx_Met l y ws rm Pc Qc XC mc ms free) (hblind : FrameBlind Pc) (hrc : rm.cells = mc) (hrs : rm.slots = ms)
    (hframes : rm.frames + 1 ≤ R.frames) (hlocals : W9 + (maxL + 11) + rm.locals ≤ R.locals)
    (hws : ∀ w ∈ ws, ∀ a' U, s.WarmedH U.vm → w.before a' U = true) (hcode : Cond.code y bytes maxL ret ∈ ws) (hinit : ∀ a' U, s.WarmedH U.vm → (Cond.initialized y.cls).before a' U = true) :
    vx_Back l R p e below s sargs y len W9 (PreOf R mc ms Pc) (PostOf Qc mc ms free) (vx_Post XC mc ms free) := by
  intro m meth c A g ig mk a X hg hsize hdg hW hn hp
  have h1 : (headSpec ws rm).pre.before a A.U = true := atoms_intro fun w hw => hws w hw _ _ X.warmed
  have h2 : (Cond.code y bytes maxL ret).before a A.U = true := hws _ hcode _ _ X.warmed
  have h3 : (Cond.initialized y.cls).before a A.U = true := hinit _ _ X.warmed
  have h4 : A.cells + (headSpec ws rm).room.cells ≤ R.cells := by rw [show (headSpec ws rm).room.cells = mc from hrc]; exact hp.1
  have h5 : A.slots + (headSpec ws rm).room.slots ≤ R.slots := by rw [show (headSpec ws rm).room.slots = ms from hrs]; exact hp.2.1
  have hPc : Pc a (A.U.calling g mk a) := hblind _ _ _ _ hp.2.2
  obtain ⟨U, Ls, c0, s0⟩ := A
  dsimp only [Pt.U, Pt.locs, Pt.cells, Pt.slots] at h1 h2 h3 h4 h5 X hn hPc ⊢
  obtain ⟨methY, cY, hmY, hcY, -, hlY, -, -, -, -⟩ := Cond.code_spec hn h2
  obtain ⟨kY, hkY, -⟩ := className_of_methodNamed hn
  have hinitY : kY.init = .initialized := Cond.initialized_spec (findClass_of_methodNamed hn) hkY h3
  have h : At U g.method c below := by rw [hg]; exact X.here
  have hlocals9 : W9 + (maxL + 11) + (headSpec ws rm).room.locals ≤ R.locals := hlocals
  have happ : (headSpec ws rm).appliesLoose y e.platform (U.calling g mk a) = true :=
    Spec.appliesLoose_calling (g := g) h hdg hn hkY hinitY
      (X.room_calling (g := g) (R' := (headSpec ws rm).room) hsize hmY hcY hframes (by rw [hlY]; omega) h4 h5) h1
  obtain ⟨mid, hmid⟩ := h.above
  have hfr : (U.setTop g).frames = (.java g :: mid) ++ below := by rw [State.frames_setTop' g h.top, hmid]; rfl
  obtain ⟨o, s₂, hsteps, -, hend, hq⟩ := Steps.callFree hM p X.admits X.cas X.clock (acts := []) hfr happ hPc trivial
  have hq' : vx_Q Qc XC mc ms free a (U.calling g mk a) o s₂ := hq
  rw [State.frames_setTop' g h.top] at hend
  obtain ⟨g₀, hg0⟩ := Option.isSome_iff_exists.mp h.top
  obtain ⟨r, hr⟩ := State.topJava?_eq_some.mp hg0
  have hr' : (({ U with heap := s₂.heap, slotsUsed := s₂.slotsUsed } : State).setVm s₂.vm).frames = .java g₀ :: r := hr
  rcases hq' with ⟨hqc, L, hfe, hL⟩ | ⟨q, rfl, E, ce, L, hx, hce, hcv, hcl, hW₂, hsm, hL⟩
  · obtain ⟨⟨v, rfl⟩, hW₂, e2, q2, q3, q4, q5, q6⟩ := id hfe
    have e3 : s₂ = ({ (U.calling g mk a).setFrames s₂.frames with heap := s₂.heap, slotsUsed := s₂.slotsUsed } : State).setVm s₂.vm := by
      have : s₂ = ({ s₂ with vm := (U.calling g mk a).vm } : State).setVm s₂.vm := rfl
      rw [e2] at this
      exact this
    obtain ⟨c₂, i₂, len₂, hc₂, hd₂, hf₂⟩ := hend
    have hW' : U.WarmedH s₂.vm := hW₂
    have hcc : c₂ = c := by
      have h1 : s₂.code? g.method = U.code? g.method := by
        rw [State.code?_eq, State.code?_eq, hW'.alike.method?]
      exact Option.some.inj (hc₂.symm.trans (h1.trans h.code))
    subst hcc
    have hlen : len₂ = len := by rw [hdg] at hd₂; cases hd₂; rfl
    subst hlen
    have hs₂ : s₂ = (({ U with heap := s₂.heap, slotsUsed := s₂.slotsUsed } : State).setVm s₂.vm).setTop { g with pc := g.pc + len₂, stack := v.toList ++ g.stack } := by
      refine e3.trans ?_
      rw [hf₂, State.calling_eq h.top, State.setFrames_setFrames, State.setTop_of_frames _ hr', hr]
      rfl
    have hsame : U.sameButNew ({ U with heap := s₂.heap, slotsUsed := s₂.slotsUsed } : State) L mc ms := by
      refine ⟨?_, q2, q3, q4, q5, q6⟩
      obtain ⟨t, ht, -⟩ := State.frames_cons hr
      show ({ U with heap := s₂.heap, slotsUsed := s₂.slotsUsed } : State) = { U.setFrames U.frames with heap := s₂.heap, slotsUsed := s₂.slotsUsed }
      rw [State.setFrames_self ht]
    subst hg
    refine Or.inl ⟨v, ⟨(({ U with heap := s₂.heap, slotsUsed := s₂.slotsUsed } : State).setVm s₂.vm), Ls ++ L, c0 + mc, s0 + ms⟩,
      ⟨X.admits, X.cas, X.clock, X.frames, X.room, X.hears, X.method, X.code, (X.here.setHeapUsed s₂.heap s₂.slotsUsed).setVm hW'.alike, X.tail, State.WarmedH.trans X.warmed hW', X.limits, X.bytes, X.same.trans (hsame.setVm s.vm)⟩,
      ⟨g, mk, s₂, L, rfl, rfl, hqc, rfl, hL, rfl, rfl⟩, ?_⟩
    show Steps p.tables e below _ ((({ U with heap := s₂.heap, slotsUsed := s₂.slotsUsed } : State).setVm s₂.vm).setTop { g with pc := g.pc + len₂, stack := v.toList ++ g.stack })
    rw [← hs₂]
    exact hsteps
  · obtain ⟨e2, q2, q3, q4, q5, q6⟩ := id hsm
    have e3 : s₂ = ({ (U.calling g mk a).setFrames s₂.frames with heap := s₂.heap, slotsUsed := s₂.slotsUsed } : State).setVm s₂.vm := by
      have : s₂ = ({ s₂ with vm := (U.calling g mk a).vm } : State).setVm s₂.vm := rfl
      rw [e2] at this
      exact this
    have hf₂ : s₂.frames = .throwing q :: .java g :: U.frames.tail := hend
    have hW' : U.WarmedH s₂.vm := hW₂
    have hs₂ : s₂ = ((({ U with heap := s₂.heap, slotsUsed := s₂.slotsUsed } : State).setVm s₂.vm).setTop g).pushFrame (.throwing q) := by
      refine e3.trans ?_
      rw [hf₂, State.calling_eq h.top, State.setFrames_setFrames, State.pushFrame, State.frames_setTop _ hr', State.setTop_of_frames _ hr', State.setFrames_setFrames, hr]
      rfl
    have hsame : U.sameButNew ({ U with heap := s₂.heap, slotsUsed := s₂.slotsUsed } : State) L mc ms := by
      refine ⟨?_, q2, q3, q4, q5, q6⟩
      obtain ⟨t, ht, -⟩ := State.frames_cons hr
      show ({ U with heap := s₂.heap, slotsUsed := s₂.slotsUsed } : State) = { U.setFrames U.frames with heap := s₂.heap, slotsUsed := s₂.slotsUsed }
      rw [State.setFrames_self ht]
    subst hg
    refine Or.inr ⟨q, ⟨(({ U with heap := s₂.heap, slotsUsed := s₂.slotsUsed } : State).setVm s₂.vm), Ls ++ L, c0 + mc, s0 + ms⟩,
      ⟨X.admits, X.cas, X.clock, X.frames, X.room, X.hears, X.method, X.code, (X.here.setHeapUsed s₂.heap s₂.slotsUsed).setVm hW'.alike, X.tail, State.WarmedH.trans X.warmed hW', X.limits, X.bytes, X.same.trans (hsame.setVm s.vm)⟩,
      ⟨g, mk, s₂, L, E, ce, rfl, rfl, hx, hce, hcv, hcl, rfl, hL, rfl, rfl⟩, ?_⟩
    show Steps p.tables e below _ (((({ U with heap := s₂.heap, slotsUsed := s₂.slotsUsed } : State).setVm s₂.vm).setTop g).pushFrame (.throwing q))
    rw [← hs₂]
    exact hsteps
end Payer
section Calls
variable {p : Program} {l : Launch} {e : Env} {R : Room} {s : State} {m : MethodId} {args : Array Value} {below : List Frame} {meth : Method} {c : Code} {T : State} {locs : List Loc} {cells slots : Nat}
theorem vx_callV (X : Stand p l e R s m args below meth c T locs cells slots) (hexec : p.tables.exec = Jvm.exec) {own C : String} {index : Nat} {y : MethodName} {bytes : ByteArray} {maxL : Nat} {ret : Option FieldType}
    (hown : s.vm.findClass own = some m.cls) (hlink : (Cond.methodLink own index y).before args s = true) (hinst : (Cond.instanceMethod y).before args s = true) (hsel : (Cond.selects C y y).before args s = true)
    (hcode : (Cond.code y bytes maxL ret).before args s = true) (hy : y.cls ≠ "java/lang/invoke/MethodHandle" ∧ y.cls ≠ "java/lang/invoke/VarHandle")
    {W9 : Nat} {Pre : Pt → Array Value → Prop} {Post : Pt → Array Value → Option Value → Pt → Prop} {PostX : Pt → Array Value → Addr → Pt → Prop} (hK : vx_Back l R p e below s args y 3 W9 Pre Post PostX)
    {b : Addr} {cellB : Cell} (hcell : T.heap[b]? = some cellB) (hobj : cellB.vm.isStatics = false) (hcls : s.vm.findClass C = some cellB.cls)
    {g : JFrame} (hg : g.method = m) (hsize : g.locals.size = c.maxLocals) {argsL rest : List Value} (hlen : ∀ sig, parseMethodDescriptor y.desc = some sig → argsL.length = sig.parameters.length)
    (hstack : g.stack = argsL.reverse ++ .ref b :: rest) (hW : 2 * g.monitorRoom + (rest.map fun v => v.category).sum ≤ W9) (hdg : decode c.code g.pc = .ok (.invokevirtual index, 3))
    (hpre : ∀ vm₁, s.WarmedH vm₁ → Pre ⟨T.setVm vm₁, locs, cells, slots⟩ (Value.ref b :: argsL).toArray) :
    (∃ (v : Option Value) (vm₁ : Vm) (B : Pt), s.WarmedH vm₁ ∧ Stand p l e R s m args below meth c B.U B.locs B.cells B.slots ∧ Post ⟨T.setVm vm₁, locs, cells, slots⟩ (Value.ref b :: argsL).toArray v B ∧
      ∀ target, Steps p.tables e below (B.U.setTop { g with pc := g.pc + 3, stack := v.toList ++ rest }) target → Steps p.tables e below (T.setTop g) target) ∨
    (∃ (q : Addr) (vm₁ : Vm) (B : Pt), s.WarmedH vm₁ ∧ Stand p l e R s m args below meth c B.U B.locs B.cells B.slots ∧ PostX ⟨T.setVm vm₁, locs, cells, slots⟩ (Value.ref b :: argsL).toArray q B ∧
      Steps p.tables e below (T.setTop g) ((B.U.setTop { g with stack := rest }).pushFrame (.throwing q))) := by
  obtain ⟨mk, methM, hnamed, hmethM, hstM, habM⟩ := Cond.instanceMethod_spec hinst
  obtain ⟨methM', cM, hmethM', -, -, -, -, -, -, hsigM⟩ := Cond.code_spec hnamed hcode
  cases hmethM.symm.trans hmethM'
  obtain ⟨c2, r2, m2, q1, q2, q3, q4, kP, hkP, hkPi⟩ := Cond.selects_spec hsel
  cases hcls.symm.trans q1
  cases (State.methodFound?_of_named hnamed hy).symm.trans q2
  cases hnamed.symm.trans q3
  have hselP : selectMethod e.platform s.vm cellB.cls mk = .method mk := by rw [Launch.admits_selectMethod X.admits]; exact q4
  obtain ⟨vm₁, X₁, hstep₁⟩ := X.invokevirtual hexec hown hlink hnamed hmethM hstM hkP hkPi hy (a := b) (cell := cellB) hcell
    (fun z h => by rw [h] at hobj; cases hobj) hselP hmethM habM hkP hkPi (g := g) hg (argsL := argsL) (rest := rest) (hlen _ hsigM) hstack hdg
  rcases hK m meth c ⟨T.setVm vm₁, locs, cells, slots⟩ { g with stack := rest } (.invokevirtual index) mk (Value.ref b :: argsL).toArray X₁ hg hsize hdg hW (X₁.named hnamed) (hpre vm₁ X₁.warmed) with ⟨v, B, X', hpost, hsteps⟩ | ⟨q, B, X', hpost, hsteps⟩
  · exact Or.inl ⟨v, vm₁, B, X₁.warmed, X', hpost, fun target h => hstep₁ _ fun acts => by rw [doInvoke_state]; exact hsteps.trans h⟩
  · exact Or.inr ⟨q, vm₁, B, X₁.warmed, X', hpost, hstep₁ _ fun acts => by rw [doInvoke_state]; exact hsteps⟩
theorem vx_callS (X : Stand p l e R s m args below meth c T locs cells slots) (hexec : p.tables.exec = Jvm.exec) {own : String} {index : Nat} {y : MethodName} {bytes : ByteArray} {maxL : Nat} {ret : Option FieldType}
    (hown : s.vm.findClass own = some m.cls) (hlink : (Cond.methodLink own index y).before args s = true) (hstat : (Cond.static y).before args s = true) (hinit : (Cond.initialized y.cls).before args s = true)
    (hcode : (Cond.code y bytes maxL ret).before args s = true) (hy : y.cls ≠ "java/lang/invoke/MethodHandle" ∧ y.cls ≠ "java/lang/invoke/VarHandle")
    {W9 : Nat} {Pre : Pt → Array Value → Prop} {Post : Pt → Array Value → Option Value → Pt → Prop} {PostX : Pt → Array Value → Addr → Pt → Prop} (hK : vx_Back l R p e below s args y 3 W9 Pre Post PostX)
    {g : JFrame} (hg : g.method = m) (hsize : g.locals.size = c.maxLocals) {argsL rest : List Value} (hlen : ∀ sig, parseMethodDescriptor y.desc = some sig → argsL.length = sig.parameters.length)
    (hstack : g.stack = argsL.reverse ++ rest) (hW : 2 * g.monitorRoom + (rest.map fun v => v.category).sum ≤ W9) (hdg : decode c.code g.pc = .ok (.invokestatic index, 3))
    (hpre : ∀ vm₁, s.WarmedH vm₁ → Pre ⟨T.setVm vm₁, locs, cells, slots⟩ argsL.toArray) :
    (∃ (v : Option Value) (vm₁ : Vm) (B : Pt), s.WarmedH vm₁ ∧ Stand p l e R s m args below meth c B.U B.locs B.cells B.slots ∧ Post ⟨T.setVm vm₁, locs, cells, slots⟩ argsL.toArray v B ∧
      ∀ target, Steps p.tables e below (B.U.setTop { g with pc := g.pc + 3, stack := v.toList ++ rest }) target → Steps p.tables e below (T.setTop g) target) ∨
    (∃ (q : Addr) (vm₁ : Vm) (B : Pt), s.WarmedH vm₁ ∧ Stand p l e R s m args below meth c B.U B.locs B.cells B.slots ∧ PostX ⟨T.setVm vm₁, locs, cells, slots⟩ argsL.toArray q B ∧
      Steps p.tables e below (T.setTop g) ((B.U.setTop { g with stack := rest }).pushFrame (.throwing q))) := by
  obtain ⟨mk, hnamed⟩ := Cond.code_named hcode
  obtain ⟨methM, cM, hmethM, -, -, -, -, -, -, hsigM⟩ := Cond.code_spec hnamed hcode
  have hstatic : methM.isStatic = true := Cond.static_spec hnamed hmethM hstat
  obtain ⟨kP, hkP, -⟩ := className_of_methodNamed hnamed
  have hinitP : kP.init = .initialized := Cond.initialized_spec (findClass_of_methodNamed hnamed) hkP hinit
  obtain ⟨vm₁, X₁, hstep₁⟩ := X.invokestatic hexec hown hlink hnamed hmethM hstatic hkP hinitP hy (g := g) hg (argsL := argsL) (rest := rest) (hlen _ hsigM) hstack hdg
  rcases hK m meth c ⟨T.setVm vm₁, locs, cells, slots⟩ { g with stack := rest } (.invokestatic index) mk argsL.toArray X₁ hg hsize hdg hW (X₁.named hnamed) (hpre vm₁ X₁.warmed) with ⟨v, B, X', hpost, hsteps⟩ | ⟨q, B, X', hpost, hsteps⟩
  · exact Or.inl ⟨v, vm₁, B, X₁.warmed, X', hpost, fun target h => hstep₁ _ fun acts => by rw [doInvoke_state]; exact hsteps.trans h⟩
  · exact Or.inr ⟨q, vm₁, B, X₁.warmed, X', hpost, hstep₁ _ fun acts => by rw [doInvoke_state]; exact hsteps⟩
end Calls
theorem vx_cls {s : State} {T : State} {vm₁ : Vm} {E : String} {k : ClassId} (hW : s.WarmedH vm₁) (h : (T.setVm vm₁).vm.findClass E = some k) : s.vm.findClass E = some k := by
  have h1 : vm₁.findClass E = some k := h
  rw [hW.alike.findClass] at h1
  exact h1
/-- the method's frame g, with q thrown over it -/
def vx_W (p : Program) (l : Launch) (e : Env) (R : Room) (s : State) (m : MethodId) (args : Array Value) (below : List Frame) (meth : Method) (c : Code) (H : Heap) (locs : List Loc) (cells slots : Nat) (Q : State → Prop) (g : JFrame) (q : Addr) : Prop :=
  ∀ T : State, T.heap = H → Stand p l e R s m args below meth c T locs cells slots → ∃ t, Steps p.tables e below ((T.setTop g).pushFrame (.throwing q)) t ∧ Q t
def vx_Run (p : Program) (l : Launch) (e : Env) (R : Room) (s : State) (m : MethodId) (args : Array Value) (below : List Frame) (meth : Method) (c : Code) (H : Heap) (locs : List Loc) (cells slots mc ms : Nat) (g : JFrame) (rest : List Value) (Qa : State → Outcome → State → Prop) (XC : String → State → State → Prop) (free : Addr → Prop) : Prop :=
  ∀ T : State, T.heap = H → Stand p l e R s m args below meth c T locs cells slots →
    (∃ (v : Option Value) (st₀ t T' : State) (L : List Loc), st₀.heap = H ∧ Stand p l e R s m args below meth c T' (locs ++ L) (cells + mc) (slots + ms) ∧ (∀ q ∈ L, free q.base) ∧ T'.heap = t.heap ∧ T'.vm = t.vm ∧ Qa st₀ (.returned v) t ∧
      Goes p e below T g T' { g with pc := g.pc + 3, stack := v.toList ++ rest }) ∨
    (∃ (q : Addr) (st₀ t T' : State) (L : List Loc) (E : String) (ce : Cell), st₀.heap = H ∧ Stand p l e R s m args below meth c T' (locs ++ L) (cells + mc) (slots + ms) ∧ (∀ z ∈ L, free z.base) ∧ T'.heap = t.heap ∧ T'.vm = t.vm ∧ XC E st₀ t ∧ t.heap[q]? = some ce ∧ ce.vm = .none ∧ s.vm.findClass E = some ce.cls ∧
      Steps p.tables e below (T.setTop g) ((T'.setTop { g with stack := rest }).pushFrame (.throwing q)))
def vx_X {S : Type} (px : S → Prop) (B : String → S → State → Prop) (A : Nat → Prop) : String → State → State → Prop := fun E st t => ∃ u : S, px u ∧ B E u t ∧ va_F A st t
section Runs
variable {p : Program} {l : Launch} {e : Env} {R : Room} {s : State} {m : MethodId} {args : Array Value} {below : List Frame} {meth : Method} {c : Code} {H : Heap} {locs : List Loc} {cells slots : Nat}
variable {y : MethodName} {bytes cc : ByteArray} {maxL nL mc ms n index : Nat} {ret : Option FieldType} {ws : List Cond} {rm : Room} {Pc : Array Value → State → Prop} {Qc : Array Value → State → Outcome → State → Prop} {XC : String → State → State → Prop} {free : Addr → Prop} {Ts : List Cond} {own C : String} {b : Addr} {As rest : List Value} {g : JFrame}
theorem vx_callBack (cb : CallB R s args own index y bytes maxL ret ws rm mc ms n) (hM : vx_Met l y ws rm Pc Qc XC mc ms free) (hbl : FrameBlind Pc) : vx_Back l R p e below s args y 3 8 (PreOf R mc ms Pc) (PostOf Qc mc ms free) (vx_Post XC mc ms free) := by
  obtain ⟨hrc, hrs, hfr, hlo, hws, hcw, -, hini, -⟩ := cb
  exact vx_back (bytes := bytes) (maxL := maxL) (ret := ret) hM hbl hrc hrs hfr hlo hws hcw (fun a' U hW => word_at hW (Or.inl (by first | rfl | simp [Cond.onTables, Cond.keeps, Cond.steady])) hini)
theorem vx_runV (S : CallFix p m c cc nL s args Ts own) (hM : vx_Met l y ws rm Pc Qc XC mc ms free) (cw : CallW R s args own C index y bytes maxL ret ws rm mc ms n) (hp : PreV s H C b Pc As)
    (hg : g.method = m) (hn : As.length = n) (hsize : g.locals.size = nL) (hstack : g.stack = As.reverse ++ .ref b :: rest) (hW : 2 * g.monitorRoom + (rest.map fun v => v.category).sum ≤ 8) (hdg : decode cc g.pc = .ok (.invokevirtual index, 3)) (hf : cells + mc ≤ R.cells ∧ slots + ms ≤ R.slots) :
    vx_Run p l e R s m args below meth c H locs cells slots mc ms g rest (Qc (Value.ref b :: As).toArray) XC free := by
  have hK : vx_Back l R p e below s args y 3 8 (PreOf R mc ms Pc) (PostOf Qc mc ms free) (vx_Post XC mc ms free) := vx_callBack cw.1 hM hp.1
  obtain ⟨⟨-, -, -, -, -, -, hcode, -, hy, hlen, hl⟩, hin, hse⟩ := cw
  obtain ⟨hx, hb, hml, ho, -⟩ := S
  obtain ⟨-, ⟨cellB, hcB, hoB, hclB⟩, hPc⟩ := hp
  intro T hT X
  rcases vx_callV X hx (C := C) (bytes := bytes) (maxL := maxL) (ret := ret) ho hl hin hse hcode hy hK (by rw [hT]; exact hcB) hoB hclB hg (hsize.trans hml.symm) (argsL := As) (rest := rest) (fun sig h => hn.trans (hlen sig h)) hstack hW (by rw [hb]; exact hdg)
    (fun vm₁ hW₁ => ⟨hf.1, hf.2, hPc (T.setVm vm₁) hT hW₁⟩) with ⟨v, vm₁, ⟨U', l2, c2, s2⟩, hW₁, X', ⟨g', mk, t, L, e1, e2, hq, h1, hL, h2, h3⟩, st⟩ | ⟨q, vm₁, ⟨U', l2, c2, s2⟩, hW₁, X', ⟨g', mk, t, L, E, ce, e1, e2, hq, hce, hcv, hcl, h1, hL, h2, h3⟩, st⟩
  · dsimp only [Pt.U, Pt.locs, Pt.cells, Pt.slots] at X' e1 e2 h1 h2 h3 st
    subst h1; subst h2; subst h3
    exact Or.inl ⟨v, (T.setVm vm₁).calling g' mk (Value.ref b :: As).toArray, t, U', L, hT, X', hL, e1, e2, hq, st⟩
  · dsimp only [Pt.U, Pt.locs, Pt.cells, Pt.slots] at X' e1 e2 h1 h2 h3 st hcl
    subst h1; subst h2; subst h3
    exact Or.inr ⟨q, (T.setVm vm₁).calling g' mk (Value.ref b :: As).toArray, t, U', L, E, ce, hT, X', hL, e1, e2, hq, hce, hcv, vx_cls hW₁ hcl, st⟩
theorem vx_runS (S : CallFix p m c cc nL s args Ts own) (hM : vx_Met l y ws rm Pc Qc XC mc ms free) (cw : CallB R s args own index y bytes maxL ret ws rm mc ms n ∧ (Cond.static y).before args s = true) (hp : PreS s H Pc As)
    (hg : g.method = m) (hn : As.length = n) (hsize : g.locals.size = nL) (hstack : g.stack = As.reverse ++ rest) (hW : 2 * g.monitorRoom + (rest.map fun v => v.category).sum ≤ 8) (hdg : decode cc g.pc = .ok (.invokestatic index, 3)) (hf : cells + mc ≤ R.cells ∧ slots + ms ≤ R.slots) :
    vx_Run p l e R s m args below meth c H locs cells slots mc ms g rest (Qc As.toArray) XC free := by
  have hK : vx_Back l R p e below s args y 3 8 (PreOf R mc ms Pc) (PostOf Qc mc ms free) (vx_Post XC mc ms free) := vx_callBack cw.1 hM hp.1
  obtain ⟨⟨-, -, -, -, -, -, hcode, hini, hy, hlen, hl⟩, hstt⟩ := cw
  obtain ⟨hx, hb, hml, ho, -⟩ := S
  intro T hT X
  rcases vx_callS X hx (bytes := bytes) (maxL := maxL) (ret := ret) ho hl hstt hini hcode hy hK hg (hsize.trans hml.symm) (argsL := As) (rest := rest) (fun sig h => hn.trans (hlen sig h)) hstack hW (by rw [hb]; exact hdg)
    (fun vm₁ hW₁ => ⟨hf.1, hf.2, hp.2 (T.setVm vm₁) hT hW₁⟩) with ⟨v, vm₁, ⟨U', l2, c2, s2⟩, hW₁, X', ⟨g', mk, t, L, e1, e2, hq, h1, hL, h2, h3⟩, st⟩ | ⟨q, vm₁, ⟨U', l2, c2, s2⟩, hW₁, X', ⟨g', mk, t, L, E, ce, e1, e2, hq, hce, hcv, hcl, h1, hL, h2, h3⟩, st⟩
  · dsimp only [Pt.U, Pt.locs, Pt.cells, Pt.slots] at X' e1 e2 h1 h2 h3 st
    subst h1; subst h2; subst h3
    exact Or.inl ⟨v, (T.setVm vm₁).calling g' mk As.toArray, t, U', L, hT, X', hL, e1, e2, hq, st⟩
  · dsimp only [Pt.U, Pt.locs, Pt.cells, Pt.slots] at X' e1 e2 h1 h2 h3 st hcl
    subst h1; subst h2; subst h3
    exact Or.inr ⟨q, (T.setVm vm₁).calling g' mk As.toArray, t, U', L, E, ce, hT, X', hL, e1, e2, hq, hce, hcv, vx_cls hW₁ hcl, st⟩
end Runs
section Rows
variable {p : Program} {l : Launch} {e : Env} {R : Room} {s : State} {m : MethodId} {args : Array Value} {below : List Frame} {meth : Method} {c : Code} {H : Heap} {locs : List Loc} {cells slots : Nat} {Q : State → Prop}
variable {mc ms : Nat} {free : Addr → Prop} {A0 A1 : Nat → Prop} {H0 : Heap} {a : Array Value} {pc : Nat} {ls : Array Slot} {st0 rest : List Value}
theorem vx_keep {st₀ t T' : State} {L : List Loc} (h0 : st₀.heap = H) (e1 : T'.heap = t.heap) (hS : va_S A0 H0 H locs) (hA : ∀ q, q < H.size → A1 q → A0 q) (hf : ∀ q, free q → A0 q) (hL : ∀ q ∈ L, free q.base) (hF : va_F A1 st₀ t) :
    H.size ≤ T'.heap.size ∧ (∀ q : Nat, q < H.size → ¬ A1 q → T'.heap[q]? = H[q]?) ∧ va_S A0 H0 T'.heap (locs ++ L) := by
  obtain ⟨hz, hk⟩ := hF
  rw [h0] at hz hk
  exact ⟨by rw [e1]; exact hz, fun q h1 h2 => by rw [e1]; exact hk q h1 h2,
    ⟨Nat.le_trans hS.1 (by rw [e1]; exact hz), fun q h1 h2 => by rw [e1, hk q (Nat.lt_of_lt_of_le h1 hS.1) (fun z => h2 (hA q (Nat.lt_of_lt_of_le h1 hS.1) z))]; exact hS.2.1 q h1 h2, fun q hq => by
      rcases List.mem_append.mp hq with h | h
      · exact hS.2.2 q h
      · exact hf _ (hL q h)⟩⟩
theorem vx_calli {S SX : Type} {post : Int32 → S → Prop} {px : SX → Prop} {B : S → State → Prop} {BX : String → SX → State → Prop} {AX : Nat → Prop} (hr : vx_Run p l e R s m args below meth c H locs cells slots mc ms (F0 m pc ls st0) rest (va_Qi post B A1 a) (vx_X px BX AX) free) (hS : va_S A0 H0 H locs) (hA : ∀ q, q < H.size → A1 q → A0 q) (hf : ∀ q, free q → A0 q) (hAX : ∀ q, q < H.size → AX q → A0 q)
    (kx : ∀ (E : String) (ce : Cell) (q9 : Addr) (u : SX) (t : State) (H1 : Heap) (locs1 : List Loc), t.heap = H1 → s.vm.Alike t.vm → px u → BX E u t → H.size ≤ H1.size → (∀ q : Nat, q < H.size → ¬ AX q → H1[q]? = H[q]?) → va_S A0 H0 H1 locs1 → H1[q9]? = some ce → ce.vm = .none → s.vm.findClass E = some ce.cls → vx_W p l e R s m args below meth c H1 locs1 (cells + mc) (slots + ms) Q (F0 m pc ls rest) q9)
    (kk : ∀ (r : Int32) (u : S) (t : State) (H1 : Heap) (locs1 : List Loc), t.heap = H1 → s.vm.Alike t.vm → post r u → B u t → H.size ≤ H1.size → (∀ q : Nat, q < H.size → ¬ A1 q → H1[q]? = H[q]?) → va_S A0 H0 H1 locs1 → W p l e R s m args below meth c H1 locs1 (cells + mc) (slots + ms) Q (F0 m (pc + 3) ls (.int r :: rest))) : W p l e R s m args below meth c H locs cells slots Q (F0 m pc ls st0) := by
  intro T hT X
  rcases hr T hT X with ⟨v, st₀, t, T', L, h0, X', hL, e1, e2, ⟨⟨r, u, hv, hp, hb⟩, hF⟩, st⟩ | ⟨q, st₀, t, T', L, E, ce, h0, X', hL, e1, e2, ⟨u, hp, hb, hF⟩, hce, hcv, hcl, st⟩
  · cases hv
    obtain ⟨k1, k2, k3⟩ := vx_keep h0 e1 hS hA hf hL hF
    obtain ⟨t2, a1, b1⟩ := kk r u t T'.heap (locs ++ L) e1.symm (by rw [← e2]; exact X'.warmed.alike) hp hb k1 k2 k3 T' rfl X'
    exact ⟨t2, st t2 a1, b1⟩
  · obtain ⟨k1, k2, k3⟩ := vx_keep h0 e1 hS hAX hf hL hF
    obtain ⟨t2, a1, b1⟩ := kx E ce q u t T'.heap (locs ++ L) e1.symm (by rw [← e2]; exact X'.warmed.alike) hp hb k1 k2 k3 (by rw [e1]; exact hce) hcv hcl T' rfl X'
    exact ⟨t2, st.trans a1, b1⟩
theorem vx_calll {S SX : Type} {post : Int64 → S → Prop} {px : SX → Prop} {B : S → State → Prop} {BX : String → SX → State → Prop} {AX : Nat → Prop} (hr : vx_Run p l e R s m args below meth c H locs cells slots mc ms (F0 m pc ls st0) rest (va_Ql post B A1 a) (vx_X px BX AX) free) (hS : va_S A0 H0 H locs) (hA : ∀ q, q < H.size → A1 q → A0 q) (hf : ∀ q, free q → A0 q) (hAX : ∀ q, q < H.size → AX q → A0 q)
    (kx : ∀ (E : String) (ce : Cell) (q9 : Addr) (u : SX) (t : State) (H1 : Heap) (locs1 : List Loc), t.heap = H1 → s.vm.Alike t.vm → px u → BX E u t → H.size ≤ H1.size → (∀ q : Nat, q < H.size → ¬ AX q → H1[q]? = H[q]?) → va_S A0 H0 H1 locs1 → H1[q9]? = some ce → ce.vm = .none → s.vm.findClass E = some ce.cls → vx_W p l e R s m args below meth c H1 locs1 (cells + mc) (slots + ms) Q (F0 m pc ls rest) q9)
    (kk : ∀ (r : Int64) (u : S) (t : State) (H1 : Heap) (locs1 : List Loc), t.heap = H1 → s.vm.Alike t.vm → post r u → B u t → H.size ≤ H1.size → (∀ q : Nat, q < H.size → ¬ A1 q → H1[q]? = H[q]?) → va_S A0 H0 H1 locs1 → W p l e R s m args below meth c H1 locs1 (cells + mc) (slots + ms) Q (F0 m (pc + 3) ls (.long r :: rest))) : W p l e R s m args below meth c H locs cells slots Q (F0 m pc ls st0) := by
  intro T hT X
  rcases hr T hT X with ⟨v, st₀, t, T', L, h0, X', hL, e1, e2, ⟨⟨r, u, hv, hp, hb⟩, hF⟩, st⟩ | ⟨q, st₀, t, T', L, E, ce, h0, X', hL, e1, e2, ⟨u, hp, hb, hF⟩, hce, hcv, hcl, st⟩
  · cases hv
    obtain ⟨k1, k2, k3⟩ := vx_keep h0 e1 hS hA hf hL hF
    obtain ⟨t2, a1, b1⟩ := kk r u t T'.heap (locs ++ L) e1.symm (by rw [← e2]; exact X'.warmed.alike) hp hb k1 k2 k3 T' rfl X'
    exact ⟨t2, st t2 a1, b1⟩
  · obtain ⟨k1, k2, k3⟩ := vx_keep h0 e1 hS hAX hf hL hF
    obtain ⟨t2, a1, b1⟩ := kx E ce q u t T'.heap (locs ++ L) e1.symm (by rw [← e2]; exact X'.warmed.alike) hp hb k1 k2 k3 (by rw [e1]; exact hce) hcv hcl T' rfl X'
    exact ⟨t2, st.trans a1, b1⟩
theorem vx_callf {S SX : Type} {post : UInt32 → S → Prop} {px : SX → Prop} {B : S → State → Prop} {BX : String → SX → State → Prop} {AX : Nat → Prop} (hr : vx_Run p l e R s m args below meth c H locs cells slots mc ms (F0 m pc ls st0) rest (va_Qf post B A1 a) (vx_X px BX AX) free) (hS : va_S A0 H0 H locs) (hA : ∀ q, q < H.size → A1 q → A0 q) (hf : ∀ q, free q → A0 q) (hAX : ∀ q, q < H.size → AX q → A0 q)
    (kx : ∀ (E : String) (ce : Cell) (q9 : Addr) (u : SX) (t : State) (H1 : Heap) (locs1 : List Loc), t.heap = H1 → s.vm.Alike t.vm → px u → BX E u t → H.size ≤ H1.size → (∀ q : Nat, q < H.size → ¬ AX q → H1[q]? = H[q]?) → va_S A0 H0 H1 locs1 → H1[q9]? = some ce → ce.vm = .none → s.vm.findClass E = some ce.cls → vx_W p l e R s m args below meth c H1 locs1 (cells + mc) (slots + ms) Q (F0 m pc ls rest) q9)
    (kk : ∀ (r : UInt32) (u : S) (t : State) (H1 : Heap) (locs1 : List Loc), t.heap = H1 → s.vm.Alike t.vm → post r u → B u t → H.size ≤ H1.size → (∀ q : Nat, q < H.size → ¬ A1 q → H1[q]? = H[q]?) → va_S A0 H0 H1 locs1 → W p l e R s m args below meth c H1 locs1 (cells + mc) (slots + ms) Q (F0 m (pc + 3) ls (.float r :: rest))) : W p l e R s m args below meth c H locs cells slots Q (F0 m pc ls st0) := by
  intro T hT X
  rcases hr T hT X with ⟨v, st₀, t, T', L, h0, X', hL, e1, e2, ⟨⟨r, u, hv, hp, hb⟩, hF⟩, st⟩ | ⟨q, st₀, t, T', L, E, ce, h0, X', hL, e1, e2, ⟨u, hp, hb, hF⟩, hce, hcv, hcl, st⟩
  · cases hv
    obtain ⟨k1, k2, k3⟩ := vx_keep h0 e1 hS hA hf hL hF
    obtain ⟨t2, a1, b1⟩ := kk r u t T'.heap (locs ++ L) e1.symm (by rw [← e2]; exact X'.warmed.alike) hp hb k1 k2 k3 T' rfl X'
    exact ⟨t2, st t2 a1, b1⟩
  · obtain ⟨k1, k2, k3⟩ := vx_keep h0 e1 hS hAX hf hL hF
    obtain ⟨t2, a1, b1⟩ := kx E ce q u t T'.heap (locs ++ L) e1.symm (by rw [← e2]; exact X'.warmed.alike) hp hb k1 k2 k3 (by rw [e1]; exact hce) hcv hcl T' rfl X'
    exact ⟨t2, st.trans a1, b1⟩
theorem vx_calld {S SX : Type} {post : UInt64 → S → Prop} {px : SX → Prop} {B : S → State → Prop} {BX : String → SX → State → Prop} {AX : Nat → Prop} (hr : vx_Run p l e R s m args below meth c H locs cells slots mc ms (F0 m pc ls st0) rest (va_Qd post B A1 a) (vx_X px BX AX) free) (hS : va_S A0 H0 H locs) (hA : ∀ q, q < H.size → A1 q → A0 q) (hf : ∀ q, free q → A0 q) (hAX : ∀ q, q < H.size → AX q → A0 q)
    (kx : ∀ (E : String) (ce : Cell) (q9 : Addr) (u : SX) (t : State) (H1 : Heap) (locs1 : List Loc), t.heap = H1 → s.vm.Alike t.vm → px u → BX E u t → H.size ≤ H1.size → (∀ q : Nat, q < H.size → ¬ AX q → H1[q]? = H[q]?) → va_S A0 H0 H1 locs1 → H1[q9]? = some ce → ce.vm = .none → s.vm.findClass E = some ce.cls → vx_W p l e R s m args below meth c H1 locs1 (cells + mc) (slots + ms) Q (F0 m pc ls rest) q9)
    (kk : ∀ (r : UInt64) (u : S) (t : State) (H1 : Heap) (locs1 : List Loc), t.heap = H1 → s.vm.Alike t.vm → post r u → B u t → H.size ≤ H1.size → (∀ q : Nat, q < H.size → ¬ A1 q → H1[q]? = H[q]?) → va_S A0 H0 H1 locs1 → W p l e R s m args below meth c H1 locs1 (cells + mc) (slots + ms) Q (F0 m (pc + 3) ls (.double r :: rest))) : W p l e R s m args below meth c H locs cells slots Q (F0 m pc ls st0) := by
  intro T hT X
  rcases hr T hT X with ⟨v, st₀, t, T', L, h0, X', hL, e1, e2, ⟨⟨r, u, hv, hp, hb⟩, hF⟩, st⟩ | ⟨q, st₀, t, T', L, E, ce, h0, X', hL, e1, e2, ⟨u, hp, hb, hF⟩, hce, hcv, hcl, st⟩
  · cases hv
    obtain ⟨k1, k2, k3⟩ := vx_keep h0 e1 hS hA hf hL hF
    obtain ⟨t2, a1, b1⟩ := kk r u t T'.heap (locs ++ L) e1.symm (by rw [← e2]; exact X'.warmed.alike) hp hb k1 k2 k3 T' rfl X'
    exact ⟨t2, st t2 a1, b1⟩
  · obtain ⟨k1, k2, k3⟩ := vx_keep h0 e1 hS hAX hf hL hF
    obtain ⟨t2, a1, b1⟩ := kx E ce q u t T'.heap (locs ++ L) e1.symm (by rw [← e2]; exact X'.warmed.alike) hp hb k1 k2 k3 (by rw [e1]; exact hce) hcv hcl T' rfl X'
    exact ⟨t2, st.trans a1, b1⟩
theorem vx_callv {S SX : Type} {post : S → Prop} {px : SX → Prop} {B : S → State → Prop} {BX : String → SX → State → Prop} {AX : Nat → Prop} (hr : vx_Run p l e R s m args below meth c H locs cells slots mc ms (F0 m pc ls st0) rest (va_Qv post B A1 a) (vx_X px BX AX) free) (hS : va_S A0 H0 H locs) (hA : ∀ q, q < H.size → A1 q → A0 q) (hf : ∀ q, free q → A0 q) (hAX : ∀ q, q < H.size → AX q → A0 q)
    (kx : ∀ (E : String) (ce : Cell) (q9 : Addr) (u : SX) (t : State) (H1 : Heap) (locs1 : List Loc), t.heap = H1 → s.vm.Alike t.vm → px u → BX E u t → H.size ≤ H1.size → (∀ q : Nat, q < H.size → ¬ AX q → H1[q]? = H[q]?) → va_S A0 H0 H1 locs1 → H1[q9]? = some ce → ce.vm = .none → s.vm.findClass E = some ce.cls → vx_W p l e R s m args below meth c H1 locs1 (cells + mc) (slots + ms) Q (F0 m pc ls rest) q9)
    (kk : ∀ (u : S) (t : State) (H1 : Heap) (locs1 : List Loc), t.heap = H1 → s.vm.Alike t.vm → post u → B u t → H.size ≤ H1.size → (∀ q : Nat, q < H.size → ¬ A1 q → H1[q]? = H[q]?) → va_S A0 H0 H1 locs1 → W p l e R s m args below meth c H1 locs1 (cells + mc) (slots + ms) Q (F0 m (pc + 3) ls (rest))) : W p l e R s m args below meth c H locs cells slots Q (F0 m pc ls st0) := by
  intro T hT X
  rcases hr T hT X with ⟨v, st₀, t, T', L, h0, X', hL, e1, e2, ⟨⟨u, hv, hp, hb⟩, hF⟩, st⟩ | ⟨q, st₀, t, T', L, E, ce, h0, X', hL, e1, e2, ⟨u, hp, hb, hF⟩, hce, hcv, hcl, st⟩
  · cases hv
    obtain ⟨k1, k2, k3⟩ := vx_keep h0 e1 hS hA hf hL hF
    obtain ⟨t2, a1, b1⟩ := kk u t T'.heap (locs ++ L) e1.symm (by rw [← e2]; exact X'.warmed.alike) hp hb k1 k2 k3 T' rfl X'
    exact ⟨t2, st t2 a1, b1⟩
  · obtain ⟨k1, k2, k3⟩ := vx_keep h0 e1 hS hAX hf hL hF
    obtain ⟨t2, a1, b1⟩ := kx E ce q u t T'.heap (locs ++ L) e1.symm (by rw [← e2]; exact X'.warmed.alike) hp hb k1 k2 k3 (by rw [e1]; exact hce) hcv hcl T' rfl X'
    exact ⟨t2, st.trans a1, b1⟩
/-- caught by the row x of this method's table; the rows ahead don't take it -/
theorem vx_catch {own name : String} {E : String} {ce : Cell} {q : Addr} (hown : s.vm.findClass own = some m.cls) (pre : List ExceptionTableEntry) (x : ExceptionTableEntry) (suf : List ExceptionTableEntry) (hsplit : c.exceptionTable.toList = pre ++ x :: suf)
    (hpass : ∀ z ∈ pre, covers z pc = false ∨ (z.catchType ≠ 0 ∧ ∃ nm : String, (Cond.classLink own z.catchType nm).before args s = true ∧ va_Nc E nm s)) (hx : covers x pc = true) (h0 : x.catchType ≠ 0)
    (hlink : (Cond.classLink own x.catchType name).before args s = true) (hcast : (Cond.castable E name).before args s = true) (hcell : H[q]? = some ce) (hv : ce.vm = .none) (hcl : s.vm.findClass E = some ce.cls)
    (kk : W p l e R s m args below meth c H locs cells slots Q (F0 m x.handlerPc ls [.ref q])) : vx_W p l e R s m args below meth c H locs cells slots Q (F0 m pc ls rest) q := by
  intro T hT X
  have hpl : e.platform.magicAccessors = ({} : Platform).magicAccessors := by rw [X.admits.platform]
  obtain ⟨c3, c4, hc3, hc4, hasg⟩ := Cond.castable_spec hcast
  cases Option.some.inj (hc3.symm.trans hcl)
  obtain ⟨c5, hc5, hcl5⟩ := Cond.classLink_spec hown hlink e.platform hpl
  cases Option.some.inj (hc4.symm.trans hc5)
  obtain ⟨vm', X', st⟩ := X.thenCaughtThrough q (g := F0 m pc ls rest) rfl (Steps.refl _) (by rw [hT]; exact hcell) (by rw [hv]; rfl) (by obtain ⟨k9, h9, -⟩ := Vm.findClass_spec hcl; exact ⟨k9, h9⟩) pre x suf hsplit
    (fun z hz => by
      rcases hpass z hz with h | ⟨hz0, nm, hl1, hn1⟩
      · exact Or.inl h
      · obtain ⟨c6, hc6, hcl6⟩ := Cond.classLink_spec hown hl1 e.platform hpl
        obtain ⟨a8, b8, h1, h2, h3⟩ := hn1
        cases Option.some.inj (h1.symm.trans hcl)
        cases Option.some.inj (h2.symm.trans hc6)
        exact Or.inr ⟨hz0, _, hcl6, h3⟩) hx (Or.inr ⟨h0, c4, hcl5, hasg⟩)
  obtain ⟨t, a1, b1⟩ := kk (T.setVm vm') hT X'
  exact ⟨t, st.trans a1, b1⟩
end Rows
section Ends
variable {p : Program} {l : Launch} {e : Env} {R : Room} {s : State} {m : MethodId} {args : Array Value} {below : List Frame} {meth : Method} {c : Code} {H : Heap} {locs : List Loc} {cells slots : Nat} {Q : State → Prop}
variable {mc ms : Nat} {free : Addr → Prop} {A0 A1 : Nat → Prop} {H0 : Heap} {a : Array Value} {ls : Array Slot} {st0 rest : List Value}
variable {Qc : Array Value → State → Outcome → State → Prop} {XC : String → State → State → Prop}
/-- what a body that may throw owes at its end -/
def vx_MQ (below : List Frame) (Qc : Array Value → State → Outcome → State → Prop) (XC : String → State → State → Prop) (a : Array Value) (s : State) (mc ms : Nat) (free : Addr → Prop) : State → Prop := fun t =>
  ∃ o, t.status = .running ∧ Ended t below o ∧ vx_Q Qc XC mc ms free a s o t
theorem vx_ret {g : JFrame} {mc ms : Nat} (k : W p l e R s m args below meth c H locs cells slots (MQ below Qc args s mc ms free) g) : W p l e R s m args below meth c H locs cells slots (vx_MQ below Qc XC args s mc ms free) g := by
  intro T hT X
  obtain ⟨t, a1, o, b1, b2, b3, b4⟩ := k T hT X
  exact ⟨t, a1, o, b1, b2, Or.inl ⟨b3, b4⟩⟩
/-- not caught here: it goes on to the caller -/
theorem vx_widen {g : JFrame} {q : Addr} {k n : Nat} (h1 : cells ≤ k) (h2 : slots ≤ n) (kk : vx_W p l e R s m args below meth c H locs k n Q g q) : vx_W p l e R s m args below meth c H locs cells slots Q g q := fun T hT X => kk T hT (stand_widen X h1 h2)
theorem vx_out {pc : Nat} {E : String} {ce : Cell} {q : Addr} {mc ms : Nat} (hout : ∀ x ∈ c.exceptionTable.toList, covers x pc = false) (hlocks : meth.locks = false) (hcell : H[q]? = some ce) (hv : ce.vm = .none) (hcl : s.vm.findClass E = some ce.cls)
    (hx : ∀ t : State, t.heap = H → s.vm.Alike t.vm → XC E s t) (hf : ∀ z ∈ locs, free z.base) (hc : cells ≤ mc) (hs : slots ≤ ms) :
    vx_W p l e R s m args below meth c H locs cells slots (vx_MQ below Qc XC args s mc ms free) (F0 m pc ls rest) q := by
  intro T hT X
  obtain ⟨st1, hrun, hend, hW, hsm⟩ := X.leaveThrown q (g := F0 m pc ls rest) rfl rfl rfl hout hlocks
  have hcell9 : (T.setFrames (.throwing q :: below)).heap[q]? = some ce := by
    show T.heap[q]? = some ce
    rw [hT]; exact hcell
  exact ⟨_, st1, .threw q, hrun, hend, Or.inr ⟨q, rfl, E, ce, locs, hx _ hT hW.alike, hcell9, hv, hcl, hW, hsm.mono hc hs, hf⟩⟩
theorem vx_frame {U : State} {k n : Nat} (h : s.sameButNew ({ U with vm := s.vm } : State) locs k n) : s.heap.size ≤ U.heap.size ∧ ∀ q : Nat, q < s.heap.size → (∀ z ∈ locs, z.base ≠ q) → U.heap[q]? = s.heap[q]? := by
  obtain ⟨-, h2, -, -, -, h6⟩ := h
  refine ⟨h2, fun q hq hz => ?_⟩
  obtain ⟨c9, e1, e2, e3, e4⟩ := h6 q _ (Array.getElem?_eq_getElem hq)
  have hs : c9.slots = (s.heap[q]).slots := Array.ext_getElem? fun i => e4 i fun hm => hz _ hm rfl
  have h9 : c9 = s.heap[q] := by
    rw [hs] at e2
    exact e2
  have e5 : U.heap[q]? = some c9 := e1
  rw [e5, h9, Array.getElem?_eq_getElem hq]
/-- the words of a throw but the four that speak of the heap -/
def vx_no (w : Cond) : Bool := decide (w ≠ .isRef (.static Bundle.tN "UNASSIGNED_STACK" Bundle.steD)) && decide (w ≠ .isRef (.static Bundle.tN "SUPPRESSED_SENTINEL" Bundle.listD)) && decide (w ≠ .laysStatic Bundle.tN "UNASSIGNED_STACK" Bundle.steD) && decide (w ≠ .laysStatic Bundle.tN "SUPPRESSED_SENTINEL" Bundle.listD)
def vx_at0 (own : String) (ic : Nat) (X : String) (names : List String) : List Cond := (Bundle.ownAtoms0 own ic X names).filter vx_no
def vx_atS (own : String) (ic : Nat) (X : String) (names : List String) : List Cond := (Bundle.ownAtoms own ic X names).filter vx_no
/-- a word that the tables alone decide, or a good one -/
def vx_ot (w : Cond) : Bool := w.onTables || goodWord w
theorem vx_ot_at {args a' : Array Value} {s U : State} {w : Cond} (hW : s.WarmedH U.vm) (hvm : s.vm = U.vm) (hg : vx_ot w = true) (h : w.before args s = true) : w.before a' U = true := by
  simp only [vx_ot, Bool.or_eq_true] at hg
  rcases hg with hg | hg
  · exact va_tabs hg hvm h
  · exact word_at hW (good_of_word hg) h
/-- a list's words: the good ones out of the method's own list, the others by premises of their own -/
theorem vx_hat {args : Array Value} {s : State} {L B : List Cond} (h1 : ∀ w ∈ L.filter goodWord, w.before args s = true) (h2 : ∀ w ∈ L.filter (fun w => !goodWord w), w ∈ B) (h3 : ∀ w ∈ B, w.before args s = true) : ∀ w ∈ L, w.before args s = true := by
  intro w hw
  by_cases g : goodWord w = true
  · exact h1 w (List.mem_filter.mpr ⟨hw, g⟩)
  · refine h3 w (h2 w (List.mem_filter.mpr ⟨hw, ?_⟩))
    show (!goodWord w) = true
    cases hgw : goodWord w
    · rfl
    · exact absurd hgw g
theorem vx_c {args : Array Value} {s : State} {w : Cond} {B : List Cond} (h : w.before args s = true) (t : ∀ w ∈ B, w.before args s = true) : ∀ w' ∈ w :: B, w'.before args s = true := fun w' h' => (List.mem_cons.mp h').elim (fun e => by rw [e]; exact h) (t w')
theorem vx_n {args : Array Value} {s : State} : ∀ w ∈ ([] : List Cond), w.before args s = true := fun _ h => nomatch h
theorem vx_own {args : Array Value} {s : State} {L : List Cond} (h1 : ∀ w ∈ L.filter vx_no, w.before args s = true)
    (hU : (Cond.isRef (.static Bundle.tN "UNASSIGNED_STACK" Bundle.steD)).before args s = true) (hN : (Cond.isRef (.static Bundle.tN "SUPPRESSED_SENTINEL" Bundle.listD)).before args s = true)
    (lU : (Cond.laysStatic Bundle.tN "UNASSIGNED_STACK" Bundle.steD).before args s = true) (lN : (Cond.laysStatic Bundle.tN "SUPPRESSED_SENTINEL" Bundle.listD).before args s = true) : ∀ w ∈ L, w.before args s = true := by
  intro w hw
  by_cases e1 : w = .isRef (.static Bundle.tN "UNASSIGNED_STACK" Bundle.steD)
  · rw [e1]; exact hU
  · by_cases e2 : w = .isRef (.static Bundle.tN "SUPPRESSED_SENTINEL" Bundle.listD)
    · rw [e2]; exact hN
    · by_cases e3 : w = .laysStatic Bundle.tN "UNASSIGNED_STACK" Bundle.steD
      · rw [e3]; exact lU
      · by_cases e4 : w = .laysStatic Bundle.tN "SUPPRESSED_SENTINEL" Bundle.listD
        · rw [e4]; exact lN
        · exact h1 w (List.mem_filter.mpr ⟨hw, by unfold vx_no; rw [decide_eq_true e1, decide_eq_true e2, decide_eq_true e3, decide_eq_true e4]; rfl⟩)
/-- where a static field lies, its class's statics cell in H -/
def vx_L (C n d : String) (A : Nat → Prop) (U : State) (H : Heap) : Prop := ∃ (c : ClassId) (k : Class) (i : Nat) (f : Field) (a : Nat) (cell : Cell), U.vm.findClass C = some c ∧ U.fieldFound? C n d = some (c, k, i, f) ∧ f.isStatic = true ∧ k.statics = some a ∧ H[a]? = some cell ∧ cell.vm.isStatics = true ∧ cell.cls = c ∧ f.slot < cell.slots.size ∧ k.staticTypes[f.slot]? = some f.type ∧ ¬ A a
theorem vx_L.moved {C n d : String} {A : Nat → Prop} {u U : State} {H : Heap} (hvm : u.vm.Alike U.vm) (h : vx_L C n d A u H) : vx_L C n d A U H := by
  obtain ⟨c, k, i, f, a, cell, h1, h2, h3, h4, h5, h6, h7, h8, h9, h10⟩ := h
  obtain ⟨k', hi', he⟩ := State.fieldFound?_setVm hvm h2
  exact ⟨c, k', i, f, a, cell, by rw [hvm.findClass]; exact h1, hi', h3, by rw [he]; exact h4, h5, h6, h7, h8, by rw [he]; exact h9, h10⟩
theorem vx_L.kept {C n d : String} {A : Nat → Prop} {U : State} {H H1 : Heap} (h : vx_L C n d A U H) (hq : ∀ a : Nat, a < H.size → ¬ A a → H1[a]? = H[a]?) : vx_L C n d A U H1 := by
  obtain ⟨c, k, i, f, a, cell, h1, h2, h3, h4, h5, h6, h7, h8, h9, h10⟩ := h
  exact ⟨c, k, i, f, a, cell, h1, h2, h3, h4, by rw [hq a (Array.getElem?_eq_some_iff.mp h5).1 h10]; exact h5, h6, h7, h8, h9, h10⟩
theorem vx_L.narrow {C n d : String} {A B : Nat → Prop} {U : State} {H : Heap} (h : vx_L C n d A U H) (hAB : ∀ q, B q → A q) : vx_L C n d B U H := by
  obtain ⟨c, k, i, f, a, cell, h1, h2, h3, h4, h5, h6, h7, h8, h9, h10⟩ := h
  exact ⟨c, k, i, f, a, cell, h1, h2, h3, h4, h5, h6, h7, h8, h9, fun z => h10 (hAB _ z)⟩
theorem vx_L.word {C n d : String} {A : Nat → Prop} {s : State} {args : Array Value} (h : vx_L C n d A s s.heap) : (Cond.laysStatic C n d).before args s = true := by
  obtain ⟨c, k, i, f, a, cell, h1, h2, h3, h4, h5, h6, h7, h8, h9, -⟩ := h
  show (Cond.laysStatic C n d).holds args s none s [] = true
  exact Cond.laysStatic_of h1 h2 h3 h4 h5 h6 h7 h8 h9
/-- .. and what it holds: null or some reference -/
def vx_Zq (C n d : String) (A : Nat → Prop) (U : State) (H : Heap) : Prop := va_Zq C n d A U H ∧ vx_L C n d A U H
theorem vx_Zq.moved {C n d : String} {A : Nat → Prop} {u U : State} {H : Heap} (hvm : u.vm.Alike U.vm) (h : vx_Zq C n d A u H) : vx_Zq C n d A U H := ⟨va_Zq.moved hvm h.1, vx_L.moved hvm h.2⟩
theorem vx_Zq.kept {C n d : String} {A : Nat → Prop} {U : State} {H H1 : Heap} (h : vx_Zq C n d A U H) (hq : ∀ a : Nat, a < H.size → ¬ A a → H1[a]? = H[a]?) : vx_Zq C n d A U H1 := ⟨va_Zq.kept h.1 hq, vx_L.kept h.2 hq⟩
theorem vx_Zq.narrow {C n d : String} {A B : Nat → Prop} {U : State} {H : Heap} (h : vx_Zq C n d A U H) (hAB : ∀ q, B q → A q) : vx_Zq C n d B U H := ⟨va_Zq.narrow h.1 hAB, vx_L.narrow h.2 hAB⟩
theorem vx_Zqof {args : Array Value} {s : State} {C n d : String} {A : Nat → Prop} (hl : (Cond.laysStatic C n d).before args s = true) (hini : (Cond.initialized C).before args s = true) (h : (Cond.isRef (.static C n d)).before args s = true) (hA : ∀ a : Nat, a < s.heap.size → ¬ A a) : vx_Zq C n d A s s.heap := by
  refine ⟨va_Zqof hl hini h hA, ?_⟩
  obtain ⟨c, k, i, f, a, cell, h1, h2, h3, h4, h5, h6, h7, h8, h9⟩ := Cond.laysStatic_spec hl
  exact ⟨c, k, i, f, a, cell, h1, h2, h3, h4, h5, h6, h7, h8, h9, hA a (Array.getElem?_eq_some_iff.mp h5).1⟩
theorem vx_isRef {C n d : String} {v : Value} {A : Nat → Prop} {s : State} {args : Array Value} (h : va_Z C n d v A s s.heap) (hv : v.isRef = true) : (Cond.isRef (.static C n d)).before args s = true := by
  obtain ⟨cf, kf, fi, f, a, cell, h1, h2, h3, h4, h5, h6, h7, -⟩ := h
  have he : (Term.static C n d).eval args s none [] s = some v := by
    simp [Term.eval, State.fieldNamed?, h1, h2, h4, h5, h6, h7]
  simp only [Cond.before, Cond.holds, Cond.value, he]
  cases v <;> simp_all [Value.isRef]
theorem vx_isRefq {C n d : String} {A : Nat → Prop} {s : State} {args : Array Value} (h : va_Zq C n d A s s.heap) : (Cond.isRef (.static C n d)).before args s = true := by
  rcases h with h | ⟨t, h⟩
  · exact vx_isRef h rfl
  · exact vx_isRef h rfl
/-- the same frame, seen from here: as if the method were called anew in this heap -/
theorem vx_rebase {T : State} (X : Stand p l e R s m args below meth c T locs cells slots) {R' : Room} (hf : R'.frames ≤ R.frames) (hl : R'.locals ≤ R.locals) (hc : cells + R'.cells ≤ R.cells) (hs : slots + R'.slots ≤ R.slots) :
    Stand p l e R' ((T.setVm s.vm).setFrames (.invoking m args :: below)) m args below meth c T [] 0 0 := by
  have htop : (T.setVm s.vm).topJava?.isSome := X.here.top
  have hF : ((T.setVm s.vm).setFrames (.invoking m args :: below)).frames = .invoking m args :: below := State.frames_setFrames _ (State.cur_lt_of_top htop)
  obtain ⟨g₀, hg0⟩ := Option.isSome_iff_exists.mp htop
  obtain ⟨r, hr⟩ := State.topJava?_eq_some.mp hg0
  have hl9 : e.platform.stackLimits (T.setVm s.vm).me = e.platform.stackLimits s.me := X.limits
  have hb9 : (T.setVm s.vm).me.stackBytes = s.me.stackBytes := X.bytes
  refine ⟨X.admits, X.cas, X.clock, hF, ?_, X.hears, X.method, X.code, X.here, X.tail, X.warmed, ?_, ?_, ?_⟩
  · have h := X.room
    have hU : ((T.setVm s.vm).setFrames (.invoking m args :: below)).localsInUse = s.localsInUse := by
      rw [State.localsInUse_invoking hF (meth := meth) (c := c) X.method X.code, State.localsInUse_invoking X.frames X.method X.code]
    simp only [State.hasRoom, Bool.and_eq_true, decide_eq_true_eq] at h ⊢
    obtain ⟨⟨⟨⟨h1, h2, h3, h4, h5, h6⟩, h7⟩, h8⟩, h9⟩ := h
    rw [X.frames, List.length_cons] at h2 h3
    have q1 := X.heapSize
    have q2 := X.used
    simp only [hF, hU, List.length_cons, State.stackLimits_setFrames, State.stackBytes_setFrames, hl9, hb9]
    refine ⟨⟨⟨⟨by omega, by omega, by omega, by omega, by omega, h6⟩, ?_⟩, ?_⟩, X.book⟩
    · show T.heap.size + R'.cells ≤ e.platform.maxCells
      omega
    · show T.slotsUsed + R'.slots ≤ e.platform.maxSlots
      omega
  · rw [State.stackLimits_setFrames]; rfl
  · rw [State.stackBytes_setFrames]; rfl
  · refine ⟨?_, Nat.le_refl _, Nat.le_refl _, ?_, ?_, fun a c9 h9 => ⟨c9, h9, rfl, rfl, fun _ _ => rfl⟩⟩
    · obtain ⟨t, ht, -⟩ := State.frames_cons hr
      show T.setVm s.vm = { ((T.setVm s.vm).setFrames (.invoking m args :: below)).setFrames (T.setVm s.vm).frames with heap := T.heap, slotsUsed := T.slotsUsed }
      rw [State.setFrames_setFrames, State.setFrames_self ht]
      rfl
    · show T.slotsUsed = T.slotsUsed + ((T.heap.toList.drop T.heap.size).map (·.slots.size)).sum
      rw [List.drop_eq_nil_of_le (Nat.le_of_eq Array.length_toList)]
      rfl
    · show ((T.heap.toList.drop T.heap.size).map (·.slots.size)).sum ≤ 0
      rw [List.drop_eq_nil_of_le (Nat.le_of_eq Array.length_toList)]
      exact Nat.le_refl _
/-- 'throw new E()': new; dup; invokespecial; athrow -/
theorem vx_throw0 {cc : ByteArray} {pc : Nat} (hexec : p.tables.exec = Jvm.exec) (hb : c.code = cc) (hl : l.stackTraces = false) {own cls : String} {names : List String} {ik ic mc ms : Nat} {A : Nat → Prop}
    (hown : s.vm.findClass own = some m.cls) (hcls : Bundle.fit cls = true) (hnames : ∀ n ∈ names, Bundle.fit n = true)
    (hk : (Cond.classLink own ik cls).before args s = true) (hini : (Cond.initialized cls).before args s = true) (hat : ∀ w ∈ vx_at0 own ic cls names, w.before args s = true)
    (hgood : ∀ w ∈ Cond.classLink own ik cls :: Cond.initialized cls :: vx_at0 own ic cls names, vx_ot w = true)
    (hU : vx_Zq Bundle.tN "UNASSIGNED_STACK" Bundle.steD A s s.heap) (hN : vx_Zq Bundle.tN "SUPPRESSED_SENTINEL" Bundle.listD A s s.heap) (hS : va_S A s.heap H locs) (hsize : ls.size = c.maxLocals)
    (d0 : decode cc pc = .ok (.new ik, 3)) (d3 : decode cc (pc + 3) = .ok (.dup, 1)) (d4 : decode cc (pc + 4) = .ok (.invokespecial ic, 3)) (d7 : decode cc (pc + 7) = .ok (.athrow, 1))
    (hout : ∀ x ∈ c.exceptionTable.toList, covers x (pc + 7) = false)
    (hRframes : names.length + 3 < R.frames) (hRlocals : (rest.map fun v => v.category).sum + (13 * (names.length + 1) + 42) ≤ R.locals) (hRcells : cells + 1 ≤ R.cells) (hRslots : slots + 6 ≤ R.slots) (hlocks : meth.locks = false)
    (hx : ∀ t : State, s.vm.Alike t.vm → H.size ≤ t.heap.size → (∀ q : Nat, q < H.size → t.heap[q]? = H[q]?) → XC cls s t)
    (hf : ∀ z ∈ locs, free z.base) (hc : cells + 1 ≤ mc) (hs : slots + 6 ≤ ms) :
    W p l e R s m args below meth c H locs cells slots (vx_MQ below Qc XC args s mc ms free) (F0 m pc ls rest) := by
  intro T hT X
  have htr : e.platform.stackTraces = false := (show e.platform.stackTraces = l.stackTraces by rw [X.admits.platform]).trans hl
  have Y := vx_rebase X (R' := { frames := R.frames, locals := R.locals, cells := 1, slots := 6 }) (Nat.le_refl _) (Nat.le_refl _) hRcells hRslots
  obtain ⟨s', hA⟩ : ∃ z, z = (T.setVm s.vm).setFrames (.invoking m args :: below) := ⟨_, rfl⟩
  rw [← hA] at Y
  have hvm : s'.vm = s.vm := by rw [hA]; rfl
  have hhp : s'.heap = H := by rw [hA]; exact hT
  have hW0 : s.WarmedH s'.vm := by rw [hvm]; exact State.WarmedH.refl s
  have hat' : ∀ w ∈ vx_at0 own ic cls names, w.before args s' = true := fun w hw => vx_ot_at hW0 hvm.symm (hgood w (List.mem_cons_of_mem _ (List.mem_cons_of_mem _ hw))) (hat w hw)
  have hk' : (Cond.classLink own ik cls).before args s' = true := vx_ot_at hW0 hvm.symm (hgood _ List.mem_cons_self) hk
  have hini' : (Cond.initialized cls).before args s' = true := vx_ot_at hW0 hvm.symm (hgood _ (List.mem_cons_of_mem _ List.mem_cons_self)) hini
  have hU' : vx_Zq Bundle.tN "UNASSIGNED_STACK" Bundle.steD A s' s'.heap := by rw [hhp]; exact vx_Zq.moved hW0.alike (hU.kept hS.2.1)
  have hN' : vx_Zq Bundle.tN "SUPPRESSED_SENTINEL" Bundle.listD A s' s'.heap := by rw [hhp]; exact vx_Zq.moved hW0.alike (hN.kept hS.2.1)
  have h : ∀ w ∈ Bundle.ownAtoms0 own ic cls names, w.before args s' = true := vx_own hat' (vx_isRefq hU'.1) (vx_isRefq hN'.1) hU'.2.word hN'.2.word
  have hown' : s'.vm.findClass own = some m.cls := by rw [hvm]; exact hown
  have hins : (Cond.instantiable cls 6).before args s' = true := h _ (by simp [Bundle.ownAtoms0])
  obtain ⟨vm₁, cX, kX, hfX, hkX, -, -, X₁, st1⟩ := Y.newCold hexec (own := own) (C := cls) (index := ik) (n := 6) hown' hk' hins hini'
    (g := F0 m pc ls rest) rfl (by rw [hb]; exact d0) (Nat.le_refl _) (Nat.le_refl _)
  generalize hT1 : (T.setVm vm₁).pushCell { cls := cX, slots := kX.instanceTypes.map defaultValue, vm := .none } = T1 at X₁ st1
  have hcat : (Value.ref T.heap.size).category = 1 := rfl
  have hcellA : T1.heap[T.heap.size]? = some (freshCell cX kX) := by rw [← hT1]; exact State.heap_pushCell_size _ _
  have d3' : decode c.code (pc + 3) = .ok (.dup, 1) := by rw [hb]; exact d3
  obtain ⟨U, hsteps, hrun, hend, hW, hsame, ce, hce, hO⟩ := X₁.ctorThrow0 hexec htr (own := own) (cls := cls) (names := names) (ic := ic) hown' hcls hnames h (fun x hx => nomatch hx) hfX hkX hcellA (by rw [hhp, hT]; exact Nat.le_refl _)
    (g := { method := m, pc := pc + 4, locals := ls, stack := .ref T.heap.size :: .ref T.heap.size :: rest, locked := none }) rfl hsize rfl rfl (rest := rest) rfl
    (by rw [hb]; exact d4) (by rw [hb]; exact d7) hout hRframes (by simp only [List.map_cons, List.sum_cons, hcat]; omega) hlocks
  obtain ⟨f1, f2⟩ := vx_frame hsame
  rw [hhp] at f1 f2
  have hWs : s.WarmedH U.vm := State.WarmedH.trans hW0 hW
  have hcl : s.vm.findClass cls = some ce.cls := by
    have h9 := hO.cls
    rw [hvm] at h9
    exact h9
  have hall : s.sameButNew ({ U with vm := s.vm } : State) locs mc ms := by
    subst hA
    obtain ⟨e1, e2⟩ := hsame
    rw [State.setFrames_setFrames] at e1
    have h2 : (T.setVm s.vm).sameButNew ({ U with vm := s.vm } : State) [] (0 + 1) (0 + 6) := ⟨e1, e2⟩
    have h3 := X.same.trans h2
    rw [List.append_nil] at h3
    exact h3.mono hc hs
  refine ⟨U, ?_, .threw T.heap.size, hrun, hend, Or.inr ⟨T.heap.size, rfl, cls, ce, locs, hx U hWs.alike f1 (fun q hq => f2 q hq (fun z hz => nomatch hz)), hce, hO.vm, hcl, hWs, hall, hf⟩⟩
  refine st1 _ ?_
  show Steps p.tables e below (T1.setTop { method := m, pc := pc + 3, locals := ls, stack := .ref T.heap.size :: rest, locked := none }) _
  jvm_step X₁.here [X₁.here.top, hexec, d3', Value.category]
  exact hsteps
/-- 'throw new E("text")': new; dup; ldc; invokespecial; athrow -/
theorem vx_throwS {cc : ByteArray} {pc : Nat} (hexec : p.tables.exec = Jvm.exec) (hb : c.code = cc) (hl : l.stackTraces = false) {own cls text : String} {names : List String} {ik is ic mc ms sa : Nat} {A : Nat → Prop}
    (hown : s.vm.findClass own = some m.cls) (hcls : Bundle.fit cls = true) (hnames : ∀ n ∈ names, Bundle.fit n = true)
    (hk : (Cond.classLink own ik cls).before args s = true) (hini : (Cond.initialized cls).before args s = true) (hstr : vk_R own is text sa s) (hat : ∀ w ∈ vx_atS own ic cls names, w.before args s = true)
    (hgood : ∀ w ∈ Cond.classLink own ik cls :: Cond.initialized cls :: vx_atS own ic cls names, vx_ot w = true)
    (hU : vx_Zq Bundle.tN "UNASSIGNED_STACK" Bundle.steD A s s.heap) (hN : vx_Zq Bundle.tN "SUPPRESSED_SENTINEL" Bundle.listD A s s.heap) (hS : va_S A s.heap H locs) (hsize : ls.size = c.maxLocals)
    (d0 : decode cc pc = .ok (.new ik, 3)) (d3 : decode cc (pc + 3) = .ok (.dup, 1)) (d4 : decode cc (pc + 4) = .ok (.ldc is, 2)) (d6 : decode cc (pc + 6) = .ok (.invokespecial ic, 3)) (d9 : decode cc (pc + 9) = .ok (.athrow, 1))
    (hout : ∀ x ∈ c.exceptionTable.toList, covers x (pc + 9) = false)
    (hRframes : names.length + 3 < R.frames) (hRlocals : (rest.map fun v => v.category).sum + (13 * (names.length + 1) + 43) ≤ R.locals) (hRcells : cells + 1 ≤ R.cells) (hRslots : slots + 6 ≤ R.slots) (hlocks : meth.locks = false)
    (hx : ∀ t : State, s.vm.Alike t.vm → H.size ≤ t.heap.size → (∀ q : Nat, q < H.size → t.heap[q]? = H[q]?) → XC cls s t)
    (hf : ∀ z ∈ locs, free z.base) (hc : cells + 1 ≤ mc) (hs : slots + 6 ≤ ms) :
    W p l e R s m args below meth c H locs cells slots (vx_MQ below Qc XC args s mc ms free) (F0 m pc ls rest) := by
  intro T hT X
  have htr : e.platform.stackTraces = false := (show e.platform.stackTraces = l.stackTraces by rw [X.admits.platform]).trans hl
  have Y := vx_rebase X (R' := { frames := R.frames, locals := R.locals, cells := 1, slots := 6 }) (Nat.le_refl _) (Nat.le_refl _) hRcells hRslots
  obtain ⟨s', hA⟩ : ∃ z, z = (T.setVm s.vm).setFrames (.invoking m args :: below) := ⟨_, rfl⟩
  rw [← hA] at Y
  have hvm : s'.vm = s.vm := by rw [hA]; rfl
  have hhp : s'.heap = H := by rw [hA]; exact hT
  have hW0 : s.WarmedH s'.vm := by rw [hvm]; exact State.WarmedH.refl s
  have hat' : ∀ w ∈ vx_atS own ic cls names, w.before args s' = true := fun w hw => vx_ot_at hW0 hvm.symm (hgood w (List.mem_cons_of_mem _ (List.mem_cons_of_mem _ hw))) (hat w hw)
  have hk' : (Cond.classLink own ik cls).before args s' = true := vx_ot_at hW0 hvm.symm (hgood _ List.mem_cons_self) hk
  have hini' : (Cond.initialized cls).before args s' = true := vx_ot_at hW0 hvm.symm (hgood _ (List.mem_cons_of_mem _ List.mem_cons_self)) hini
  have hU' : vx_Zq Bundle.tN "UNASSIGNED_STACK" Bundle.steD A s' s'.heap := by rw [hhp]; exact vx_Zq.moved hW0.alike (hU.kept hS.2.1)
  have hN' : vx_Zq Bundle.tN "SUPPRESSED_SENTINEL" Bundle.listD A s' s'.heap := by rw [hhp]; exact vx_Zq.moved hW0.alike (hN.kept hS.2.1)
  have h : ∀ w ∈ Bundle.ownAtoms own ic cls names, w.before args s' = true := vx_own hat' (vx_isRefq hU'.1) (vx_isRefq hN'.1) hU'.2.word hN'.2.word
  have hown' : s'.vm.findClass own = some m.cls := by rw [hvm]; exact hown
  have hins : (Cond.instantiable cls 6).before args s' = true := h _ (by simp [Bundle.ownAtoms])
  obtain ⟨vm₁, cX, kX, hfX, hkX, -, -, X₁, st1⟩ := Y.newCold hexec (own := own) (C := cls) (index := ik) (n := 6) hown' hk' hins hini'
    (g := F0 m pc ls rest) rfl (by rw [hb]; exact d0) (Nat.le_refl _) (Nat.le_refl _)
  generalize hT1 : (T.setVm vm₁).pushCell { cls := cX, slots := kX.instanceTypes.map defaultValue, vm := .none } = T1 at X₁ st1
  have hcat : (Value.ref T.heap.size).category = 1 := rfl
  have hcellA : T1.heap[T.heap.size]? = some (freshCell cX kX) := by rw [← hT1]; exact State.heap_pushCell_size _ _
  have d3' : decode c.code (pc + 3) = .ok (.dup, 1) := by rw [hb]; exact d3
  have d4' : decode c.code (pc + 4) = .ok (.ldc is, 2) := by rw [hb]; exact d4
  have hstr' : vk_R own is text sa s' := vk_R.warm hW0 hstr
  obtain ⟨U, hsteps, hrun, hend, hW, hsame, ce, hce, hO⟩ := X₁.ctorThrowS hexec htr (own := own) (cls := cls) (names := names) (ic := ic) hown' hcls hnames h (fun x hx => nomatch hx) hfX hkX hcellA (by rw [hhp, hT]; exact Nat.le_refl _) (msg := .ref sa) rfl
    (g := { method := m, pc := pc + 6, locals := ls, stack := .ref sa :: .ref T.heap.size :: .ref T.heap.size :: rest, locked := none }) rfl hsize rfl rfl (rest := rest) rfl
    (by rw [hb]; exact d6) (by rw [hb]; exact d9) hout hRframes (by simp only [List.map_cons, List.sum_cons, hcat]; omega) hlocks
  obtain ⟨f1, f2⟩ := vx_frame hsame
  rw [hhp] at f1 f2
  have hWs : s.WarmedH U.vm := State.WarmedH.trans hW0 hW
  have hcl : s.vm.findClass cls = some ce.cls := by
    have h9 := hO.cls
    rw [hvm] at h9
    exact h9
  have hall : s.sameButNew ({ U with vm := s.vm } : State) locs mc ms := by
    subst hA
    obtain ⟨e1, e2⟩ := hsame
    rw [State.setFrames_setFrames] at e1
    have h2 : (T.setVm s.vm).sameButNew ({ U with vm := s.vm } : State) [] (0 + 1) (0 + 6) := ⟨e1, e2⟩
    have h3 := X.same.trans h2
    rw [List.append_nil] at h3
    exact h3.mono hc hs
  refine ⟨U, ?_, .threw T.heap.size, hrun, hend, Or.inr ⟨T.heap.size, rfl, cls, ce, locs, hx U hWs.alike f1 (fun q hq => f2 q hq (fun z hz => nomatch hz)), hce, hO.vm, hcl, hWs, hall, hf⟩⟩
  refine st1 _ ?_
  show Steps p.tables e below (T1.setTop { method := m, pc := pc + 3, locals := ls, stack := .ref T.heap.size :: rest, locked := none }) _
  jvm_step X₁.here [X₁.here.top, hexec, d3', Value.category]
  exact X₁.ldcString hexec (own := own) (text := text) (index := is) (a := sa) hown' hstr'.1 hstr'.2
    (g := { method := m, pc := pc + 4, locals := ls, stack := .ref T.heap.size :: .ref T.heap.size :: rest, locked := none }) rfl d4' _ hsteps
/-- 'throw new E("text")', the text by a wide index -/
theorem vx_throwSW {cc : ByteArray} {pc : Nat} (hexec : p.tables.exec = Jvm.exec) (hb : c.code = cc) (hl : l.stackTraces = false) {own cls text : String} {names : List String} {ik is ic mc ms sa : Nat} {A : Nat → Prop}
    (hown : s.vm.findClass own = some m.cls) (hcls : Bundle.fit cls = true) (hnames : ∀ n ∈ names, Bundle.fit n = true)
    (hk : (Cond.classLink own ik cls).before args s = true) (hini : (Cond.initialized cls).before args s = true) (hstr : vk_R own is text sa s) (hat : ∀ w ∈ vx_atS own ic cls names, w.before args s = true)
    (hgood : ∀ w ∈ Cond.classLink own ik cls :: Cond.initialized cls :: vx_atS own ic cls names, vx_ot w = true)
    (hU : vx_Zq Bundle.tN "UNASSIGNED_STACK" Bundle.steD A s s.heap) (hN : vx_Zq Bundle.tN "SUPPRESSED_SENTINEL" Bundle.listD A s s.heap) (hS : va_S A s.heap H locs) (hsize : ls.size = c.maxLocals)
    (d0 : decode cc pc = .ok (.new ik, 3)) (d3 : decode cc (pc + 3) = .ok (.dup, 1)) (d4 : decode cc (pc + 4) = .ok (.ldc_w is, 3)) (d7 : decode cc (pc + 7) = .ok (.invokespecial ic, 3)) (d10 : decode cc (pc + 10) = .ok (.athrow, 1))
    (hout : ∀ x ∈ c.exceptionTable.toList, covers x (pc + 10) = false)
    (hRframes : names.length + 3 < R.frames) (hRlocals : (rest.map fun v => v.category).sum + (13 * (names.length + 1) + 43) ≤ R.locals) (hRcells : cells + 1 ≤ R.cells) (hRslots : slots + 6 ≤ R.slots) (hlocks : meth.locks = false)
    (hx : ∀ t : State, s.vm.Alike t.vm → H.size ≤ t.heap.size → (∀ q : Nat, q < H.size → t.heap[q]? = H[q]?) → XC cls s t)
    (hf : ∀ z ∈ locs, free z.base) (hc : cells + 1 ≤ mc) (hs : slots + 6 ≤ ms) :
    W p l e R s m args below meth c H locs cells slots (vx_MQ below Qc XC args s mc ms free) (F0 m pc ls rest) := by
  intro T hT X
  have htr : e.platform.stackTraces = false := (show e.platform.stackTraces = l.stackTraces by rw [X.admits.platform]).trans hl
  have Y := vx_rebase X (R' := { frames := R.frames, locals := R.locals, cells := 1, slots := 6 }) (Nat.le_refl _) (Nat.le_refl _) hRcells hRslots
  obtain ⟨s', hA⟩ : ∃ z, z = (T.setVm s.vm).setFrames (.invoking m args :: below) := ⟨_, rfl⟩
  rw [← hA] at Y
  have hvm : s'.vm = s.vm := by rw [hA]; rfl
  have hhp : s'.heap = H := by rw [hA]; exact hT
  have hW0 : s.WarmedH s'.vm := by rw [hvm]; exact State.WarmedH.refl s
  have hat' : ∀ w ∈ vx_atS own ic cls names, w.before args s' = true := fun w hw => vx_ot_at hW0 hvm.symm (hgood w (List.mem_cons_of_mem _ (List.mem_cons_of_mem _ hw))) (hat w hw)
  have hk' : (Cond.classLink own ik cls).before args s' = true := vx_ot_at hW0 hvm.symm (hgood _ List.mem_cons_self) hk
  have hini' : (Cond.initialized cls).before args s' = true := vx_ot_at hW0 hvm.symm (hgood _ (List.mem_cons_of_mem _ List.mem_cons_self)) hini
  have hU' : vx_Zq Bundle.tN "UNASSIGNED_STACK" Bundle.steD A s' s'.heap := by rw [hhp]; exact vx_Zq.moved hW0.alike (hU.kept hS.2.1)
  have hN' : vx_Zq Bundle.tN "SUPPRESSED_SENTINEL" Bundle.listD A s' s'.heap := by rw [hhp]; exact vx_Zq.moved hW0.alike (hN.kept hS.2.1)
  have h : ∀ w ∈ Bundle.ownAtoms own ic cls names, w.before args s' = true := vx_own hat' (vx_isRefq hU'.1) (vx_isRefq hN'.1) hU'.2.word hN'.2.word
  have hown' : s'.vm.findClass own = some m.cls := by rw [hvm]; exact hown
  have hins : (Cond.instantiable cls 6).before args s' = true := h _ (by simp [Bundle.ownAtoms])
  obtain ⟨vm₁, cX, kX, hfX, hkX, -, -, X₁, st1⟩ := Y.newCold hexec (own := own) (C := cls) (index := ik) (n := 6) hown' hk' hins hini'
    (g := F0 m pc ls rest) rfl (by rw [hb]; exact d0) (Nat.le_refl _) (Nat.le_refl _)
  generalize hT1 : (T.setVm vm₁).pushCell { cls := cX, slots := kX.instanceTypes.map defaultValue, vm := .none } = T1 at X₁ st1
  have hcat : (Value.ref T.heap.size).category = 1 := rfl
  have hcellA : T1.heap[T.heap.size]? = some (freshCell cX kX) := by rw [← hT1]; exact State.heap_pushCell_size _ _
  have d3' : decode c.code (pc + 3) = .ok (.dup, 1) := by rw [hb]; exact d3
  have d4' : decode c.code (pc + 4) = .ok (.ldc_w is, 3) := by rw [hb]; exact d4
  have hstr' : vk_R own is text sa s' := vk_R.warm hW0 hstr
  obtain ⟨U, hsteps, hrun, hend, hW, hsame, ce, hce, hO⟩ := X₁.ctorThrowS hexec htr (own := own) (cls := cls) (names := names) (ic := ic) hown' hcls hnames h (fun x hx => nomatch hx) hfX hkX hcellA (by rw [hhp, hT]; exact Nat.le_refl _) (msg := .ref sa) rfl
    (g := { method := m, pc := pc + 7, locals := ls, stack := .ref sa :: .ref T.heap.size :: .ref T.heap.size :: rest, locked := none }) rfl hsize rfl rfl (rest := rest) rfl
    (by rw [hb]; exact d7) (by rw [hb]; exact d10) hout hRframes (by simp only [List.map_cons, List.sum_cons, hcat]; omega) hlocks
  obtain ⟨f1, f2⟩ := vx_frame hsame
  rw [hhp] at f1 f2
  have hWs : s.WarmedH U.vm := State.WarmedH.trans hW0 hW
  have hcl : s.vm.findClass cls = some ce.cls := by
    have h9 := hO.cls
    rw [hvm] at h9
    exact h9
  have hall : s.sameButNew ({ U with vm := s.vm } : State) locs mc ms := by
    subst hA
    obtain ⟨e1, e2⟩ := hsame
    rw [State.setFrames_setFrames] at e1
    have h2 : (T.setVm s.vm).sameButNew ({ U with vm := s.vm } : State) [] (0 + 1) (0 + 6) := ⟨e1, e2⟩
    have h3 := X.same.trans h2
    rw [List.append_nil] at h3
    exact h3.mono hc hs
  refine ⟨U, ?_, .threw T.heap.size, hrun, hend, Or.inr ⟨T.heap.size, rfl, cls, ce, locs, hx U hWs.alike f1 (fun q hq => f2 q hq (fun z hz => nomatch hz)), hce, hO.vm, hcl, hWs, hall, hf⟩⟩
  refine st1 _ ?_
  show Steps p.tables e below (T1.setTop { method := m, pc := pc + 3, locals := ls, stack := .ref T.heap.size :: rest, locked := none }) _
  jvm_step X₁.here [X₁.here.top, hexec, d3', Value.category]
  exact X₁.ldcStringW hexec (own := own) (text := text) (index := is) (a := sa) hown' hstr'.1 hstr'.2
    (g := { method := m, pc := pc + 4, locals := ls, stack := .ref T.heap.size :: .ref T.heap.size :: rest, locked := none }) rfl d4' _ hsteps
end Ends
section Bodies
variable {l : Launch}
theorem vx_ofW {y : MethodName} {ws ws' : List Cond} {rm : Room} {Pc : Array Value → State → Prop} {Qc : Array Value → State → Outcome → State → Prop} {XC : String → State → State → Prop} {mc ms : Nat} {free : Addr → Prop} {cc : ByteArray} {maxL : Nat} {ret : Option FieldType}
    (hy : plainName y.cls = true) (hw : ws = Cond.code y cc maxL ret :: ws')
    (body : ∀ p e s m args below meth c s₁, BodyLoose p l y (headSpec ws rm) cc maxL ret e s m args below meth c s₁ → c.maxLocals = maxL → (∀ x ∈ c.exceptionTable.toList, False) → Pc args s →
      W p l e (headSpec ws rm).room s m args below meth c s.heap [] 0 0 (vx_MQ below Qc XC args s mc ms free) (entryFrame m args maxL)) : vx_Met l y ws rm Pc Qc XC mc ms free := by
  refine MetFree.of_bodyS (code := cc) (maxLocals := maxL) (ret := ret) hy ?_ ?_
  · intro args s m h hn
    obtain ⟨meth, c, h1, h2, h3, h4, h5, h6, -, -⟩ := Cond.code_spec hn (atoms_spec (ws := ws) h _ (by rw [hw]; exact List.mem_cons_self))
    exact ⟨meth, c, h1, h2, h3, h4, h5, h6⟩
  · intro p e s m args below meth c s₁ B hml hP _
    have hh0 : s₁.heap = s.heap := by rw [B.state]; rfl
    have ht : ∀ x ∈ c.exceptionTable.toList, False := by
      obtain ⟨meth9, c9, h1, h2, -, -, -, -, h7, -⟩ := Cond.code_spec B.named (atoms_spec (ws := ws) B.pre _ (by rw [hw]; exact List.mem_cons_self))
      cases Option.some.inj (h1.symm.trans B.method)
      cases Option.some.inj (h2.symm.trans (Stand.of_body B).code)
      intro x hx
      rw [Array.isEmpty_iff.mp h7] at hx
      cases hx
    obtain ⟨t, a1, o, b1, b2, b3⟩ := body p e s m args below meth c s₁ B hml ht hP s₁ hh0 (Stand.of_body B)
    exact ⟨t, o, a1, b1, b2, b3⟩
/-- the table of a body with handlers -/
theorem vx_table {p : Program} {x y : MethodName} {S : Spec} {cc bytes : ByteArray} {maxL maxL' : Nat} {ret ret' : Option FieldType} {e : Env} {s s₁ : State} {m : MethodId} {args : Array Value} {below : List Frame} {meth : Method} {c : Code} {hh : List (Nat × Nat × Nat × Nat)}
    (B : BodyLoose p l y S cc maxL ret e s m args below meth c s₁) (h : (Cond.codeWith y bytes maxL' ret' hh).before args s = true) : c.exceptionTable.toList = tableOf hh := by
  obtain ⟨m9, meth9, c9, hn9, h1, h2, -, -, h6, -⟩ := Cond.codeWith_spec h
  cases Option.some.inj (hn9.symm.trans B.named)
  cases Option.some.inj (h1.symm.trans B.method)
  cases Option.some.inj (h2.symm.trans (Stand.of_body B).code)
  rw [← h6, table_eq]
end Bodies
end VXA
/-! ===== END ===== -/
/-! ===== BEGIN a static call of a method with an exception table ===== -/
section VXS
variable {p : Program} {l : Launch} {e : Env} {R : Room} {s : State} {m : MethodId} {args : Array Value} {below : List Frame} {meth : Method} {c : Code} {T : State} {H : Heap} {locs : List Loc} {cells slots : Nat}
abbrev vx_CSW (R : Room) (s : State) (args : Array Value) (own : String) (index : Nat) (y : MethodName) (bytes : ByteArray) (maxL : Nat) (ret : Option FieldType) (hh : List (Nat × Nat × Nat × Nat)) (ws : List Cond) (rm : Room) (mc ms n : Nat) : Prop :=
  (rm.cells = mc ∧ rm.slots = ms ∧ rm.frames + 1 ≤ R.frames ∧ 8 + (maxL + 11) + rm.locals ≤ R.locals ∧ (∀ w ∈ ws, ∀ (a' : Array Value) (U : State), s.WarmedH U.vm → w.before a' U = true) ∧ Cond.codeWith y bytes maxL ret hh ∈ ws) ∧
  (Cond.codeWith y bytes maxL ret hh).before args s = true ∧ (Cond.initialized y.cls).before args s = true ∧ (y.cls ≠ "java/lang/invoke/MethodHandle" ∧ y.cls ≠ "java/lang/invoke/VarHandle") ∧
  (∀ sig, parseMethodDescriptor y.desc = some sig → n = sig.parameters.length) ∧ (Cond.methodLink own index y).before args s = true ∧ (Cond.static y).before args s = true
theorem vx_cwSW {own : String} {index maxL mc ms : Nat} {y : MethodName} {bytes : ByteArray} {ret : Option FieldType} {hh : List (Nat × Nat × Nat × Nat)} {Ts ws ws' : List Cond} {rm : Room} (n : Nat) (ht : ∀ w ∈ Ts, w.before args s = true) (hT : GoodIn Ts (va_wsS own index y ws)) (hw : ws = Cond.codeWith y bytes maxL ret hh :: ws') (hrc : rm.cells = mc) (hrs : rm.slots = ms)
    (hd : y.cls ≠ "java/lang/invoke/MethodHandle" ∧ y.cls ≠ "java/lang/invoke/VarHandle" ∧ (parseMethodDescriptor y.desc).map (fun d => d.parameters.length) = some n) (hR : rm.frames + 1 ≤ R.frames ∧ 8 + (maxL + 11) + rm.locals ≤ R.locals) :
    vx_CSW R s args own index y bytes maxL ret hh ws rm mc ms n := by
  have ok : ∀ w ∈ va_wsS own index y ws, w.before args s = true := fun w h => ht w (hT w h).1
  have hG : GoodIn Ts ws := fun w h => hT w (by unfold va_wsS; exact List.mem_append_right _ h)
  have hc : Cond.codeWith y bytes maxL ret hh ∈ ws := by rw [hw]; exact List.mem_cons_self
  refine ⟨⟨hrc, hrs, hR.1, hR.2, pay_in ht hG, hc⟩, ht _ (hG _ hc).1, ok _ (by simp [va_wsS]), ⟨hd.1, hd.2.1⟩, fun sig h => ?_, ok _ (by simp [va_wsS]), ok _ (by simp [va_wsS])⟩
  have h2 := hd.2.2
  rw [h] at h2
  exact (Option.some.inj h2).symm
theorem vx_callSW (X : Stand p l e R s m args below meth c T locs cells slots) (hexec : p.tables.exec = Jvm.exec) {own : String} {index : Nat} {y : MethodName} {bytes : ByteArray} {maxL : Nat} {ret : Option FieldType} {hh : List (Nat × Nat × Nat × Nat)}
    (hown : s.vm.findClass own = some m.cls) (hlink : (Cond.methodLink own index y).before args s = true) (hstat : (Cond.static y).before args s = true) (hinit : (Cond.initialized y.cls).before args s = true)
    (hcode : (Cond.codeWith y bytes maxL ret hh).before args s = true) (hy : y.cls ≠ "java/lang/invoke/MethodHandle" ∧ y.cls ≠ "java/lang/invoke/VarHandle")
    {W9 : Nat} {Pre : Pt → Array Value → Prop} {Post : Pt → Array Value → Option Value → Pt → Prop} (hK : Back l R p e below s args y 3 W9 Pre Post)
    {g : JFrame} (hg : g.method = m) (hsize : g.locals.size = c.maxLocals) {argsL rest : List Value} (hlen : ∀ sig, parseMethodDescriptor y.desc = some sig → argsL.length = sig.parameters.length)
    (hstack : g.stack = argsL.reverse ++ rest) (hW : 2 * g.monitorRoom + (rest.map fun v => v.category).sum ≤ W9) (hdg : decode c.code g.pc = .ok (.invokestatic index, 3))
    (hpre : ∀ vm₁, s.WarmedH vm₁ → Pre ⟨T.setVm vm₁, locs, cells, slots⟩ argsL.toArray) :
    ∃ (v : Option Value) (vm₁ : Vm) (B : Pt), s.WarmedH vm₁ ∧ Stand p l e R s m args below meth c B.U B.locs B.cells B.slots ∧ Post ⟨T.setVm vm₁, locs, cells, slots⟩ argsL.toArray v B ∧
      ∀ target, Steps p.tables e below (B.U.setTop { g with pc := g.pc + 3, stack := v.toList ++ rest }) target → Steps p.tables e below (T.setTop g) target := by
  obtain ⟨mk, methM, cM, hnamed, hmethM, -, -, -, -, -, -, hsigM⟩ := Cond.codeWith_spec hcode
  have hstatic : methM.isStatic = true := Cond.static_spec hnamed hmethM hstat
  obtain ⟨kP, hkP, -⟩ := className_of_methodNamed hnamed
  have hinitP : kP.init = .initialized := Cond.initialized_spec (findClass_of_methodNamed hnamed) hkP hinit
  obtain ⟨vm₁, X₁, hstep₁⟩ := X.invokestatic hexec hown hlink hnamed hmethM hstatic hkP hinitP hy (g := g) hg (argsL := argsL) (rest := rest) (hlen _ hsigM) hstack hdg
  obtain ⟨v, B, X', hpost, hsteps⟩ := hK m meth c ⟨T.setVm vm₁, locs, cells, slots⟩ { g with stack := rest } (.invokestatic index) mk argsL.toArray X₁ hg hsize hdg hW (X₁.named hnamed) (hpre vm₁ X₁.warmed)
  exact ⟨v, vm₁, B, X₁.warmed, X', hpost, fun target h => hstep₁ _ fun acts => by rw [doInvoke_state]; exact hsteps.trans h⟩
theorem vx_runSW {y : MethodName} {bytes cc : ByteArray} {maxL nL mc ms n index : Nat} {ret : Option FieldType} {hh : List (Nat × Nat × Nat × Nat)} {ws : List Cond} {rm : Room} {Pc : Array Value → State → Prop} {Qc : Array Value → State → Outcome → State → Prop} {free : Addr → Prop} {Ts : List Cond} {own : String} {As rest : List Value} {g : JFrame}
    (S : CallFix p m c cc nL s args Ts own) (hM : Met l y ws rm Pc Qc mc ms free) (cw : vx_CSW R s args own index y bytes maxL ret hh ws rm mc ms n) (hp : PreS s H Pc As)
    (hg : g.method = m) (hn : As.length = n) (hsize : g.locals.size = nL) (hstack : g.stack = As.reverse ++ rest) (hW : 2 * g.monitorRoom + (rest.map fun v => v.category).sum ≤ 8) (hdg : decode cc g.pc = .ok (.invokestatic index, 3)) (hf : cells + mc ≤ R.cells ∧ slots + ms ≤ R.slots) :
    va_Run p l e R s m args below meth c H locs cells slots mc ms g rest (Qc As.toArray) (free) := by
  obtain ⟨⟨hrc, hrs, hfr, hlo, hws, hcw⟩, hcode, hini, hy, hlen, hl, hstt⟩ := cw
  have hK : Back l R p e below s args y 3 8 (PreOf R mc ms Pc) (PostOf Qc mc ms free) := va_backW (hh := hh) (bytes := bytes) (maxL := maxL) (ret := ret) hM hp.1 hrc hrs hfr hlo hws hcw (fun a' U hW => word_at hW (Or.inl (by first | rfl | simp [Cond.onTables, Cond.keeps, Cond.steady])) hini)
  obtain ⟨hx, hb, hml, ho, -⟩ := S
  intro T hT X
  obtain ⟨v, vm₁, ⟨U', l2, c2, s2⟩, hW₁, X', ⟨g', mk, t, L, e1, e2, hq, h1, hL, h2, h3⟩, st⟩ := vx_callSW X hx (hh := hh) (bytes := bytes) (maxL := maxL) (ret := ret) ho hl hstt hini hcode hy hK hg (hsize.trans hml.symm) (argsL := As) (rest := rest) (fun sig h => hn.trans (hlen sig h)) hstack hW (by rw [hb]; exact hdg)
    (fun vm₁ hW₁ => ⟨hf.1, hf.2, hp.2 (T.setVm vm₁) hT hW₁⟩)
  dsimp only [Pt.U, Pt.locs, Pt.cells, Pt.slots] at X' e1 e2 h1 h2 h3 st
  subst h1; subst h2; subst h3
  exact ⟨v, (T.setVm vm₁).calling g' mk As.toArray, t, U', L, hT, X', hL, e1, e2, hq, st⟩
/-- not caught here, past rows that name other classes: it goes on to the caller -/
theorem vx_outP {p : Program} {l : Launch} {e : Env} {R : Room} {s : State} {m : MethodId} {args : Array Value} {below : List Frame} {meth : Method} {c : Code} {H : Heap} {locs : List Loc} {cells slots : Nat} {free : Addr → Prop} {ls : Array Slot} {rest : List Value} {Qc : Array Value → State → Outcome → State → Prop} {XC : String → State → State → Prop}
    {pc : Nat} {own E : String} {ce : Cell} {q : Addr} {mc ms : Nat} (hown : s.vm.findClass own = some m.cls) (hlocks : meth.locks = false)
    (hpass : ∀ z ∈ c.exceptionTable.toList, covers z pc = false ∨ (z.catchType ≠ 0 ∧ ∃ nm : String, (Cond.classLink own z.catchType nm).before args s = true ∧ va_Nc E nm s)) (hcell : H[q]? = some ce) (hv : ce.vm = .none) (hcl : s.vm.findClass E = some ce.cls)
    (hx : ∀ t : State, t.heap = H → s.vm.Alike t.vm → XC E s t) (hf : ∀ z ∈ locs, free z.base) (hc : cells ≤ mc) (hs : slots ≤ ms) :
    vx_W p l e R s m args below meth c H locs cells slots (vx_MQ below Qc XC args s mc ms free) (F0 m pc ls rest) q := by
  intro T hT X
  have hpl : e.platform.magicAccessors = ({} : Platform).magicAccessors := by rw [X.admits.platform]
  obtain ⟨vm', hW', X', st⟩ := X.outThrough hlocks q (g := F0 m pc ls rest) rfl rfl rfl (cell := ce) (by rw [hT]; exact hcell) (by rw [hv]; rfl)
    (by obtain ⟨k9, h9, -⟩ := Vm.findClass_spec hcl; exact ⟨k9, h9⟩) (fun z hz => by
      rcases hpass z hz with h | ⟨hz0, nm, hl1, hn1⟩
      · exact Or.inl h
      · obtain ⟨c6, hc6, hcl6⟩ := Cond.classLink_spec hown hl1 e.platform hpl
        obtain ⟨a8, b8, h1, h2, h3⟩ := hn1
        cases Option.some.inj (h1.symm.trans hcl)
        cases Option.some.inj (h2.symm.trans hc6)
        exact Or.inr ⟨hz0, _, hcl6, h3⟩)
  obtain ⟨g₀, hfr⟩ := X'.frames_eq
  have hcell9 : ((T.setVm vm').setFrames (.throwing q :: below)).heap[q]? = some ce := by
    show T.heap[q]? = some ce
    rw [hT]; exact hcell
  have hend : Ended ((T.setVm vm').setFrames (.throwing q :: below)) below (.threw q) := State.frames_setFrames _ (State.cur_lt_of_frames hfr)
  refine ⟨(T.setVm vm').setFrames (.throwing q :: below), ?_, .threw q, X'.here.running, hend, Or.inr ⟨q, rfl, E, ce, locs, hx _ hT (X'.ends _).1.alike, hcell9, hv, hcl, (X'.ends _).1, (X'.ends _).2.mono hc hs, hf⟩⟩
  rw [X.pushThrowing_eq]
  exact st
/-- a thing of a world lies in the heap -/
theorem vx_lt {D : va_G} {cl : List vw_C} {ws : va_W} {H1 : Heap} (h : va_P D cl ws H1) {k : Nat} {q : Nat × va_E} (hk : ws[k]? = some q) : q.1 < H1.size := (h k q hk).lt
end VXS
/-! ===== END ===== -/
/-! ===== BEGIN methods with a table of their own: called by a name, returning or throwing ===== -/
section VXH
/-! vx_backW, vx_callVX, vx_callSX, vx_callVW, vx_runVW, vx_runVX, vx_runSX, vx_ofWH follow the same proofs as their sisters above (Free/Laws.lean, Shelf42/LK1.lean); vx_outP calls Shelf42/NT130.lean (outThrough). -/
section
variable {l : Launch} {R : Room} {p : Program} {e : Env} {below : List Frame} {s : State} {sargs : Array Value} {y : MethodName} {len W9 : Nat}
theorem vx_backW {ws : List Cond} {rm : Room} {Pc : Array Value → State → Prop} {Qc : Array Value → State → Outcome → State → Prop} {XC : String → State → State → Prop} {mc ms : Nat} {free : Addr → Prop} {bytes : ByteArray} {maxL : Nat} {ret : Option FieldType} {hh : List (Nat × Nat × Nat × Nat)}
    (hM : vx_Met l y ws rm Pc Qc XC mc ms free) (hblind : FrameBlind Pc) (hrc : rm.cells = mc) (hrs : rm.slots = ms)
    (hframes : rm.frames + 1 ≤ R.frames) (hlocals : W9 + (maxL + 11) + rm.locals ≤ R.locals)
    (hws : ∀ w ∈ ws, ∀ a' U, s.WarmedH U.vm → w.before a' U = true) (hcode : Cond.codeWith y bytes maxL ret hh ∈ ws) (hinit : ∀ a' U, s.WarmedH U.vm → (Cond.initialized y.cls).before a' U = true) :
    vx_Back l R p e below s sargs y len W9 (PreOf R mc ms Pc) (PostOf Qc mc ms free) (vx_Post XC mc ms free) := by
  intro m meth c A g ig mk a X hg hsize hdg hW hn hp
  have h1 : (headSpec ws rm).pre.before a A.U = true := atoms_intro fun w hw => hws w hw _ _ X.warmed
  have h2 : (Cond.codeWith y bytes maxL ret hh).before a A.U = true := hws _ hcode _ _ X.warmed
  have h3 : (Cond.initialized y.cls).before a A.U = true := hinit _ _ X.warmed
  have h4 : A.cells + (headSpec ws rm).room.cells ≤ R.cells := by rw [show (headSpec ws rm).room.cells = mc from hrc]; exact hp.1
  have h5 : A.slots + (headSpec ws rm).room.slots ≤ R.slots := by rw [show (headSpec ws rm).room.slots = ms from hrs]; exact hp.2.1
  have hPc : Pc a (A.U.calling g mk a) := hblind _ _ _ _ hp.2.2
  obtain ⟨U, Ls, c0, s0⟩ := A
  dsimp only [Pt.U, Pt.locs, Pt.cells, Pt.slots] at h1 h2 h3 h4 h5 X hn hPc ⊢
  obtain ⟨m9, methY, cY, hn9, hmY, hcY, -, hlY, -⟩ := Cond.codeWith_spec h2
  cases Option.some.inj (hn9.symm.trans hn)
  obtain ⟨kY, hkY, -⟩ := className_of_methodNamed hn
  have hinitY : kY.init = .initialized := Cond.initialized_spec (findClass_of_methodNamed hn) hkY h3
  have h : At U g.method c below := by rw [hg]; exact X.here
  have hlocals9 : W9 + (maxL + 11) + (headSpec ws rm).room.locals ≤ R.locals := hlocals
  have happ : (headSpec ws rm).appliesLoose y e.platform (U.calling g mk a) = true :=
    Spec.appliesLoose_calling (g := g) h hdg hn hkY hinitY
      (X.room_calling (g := g) (R' := (headSpec ws rm).room) hsize hmY hcY hframes (by rw [hlY]; omega) h4 h5) h1
  obtain ⟨mid, hmid⟩ := h.above
  have hfr : (U.setTop g).frames = (.java g :: mid) ++ below := by rw [State.frames_setTop' g h.top, hmid]; rfl
  obtain ⟨o, s₂, hsteps, -, hend, hq⟩ := Steps.callFree hM p X.admits X.cas X.clock (acts := []) hfr happ hPc trivial
  have hq' : vx_Q Qc XC mc ms free a (U.calling g mk a) o s₂ := hq
  rw [State.frames_setTop' g h.top] at hend
  obtain ⟨g₀, hg0⟩ := Option.isSome_iff_exists.mp h.top
  obtain ⟨r, hr⟩ := State.topJava?_eq_some.mp hg0
  have hr' : (({ U with heap := s₂.heap, slotsUsed := s₂.slotsUsed } : State).setVm s₂.vm).frames = .java g₀ :: r := hr
  rcases hq' with ⟨hqc, L, hfe, hL⟩ | ⟨q, rfl, E, ce, L, hx, hce, hcv, hcl, hW₂, hsm, hL⟩
  · obtain ⟨⟨v, rfl⟩, hW₂, e2, q2, q3, q4, q5, q6⟩ := id hfe
    have e3 : s₂ = ({ (U.calling g mk a).setFrames s₂.frames with heap := s₂.heap, slotsUsed := s₂.slotsUsed } : State).setVm s₂.vm := by
      have : s₂ = ({ s₂ with vm := (U.calling g mk a).vm } : State).setVm s₂.vm := rfl
      rw [e2] at this
      exact this
    obtain ⟨c₂, i₂, len₂, hc₂, hd₂, hf₂⟩ := hend
    have hW' : U.WarmedH s₂.vm := hW₂
    have hcc : c₂ = c := by
      have h1 : s₂.code? g.method = U.code? g.method := by
        rw [State.code?_eq, State.code?_eq, hW'.alike.method?]
      exact Option.some.inj (hc₂.symm.trans (h1.trans h.code))
    subst hcc
    have hlen : len₂ = len := by rw [hdg] at hd₂; cases hd₂; rfl
    subst hlen
    have hs₂ : s₂ = (({ U with heap := s₂.heap, slotsUsed := s₂.slotsUsed } : State).setVm s₂.vm).setTop { g with pc := g.pc + len₂, stack := v.toList ++ g.stack } := by
      refine e3.trans ?_
      rw [hf₂, State.calling_eq h.top, State.setFrames_setFrames, State.setTop_of_frames _ hr', hr]
      rfl
    have hsame : U.sameButNew ({ U with heap := s₂.heap, slotsUsed := s₂.slotsUsed } : State) L mc ms := by
      refine ⟨?_, q2, q3, q4, q5, q6⟩
      obtain ⟨t, ht, -⟩ := State.frames_cons hr
      show ({ U with heap := s₂.heap, slotsUsed := s₂.slotsUsed } : State) = { U.setFrames U.frames with heap := s₂.heap, slotsUsed := s₂.slotsUsed }
      rw [State.setFrames_self ht]
    subst hg
    refine Or.inl ⟨v, ⟨(({ U with heap := s₂.heap, slotsUsed := s₂.slotsUsed } : State).setVm s₂.vm), Ls ++ L, c0 + mc, s0 + ms⟩,
      ⟨X.admits, X.cas, X.clock, X.frames, X.room, X.hears, X.method, X.code, (X.here.setHeapUsed s₂.heap s₂.slotsUsed).setVm hW'.alike, X.tail, State.WarmedH.trans X.warmed hW', X.limits, X.bytes, X.same.trans (hsame.setVm s.vm)⟩,
      ⟨g, mk, s₂, L, rfl, rfl, hqc, rfl, hL, rfl, rfl⟩, ?_⟩
    show Steps p.tables e below _ ((({ U with heap := s₂.heap, slotsUsed := s₂.slotsUsed } : State).setVm s₂.vm).setTop { g with pc := g.pc + len₂, stack := v.toList ++ g.stack })
    rw [← hs₂]
    exact hsteps
  · obtain ⟨e2, q2, q3, q4, q5, q6⟩ := id hsm
    have e3 : s₂ = ({ (U.calling g mk a).setFrames s₂.frames with heap := s₂.heap, slotsUsed := s₂.slotsUsed } : State).setVm s₂.vm := by
      have : s₂ = ({ s₂ with vm := (U.calling g mk a).vm } : State).setVm s₂.vm := rfl
      rw [e2] at this
      exact this
    have hf₂ : s₂.frames = .throwing q :: .java g :: U.frames.tail := hend
    have hW' : U.WarmedH s₂.vm := hW₂
    have hs₂ : s₂ = ((({ U with heap := s₂.heap, slotsUsed := s₂.slotsUsed } : State).setVm s₂.vm).setTop g).pushFrame (.throwing q) := by
      refine e3.trans ?_
      rw [hf₂, State.calling_eq h.top, State.setFrames_setFrames, State.pushFrame, State.frames_setTop _ hr', State.setTop_of_frames _ hr', State.setFrames_setFrames, hr]
      rfl
    have hsame : U.sameButNew ({ U with heap := s₂.heap, slotsUsed := s₂.slotsUsed } : State) L mc ms := by
      refine ⟨?_, q2, q3, q4, q5, q6⟩
      obtain ⟨t, ht, -⟩ := State.frames_cons hr
      show ({ U with heap := s₂.heap, slotsUsed := s₂.slotsUsed } : State) = { U.setFrames U.frames with heap := s₂.heap, slotsUsed := s₂.slotsUsed }
      rw [State.setFrames_self ht]
    subst hg
    refine Or.inr ⟨q, ⟨(({ U with heap := s₂.heap, slotsUsed := s₂.slotsUsed } : State).setVm s₂.vm), Ls ++ L, c0 + mc, s0 + ms⟩,
      ⟨X.admits, X.cas, X.clock, X.frames, X.room, X.hears, X.method, X.code, (X.here.setHeapUsed s₂.heap s₂.slotsUsed).setVm hW'.alike, X.tail, State.WarmedH.trans X.warmed hW', X.limits, X.bytes, X.same.trans (hsame.setVm s.vm)⟩,
      ⟨g, mk, s₂, L, E, ce, rfl, rfl, hx, hce, hcv, hcl, rfl, hL, rfl, rfl⟩, ?_⟩
    show Steps p.tables e below _ (((({ U with heap := s₂.heap, slotsUsed := s₂.slotsUsed } : State).setVm s₂.vm).setTop g).pushFrame (.throwing q))
    rw [← hs₂]
    exact hsteps
end
variable {p : Program} {l : Launch} {e : Env} {R : Room} {s : State} {m : MethodId} {args : Array Value} {below : List Frame} {meth : Method} {c : Code} {T : State} {H : Heap} {locs : List Loc} {cells slots : Nat}
theorem vx_callVX (X : Stand p l e R s m args below meth c T locs cells slots) (hexec : p.tables.exec = Jvm.exec) {own C : String} {index : Nat} {y : MethodName} {bytes : ByteArray} {maxL : Nat} {ret : Option FieldType} {hh : List (Nat × Nat × Nat × Nat)}
    (hown : s.vm.findClass own = some m.cls) (hlink : (Cond.methodLink own index y).before args s = true) (hinst : (Cond.instanceMethod y).before args s = true) (hsel : (Cond.selects C y y).before args s = true)
    (hcode : (Cond.codeWith y bytes maxL ret hh).before args s = true) (hy : y.cls ≠ "java/lang/invoke/MethodHandle" ∧ y.cls ≠ "java/lang/invoke/VarHandle")
    {W9 : Nat} {Pre : Pt → Array Value → Prop} {Post : Pt → Array Value → Option Value → Pt → Prop} {PostX : Pt → Array Value → Addr → Pt → Prop} (hK : vx_Back l R p e below s args y 3 W9 Pre Post PostX)
    {b : Addr} {cellB : Cell} (hcell : T.heap[b]? = some cellB) (hobj : cellB.vm.isStatics = false) (hcls : s.vm.findClass C = some cellB.cls)
    {g : JFrame} (hg : g.method = m) (hsize : g.locals.size = c.maxLocals) {argsL rest : List Value} (hlen : ∀ sig, parseMethodDescriptor y.desc = some sig → argsL.length = sig.parameters.length)
    (hstack : g.stack = argsL.reverse ++ .ref b :: rest) (hW : 2 * g.monitorRoom + (rest.map fun v => v.category).sum ≤ W9) (hdg : decode c.code g.pc = .ok (.invokevirtual index, 3))
    (hpre : ∀ vm₁, s.WarmedH vm₁ → Pre ⟨T.setVm vm₁, locs, cells, slots⟩ (Value.ref b :: argsL).toArray) :
    (∃ (v : Option Value) (vm₁ : Vm) (B : Pt), s.WarmedH vm₁ ∧ Stand p l e R s m args below meth c B.U B.locs B.cells B.slots ∧ Post ⟨T.setVm vm₁, locs, cells, slots⟩ (Value.ref b :: argsL).toArray v B ∧
      ∀ target, Steps p.tables e below (B.U.setTop { g with pc := g.pc + 3, stack := v.toList ++ rest }) target → Steps p.tables e below (T.setTop g) target) ∨
    (∃ (q : Addr) (vm₁ : Vm) (B : Pt), s.WarmedH vm₁ ∧ Stand p l e R s m args below meth c B.U B.locs B.cells B.slots ∧ PostX ⟨T.setVm vm₁, locs, cells, slots⟩ (Value.ref b :: argsL).toArray q B ∧
      Steps p.tables e below (T.setTop g) ((B.U.setTop { g with stack := rest }).pushFrame (.throwing q))) := by
  obtain ⟨mk, methM, hnamed, hmethM, hstM, habM⟩ := Cond.instanceMethod_spec hinst
  obtain ⟨m8, methM', cM, hn8, hmethM', -, -, -, -, -, -, hsigM⟩ := Cond.codeWith_spec hcode
  cases Option.some.inj (hn8.symm.trans hnamed)
  cases hmethM.symm.trans hmethM'
  obtain ⟨c2, r2, m2, q1, q2, q3, q4, kP, hkP, hkPi⟩ := Cond.selects_spec hsel
  cases hcls.symm.trans q1
  cases (State.methodFound?_of_named hnamed hy).symm.trans q2
  cases hnamed.symm.trans q3
  have hselP : selectMethod e.platform s.vm cellB.cls mk = .method mk := by rw [Launch.admits_selectMethod X.admits]; exact q4
  obtain ⟨vm₁, X₁, hstep₁⟩ := X.invokevirtual hexec hown hlink hnamed hmethM hstM hkP hkPi hy (a := b) (cell := cellB) hcell
    (fun z h => by rw [h] at hobj; cases hobj) hselP hmethM habM hkP hkPi (g := g) hg (argsL := argsL) (rest := rest) (hlen _ hsigM) hstack hdg
  rcases hK m meth c ⟨T.setVm vm₁, locs, cells, slots⟩ { g with stack := rest } (.invokevirtual index) mk (Value.ref b :: argsL).toArray X₁ hg hsize hdg hW (X₁.named hnamed) (hpre vm₁ X₁.warmed) with ⟨v, B, X', hpost, hsteps⟩ | ⟨q, B, X', hpost, hsteps⟩
  · exact Or.inl ⟨v, vm₁, B, X₁.warmed, X', hpost, fun target h => hstep₁ _ fun acts => by rw [doInvoke_state]; exact hsteps.trans h⟩
  · exact Or.inr ⟨q, vm₁, B, X₁.warmed, X', hpost, hstep₁ _ fun acts => by rw [doInvoke_state]; exact hsteps⟩
theorem vx_callSX (X : Stand p l e R s m args below meth c T locs cells slots) (hexec : p.tables.exec = Jvm.exec) {own : String} {index : Nat} {y : MethodName} {bytes : ByteArray} {maxL : Nat} {ret : Option FieldType} {hh : List (Nat × Nat × Nat × Nat)}
    (hown : s.vm.findClass own = some m.cls) (hlink : (Cond.methodLink own index y).before args s = true) (hstat : (Cond.static y).before args s = true) (hinit : (Cond.initialized y.cls).before args s = true)
    (hcode : (Cond.codeWith y bytes maxL ret hh).before args s = true) (hy : y.cls ≠ "java/lang/invoke/MethodHandle" ∧ y.cls ≠ "java/lang/invoke/VarHandle")
    {W9 : Nat} {Pre : Pt → Array Value → Prop} {Post : Pt → Array Value → Option Value → Pt → Prop} {PostX : Pt → Array Value → Addr → Pt → Prop} (hK : vx_Back l R p e below s args y 3 W9 Pre Post PostX)
    {g : JFrame} (hg : g.method = m) (hsize : g.locals.size = c.maxLocals) {argsL rest : List Value} (hlen : ∀ sig, parseMethodDescriptor y.desc = some sig → argsL.length = sig.parameters.length)
    (hstack : g.stack = argsL.reverse ++ rest) (hW : 2 * g.monitorRoom + (rest.map fun v => v.category).sum ≤ W9) (hdg : decode c.code g.pc = .ok (.invokestatic index, 3))
    (hpre : ∀ vm₁, s.WarmedH vm₁ → Pre ⟨T.setVm vm₁, locs, cells, slots⟩ argsL.toArray) :
    (∃ (v : Option Value) (vm₁ : Vm) (B : Pt), s.WarmedH vm₁ ∧ Stand p l e R s m args below meth c B.U B.locs B.cells B.slots ∧ Post ⟨T.setVm vm₁, locs, cells, slots⟩ argsL.toArray v B ∧
      ∀ target, Steps p.tables e below (B.U.setTop { g with pc := g.pc + 3, stack := v.toList ++ rest }) target → Steps p.tables e below (T.setTop g) target) ∨
    (∃ (q : Addr) (vm₁ : Vm) (B : Pt), s.WarmedH vm₁ ∧ Stand p l e R s m args below meth c B.U B.locs B.cells B.slots ∧ PostX ⟨T.setVm vm₁, locs, cells, slots⟩ argsL.toArray q B ∧
      Steps p.tables e below (T.setTop g) ((B.U.setTop { g with stack := rest }).pushFrame (.throwing q))) := by
  obtain ⟨mk, methM, cM, hnamed, hmethM, -, -, -, -, -, -, hsigM⟩ := Cond.codeWith_spec hcode
  have hstatic : methM.isStatic = true := Cond.static_spec hnamed hmethM hstat
  obtain ⟨kP, hkP, -⟩ := className_of_methodNamed hnamed
  have hinitP : kP.init = .initialized := Cond.initialized_spec (findClass_of_methodNamed hnamed) hkP hinit
  obtain ⟨vm₁, X₁, hstep₁⟩ := X.invokestatic hexec hown hlink hnamed hmethM hstatic hkP hinitP hy (g := g) hg (argsL := argsL) (rest := rest) (hlen _ hsigM) hstack hdg
  rcases hK m meth c ⟨T.setVm vm₁, locs, cells, slots⟩ { g with stack := rest } (.invokestatic index) mk argsL.toArray X₁ hg hsize hdg hW (X₁.named hnamed) (hpre vm₁ X₁.warmed) with ⟨v, B, X', hpost, hsteps⟩ | ⟨q, B, X', hpost, hsteps⟩
  · exact Or.inl ⟨v, vm₁, B, X₁.warmed, X', hpost, fun target h => hstep₁ _ fun acts => by rw [doInvoke_state]; exact hsteps.trans h⟩
  · exact Or.inr ⟨q, vm₁, B, X₁.warmed, X', hpost, hstep₁ _ fun acts => by rw [doInvoke_state]; exact hsteps⟩
theorem vx_callVW (X : Stand p l e R s m args below meth c T locs cells slots) (hexec : p.tables.exec = Jvm.exec) {own C : String} {index : Nat} {y : MethodName} {bytes : ByteArray} {maxL : Nat} {ret : Option FieldType} {hh : List (Nat × Nat × Nat × Nat)}
    (hown : s.vm.findClass own = some m.cls) (hlink : (Cond.methodLink own index y).before args s = true) (hinst : (Cond.instanceMethod y).before args s = true) (hsel : (Cond.selects C y y).before args s = true)
    (hcode : (Cond.codeWith y bytes maxL ret hh).before args s = true) (hy : y.cls ≠ "java/lang/invoke/MethodHandle" ∧ y.cls ≠ "java/lang/invoke/VarHandle")
    {W9 : Nat} {Pre : Pt → Array Value → Prop} {Post : Pt → Array Value → Option Value → Pt → Prop} (hK : Back l R p e below s args y 3 W9 Pre Post)
    {b : Addr} {cellB : Cell} (hcell : T.heap[b]? = some cellB) (hobj : cellB.vm.isStatics = false) (hcls : s.vm.findClass C = some cellB.cls)
    {g : JFrame} (hg : g.method = m) (hsize : g.locals.size = c.maxLocals) {argsL rest : List Value} (hlen : ∀ sig, parseMethodDescriptor y.desc = some sig → argsL.length = sig.parameters.length)
    (hstack : g.stack = argsL.reverse ++ .ref b :: rest) (hW : 2 * g.monitorRoom + (rest.map fun v => v.category).sum ≤ W9) (hdg : decode c.code g.pc = .ok (.invokevirtual index, 3))
    (hpre : ∀ vm₁, s.WarmedH vm₁ → Pre ⟨T.setVm vm₁, locs, cells, slots⟩ (Value.ref b :: argsL).toArray) :
    ∃ (v : Option Value) (vm₁ : Vm) (B : Pt), s.WarmedH vm₁ ∧ Stand p l e R s m args below meth c B.U B.locs B.cells B.slots ∧ Post ⟨T.setVm vm₁, locs, cells, slots⟩ (Value.ref b :: argsL).toArray v B ∧
      ∀ target, Steps p.tables e below (B.U.setTop { g with pc := g.pc + 3, stack := v.toList ++ rest }) target → Steps p.tables e below (T.setTop g) target := by
  obtain ⟨mk, methM, hnamed, hmethM, hstM, habM⟩ := Cond.instanceMethod_spec hinst
  obtain ⟨m8, methM', cM, hn8, hmethM', -, -, -, -, -, -, hsigM⟩ := Cond.codeWith_spec hcode
  cases Option.some.inj (hn8.symm.trans hnamed)
  cases hmethM.symm.trans hmethM'
  obtain ⟨c2, r2, m2, q1, q2, q3, q4, kP, hkP, hkPi⟩ := Cond.selects_spec hsel
  cases hcls.symm.trans q1
  cases (State.methodFound?_of_named hnamed hy).symm.trans q2
  cases hnamed.symm.trans q3
  have hselP : selectMethod e.platform s.vm cellB.cls mk = .method mk := by rw [Launch.admits_selectMethod X.admits]; exact q4
  obtain ⟨vm₁, X₁, hstep₁⟩ := X.invokevirtual hexec hown hlink hnamed hmethM hstM hkP hkPi hy (a := b) (cell := cellB) hcell
    (fun z h => by rw [h] at hobj; cases hobj) hselP hmethM habM hkP hkPi (g := g) hg (argsL := argsL) (rest := rest) (hlen _ hsigM) hstack hdg
  obtain ⟨v, B, X', hpost, hsteps⟩ := hK m meth c ⟨T.setVm vm₁, locs, cells, slots⟩ { g with stack := rest } (.invokevirtual index) mk (Value.ref b :: argsL).toArray X₁ hg hsize hdg hW (X₁.named hnamed) (hpre vm₁ X₁.warmed)
  exact ⟨v, vm₁, B, X₁.warmed, X', hpost, fun target h => hstep₁ _ fun acts => by rw [doInvoke_state]; exact hsteps.trans h⟩
abbrev vx_CVW (R : Room) (s : State) (args : Array Value) (own C : String) (index : Nat) (y : MethodName) (bytes : ByteArray) (maxL : Nat) (ret : Option FieldType) (hh : List (Nat × Nat × Nat × Nat)) (ws : List Cond) (rm : Room) (mc ms n : Nat) : Prop :=
  (rm.cells = mc ∧ rm.slots = ms ∧ rm.frames + 1 ≤ R.frames ∧ 8 + (maxL + 11) + rm.locals ≤ R.locals ∧ (∀ w ∈ ws, ∀ (a' : Array Value) (U : State), s.WarmedH U.vm → w.before a' U = true) ∧ Cond.codeWith y bytes maxL ret hh ∈ ws) ∧
  (Cond.codeWith y bytes maxL ret hh).before args s = true ∧ (Cond.initialized y.cls).before args s = true ∧ (y.cls ≠ "java/lang/invoke/MethodHandle" ∧ y.cls ≠ "java/lang/invoke/VarHandle") ∧
  (∀ sig, parseMethodDescriptor y.desc = some sig → n = sig.parameters.length) ∧ (Cond.methodLink own index y).before args s = true ∧ (Cond.instanceMethod y).before args s = true ∧ (Cond.selects C y y).before args s = true
theorem vx_cwVW {own C : String} {index maxL mc ms : Nat} {y : MethodName} {bytes : ByteArray} {ret : Option FieldType} {hh : List (Nat × Nat × Nat × Nat)} {Ts ws ws' : List Cond} {rm : Room} (n : Nat) (ht : ∀ w ∈ Ts, w.before args s = true) (hT : GoodIn Ts (wsV own index C y ws)) (hw : ws = Cond.codeWith y bytes maxL ret hh :: ws') (hrc : rm.cells = mc) (hrs : rm.slots = ms)
    (hd : y.cls = C ∧ y.cls ≠ "java/lang/invoke/MethodHandle" ∧ y.cls ≠ "java/lang/invoke/VarHandle" ∧ (parseMethodDescriptor y.desc).map (fun d => d.parameters.length) = some n) (hR : rm.frames + 1 ≤ R.frames ∧ 8 + (maxL + 11) + rm.locals ≤ R.locals) :
    vx_CVW R s args own C index y bytes maxL ret hh ws rm mc ms n := by
  obtain ⟨hC, hd⟩ := hd
  subst hC
  have ok : ∀ w ∈ wsV own index y.cls y ws, w.before args s = true := fun w h => ht w (hT w h).1
  have hG : GoodIn Ts ws := fun w h => hT w (by unfold wsV; exact List.mem_append_right _ h)
  have hc : Cond.codeWith y bytes maxL ret hh ∈ ws := by rw [hw]; exact List.mem_cons_self
  refine ⟨⟨hrc, hrs, hR.1, hR.2, pay_in ht hG, hc⟩, ht _ (hG _ hc).1, ok _ (by simp [wsV]), ⟨hd.1, hd.2.1⟩, fun sig h => ?_, ok _ (by simp [wsV]), ok _ (by simp [wsV]), ok _ (by simp [wsV])⟩
  have h2 := hd.2.2
  rw [h] at h2
  exact (Option.some.inj h2).symm
theorem vx_runVW {y : MethodName} {bytes cc : ByteArray} {maxL nL mc ms n index : Nat} {ret : Option FieldType} {hh : List (Nat × Nat × Nat × Nat)} {ws : List Cond} {rm : Room} {Pc : Array Value → State → Prop} {Qc : Array Value → State → Outcome → State → Prop} {free : Addr → Prop} {Ts : List Cond} {own C : String} {b : Addr} {As rest : List Value} {g : JFrame}
    (S : CallFix p m c cc nL s args Ts own) (hM : Met l y ws rm Pc Qc mc ms free) (cw : vx_CVW R s args own C index y bytes maxL ret hh ws rm mc ms n) (hp : PreV s H C b Pc As)
    (hg : g.method = m) (hn : As.length = n) (hsize : g.locals.size = nL) (hstack : g.stack = As.reverse ++ .ref b :: rest) (hW : 2 * g.monitorRoom + (rest.map fun v => v.category).sum ≤ 8) (hdg : decode cc g.pc = .ok (.invokevirtual index, 3)) (hf : cells + mc ≤ R.cells ∧ slots + ms ≤ R.slots) :
    va_Run p l e R s m args below meth c H locs cells slots mc ms g rest (Qc (Value.ref b :: As).toArray) free := by
  obtain ⟨⟨hrc, hrs, hfr, hlo, hws, hcw⟩, hcode, hini, hy, hlen, hl, hin, hse⟩ := cw
  have hK : Back l R p e below s args y 3 8 (PreOf R mc ms Pc) (PostOf Qc mc ms free) := va_backW (hh := hh) (bytes := bytes) (maxL := maxL) (ret := ret) hM hp.1 hrc hrs hfr hlo hws hcw (fun a' U hW => word_at hW (Or.inl (by first | rfl | simp [Cond.onTables, Cond.keeps, Cond.steady])) hini)
  obtain ⟨hx, hb, hml, ho, -⟩ := S
  obtain ⟨-, ⟨cellB, hcB, hoB, hclB⟩, hPc⟩ := hp
  intro T hT X
  obtain ⟨v, vm₁, ⟨U', l2, c2, s2⟩, hW₁, X', ⟨g', mk, t, L, e1, e2, hq, h1, hL, h2, h3⟩, st⟩ := vx_callVW X hx (C := C) (hh := hh) (bytes := bytes) (maxL := maxL) (ret := ret) ho hl hin hse hcode hy hK (by rw [hT]; exact hcB) hoB hclB hg (hsize.trans hml.symm) (argsL := As) (rest := rest) (fun sig h => hn.trans (hlen sig h)) hstack hW (by rw [hb]; exact hdg)
    (fun vm₁ hW₁ => ⟨hf.1, hf.2, hPc (T.setVm vm₁) hT hW₁⟩)
  dsimp only [Pt.U, Pt.locs, Pt.cells, Pt.slots] at X' e1 e2 h1 h2 h3 st
  subst h1; subst h2; subst h3
  exact ⟨v, (T.setVm vm₁).calling g' mk (Value.ref b :: As).toArray, t, U', L, hT, X', hL, e1, e2, hq, st⟩
section
variable {y : MethodName} {bytes cc : ByteArray} {maxL nL mc ms n index : Nat} {ret : Option FieldType} {ws : List Cond} {rm : Room} {Pc : Array Value → State → Prop} {Qc : Array Value → State → Outcome → State → Prop} {XC : String → State → State → Prop} {free : Addr → Prop} {Ts : List Cond} {own C : String} {b : Addr} {As rest : List Value} {g : JFrame}
theorem vx_runVX {hh : List (Nat × Nat × Nat × Nat)} (S : CallFix p m c cc nL s args Ts own) (hM : vx_Met l y ws rm Pc Qc XC mc ms free) (cw : vx_CVW R s args own C index y bytes maxL ret hh ws rm mc ms n) (hp : PreV s H C b Pc As)
    (hg : g.method = m) (hn : As.length = n) (hsize : g.locals.size = nL) (hstack : g.stack = As.reverse ++ .ref b :: rest) (hW : 2 * g.monitorRoom + (rest.map fun v => v.category).sum ≤ 8) (hdg : decode cc g.pc = .ok (.invokevirtual index, 3)) (hf : cells + mc ≤ R.cells ∧ slots + ms ≤ R.slots) :
    vx_Run p l e R s m args below meth c H locs cells slots mc ms g rest (Qc (Value.ref b :: As).toArray) XC free := by
  obtain ⟨⟨hrc, hrs, hfr, hlo, hws, hcw⟩, hcode, hini, hy, hlen, hl, hin, hse⟩ := cw
  have hK : vx_Back l R p e below s args y 3 8 (PreOf R mc ms Pc) (PostOf Qc mc ms free) (vx_Post XC mc ms free) := vx_backW (hh := hh) (bytes := bytes) (maxL := maxL) (ret := ret) hM hp.1 hrc hrs hfr hlo hws hcw (fun a' U hW => word_at hW (Or.inl (by first | rfl | simp [Cond.onTables, Cond.keeps, Cond.steady])) hini)
  obtain ⟨hx, hb, hml, ho, -⟩ := S
  obtain ⟨-, ⟨cellB, hcB, hoB, hclB⟩, hPc⟩ := hp
  intro T hT X
  rcases vx_callVX X hx (C := C) (hh := hh) (bytes := bytes) (maxL := maxL) (ret := ret) ho hl hin hse hcode hy hK (by rw [hT]; exact hcB) hoB hclB hg (hsize.trans hml.symm) (argsL := As) (rest := rest) (fun sig h => hn.trans (hlen sig h)) hstack hW (by rw [hb]; exact hdg)
    (fun vm₁ hW₁ => ⟨hf.1, hf.2, hPc (T.setVm vm₁) hT hW₁⟩) with ⟨v, vm₁, ⟨U', l2, c2, s2⟩, hW₁, X', ⟨g', mk, t, L, e1, e2, hq, h1, hL, h2, h3⟩, st⟩ | ⟨q, vm₁, ⟨U', l2, c2, s2⟩, hW₁, X', ⟨g', mk, t, L, E, ce, e1, e2, hq, hce, hcv, hcl, h1, hL, h2, h3⟩, st⟩
  · dsimp only [Pt.U, Pt.locs, Pt.cells, Pt.slots] at X' e1 e2 h1 h2 h3 st
    subst h1; subst h2; subst h3
    exact Or.inl ⟨v, (T.setVm vm₁).calling g' mk (Value.ref b :: As).toArray, t, U', L, hT, X', hL, e1, e2, hq, st⟩
  · dsimp only [Pt.U, Pt.locs, Pt.cells, Pt.slots] at X' e1 e2 h1 h2 h3 st hcl
    subst h1; subst h2; subst h3
    exact Or.inr ⟨q, (T.setVm vm₁).calling g' mk (Value.ref b :: As).toArray, t, U', L, E, ce, hT, X', hL, e1, e2, hq, hce, hcv, vx_cls hW₁ hcl, st⟩
theorem vx_runSX {hh : List (Nat × Nat × Nat × Nat)} (S : CallFix p m c cc nL s args Ts own) (hM : vx_Met l y ws rm Pc Qc XC mc ms free) (cw : vx_CSW R s args own index y bytes maxL ret hh ws rm mc ms n) (hp : PreS s H Pc As)
    (hg : g.method = m) (hn : As.length = n) (hsize : g.locals.size = nL) (hstack : g.stack = As.reverse ++ rest) (hW : 2 * g.monitorRoom + (rest.map fun v => v.category).sum ≤ 8) (hdg : decode cc g.pc = .ok (.invokestatic index, 3)) (hf : cells + mc ≤ R.cells ∧ slots + ms ≤ R.slots) :
    vx_Run p l e R s m args below meth c H locs cells slots mc ms g rest (Qc As.toArray) XC free := by
  obtain ⟨⟨hrc, hrs, hfr, hlo, hws, hcw⟩, hcode, hini, hy, hlen, hl, hstt⟩ := cw
  have hK : vx_Back l R p e below s args y 3 8 (PreOf R mc ms Pc) (PostOf Qc mc ms free) (vx_Post XC mc ms free) := vx_backW (hh := hh) (bytes := bytes) (maxL := maxL) (ret := ret) hM hp.1 hrc hrs hfr hlo hws hcw (fun a' U hW => word_at hW (Or.inl (by first | rfl | simp [Cond.onTables, Cond.keeps, Cond.steady])) hini)
  obtain ⟨hx, hb, hml, ho, -⟩ := S
  intro T hT X
  rcases vx_callSX X hx (hh := hh) (bytes := bytes) (maxL := maxL) (ret := ret) ho hl hstt hini hcode hy hK hg (hsize.trans hml.symm) (argsL := As) (rest := rest) (fun sig h => hn.trans (hlen sig h)) hstack hW (by rw [hb]; exact hdg)
    (fun vm₁ hW₁ => ⟨hf.1, hf.2, hp.2 (T.setVm vm₁) hT hW₁⟩) with ⟨v, vm₁, ⟨U', l2, c2, s2⟩, hW₁, X', ⟨g', mk, t, L, e1, e2, hq, h1, hL, h2, h3⟩, st⟩ | ⟨q, vm₁, ⟨U', l2, c2, s2⟩, hW₁, X', ⟨g', mk, t, L, E, ce, e1, e2, hq, hce, hcv, hcl, h1, hL, h2, h3⟩, st⟩
  · dsimp only [Pt.U, Pt.locs, Pt.cells, Pt.slots] at X' e1 e2 h1 h2 h3 st
    subst h1; subst h2; subst h3
    exact Or.inl ⟨v, (T.setVm vm₁).calling g' mk As.toArray, t, U', L, hT, X', hL, e1, e2, hq, st⟩
  · dsimp only [Pt.U, Pt.locs, Pt.cells, Pt.slots] at X' e1 e2 h1 h2 h3 st hcl
    subst h1; subst h2; subst h3
    exact Or.inr ⟨q, (T.setVm vm₁).calling g' mk As.toArray, t, U', L, E, ce, hT, X', hL, e1, e2, hq, hce, hcv, vx_cls hW₁ hcl, st⟩
end
end VXH
theorem vx_ofWH {l : Launch} {y : MethodName} {ws ws' : List Cond} {rm : Room} {Pc : Array Value → State → Prop} {Qc : Array Value → State → Outcome → State → Prop} {XC : String → State → State → Prop} {mc ms : Nat} {free : Addr → Prop} {cc : ByteArray} {maxL : Nat} {ret : Option FieldType} {hh : List (Nat × Nat × Nat × Nat)}
    (hy : plainName y.cls = true) (hw : ws = Cond.codeWith y cc maxL ret hh :: ws')
    (body : ∀ p e s m args below meth c s₁, BodyLoose p l y (headSpec ws rm) cc maxL ret e s m args below meth c s₁ → c.maxLocals = maxL → Pc args s →
      W p l e (headSpec ws rm).room s m args below meth c s.heap [] 0 0 (vx_MQ below Qc XC args s mc ms free) (entryFrame m args maxL)) : vx_Met l y ws rm Pc Qc XC mc ms free := by
  refine MetFree.of_bodyS (code := cc) (maxLocals := maxL) (ret := ret) hy ?_ ?_
  · intro args s m h hn
    obtain ⟨m9, meth, c, hn9, h1, h2, h3, h4, -, h5, h6, -⟩ := Cond.codeWith_spec (atoms_spec (ws := ws) h _ (by rw [hw]; exact List.mem_cons_self))
    cases hn.symm.trans hn9
    exact ⟨meth, c, h1, h2, h3, h4, h5, h6⟩
  · intro p e s m args below meth c s₁ B hml hP _
    have hh0 : s₁.heap = s.heap := by rw [B.state]; rfl
    obtain ⟨t, a1, o, b1, b2, b3⟩ := body p e s m args below meth c s₁ B hml hP s₁ hh0 (Stand.of_body B)
    exact ⟨t, o, a1, b1, b2, b3⟩
/-! ===== END ===== -/
end
section
def RX0 : String := "CableChart$Cable"
def TX0 : u_T := fun k => match k with
  | 0 => ("CableChart$Cable", "first", "I", true)
  | 1 => ("CableChart$Cable", "other", "I", true)
  | 2 => ("CableChart$Cable", "spans", "I", true)
  | 3 => ("CableChart$Cable", "delay", "I", true)
  | 4 => ("CableChart$Cable", "price", "I", false)
  | _ => ("CableChart$Cable", "faultySpans", "I", false)
def tyX0 : Nat → FieldType := fun k => match k with
  | 0 => .int
  | 1 => .int
  | 2 => .int
  | 3 => .int
  | 4 => .int
  | _ => .int
abbrev wsX00 : List Cond := u_ws RX0 TX0 6
theorem nmX0 : ∀ a, a < 6 → ∀ b, b < 6 → a ≠ b → (TX0 a).2.1 ≠ (TX0 b).2.1 := by decide +kernel
theorem tyX0_ok : ∀ k, k < 6 → parseFieldDescriptor (TX0 k).2.2.1 = some (tyX0 k) := by decide +kernel
abbrev cX0_init : ByteArray := prog_2_method_1_code
def yX0_init : MethodName := ⟨RX0, "<init>", "(IIIII)V"⟩
abbrev cX0_isWorking : ByteArray := prog_2_method_2_code
def yX0_isWorking : MethodName := ⟨RX0, "isWorking", "()Z"⟩
abbrev cX0_hasFaultAt : ByteArray := prog_2_method_3_code
def yX0_hasFaultAt : MethodName := ⟨RX0, "hasFaultAt", "(I)Z"⟩
abbrev cX0_leadsTo : ByteArray := prog_2_method_4_code
def yX0_leadsTo : MethodName := ⟨RX0, "leadsTo", "(I)I"⟩
abbrev cX0_placeOfSpan : ByteArray := prog_2_method_5_code
def yX0_placeOfSpan : MethodName := ⟨RX0, "placeOfSpan", "(III)I"⟩
abbrev cX0_cost : ByteArray := prog_2_method_6_code
def yX0_cost : MethodName := ⟨RX0, "cost", "()J"⟩
def RX1 : String := "CableChart$Island"
def TX1 : u_T := fun k => match k with
  | 0 => ("CableChart$Island", "x", "I", true)
  | _ => ("CableChart$Island", "y", "I", true)
def tyX1 : Nat → FieldType := fun k => match k with
  | 0 => .int
  | _ => .int
abbrev wsX10 : List Cond := u_ws RX1 TX1 2
theorem nmX1 : ∀ a, a < 2 → ∀ b, b < 2 → a ≠ b → (TX1 a).2.1 ≠ (TX1 b).2.1 := by decide +kernel
theorem tyX1_ok : ∀ k, k < 2 → parseFieldDescriptor (TX1 k).2.2.1 = some (tyX1 k) := by decide +kernel
abbrev cX1_init : ByteArray := prog_3_method_1_code
def yX1_init : MethodName := ⟨RX1, "<init>", "(II)V"⟩
def RX2 : String := "CableChart$Net"
def TX2 : u_T := fun k => match k with
  | 0 => ("CableChart$Net", "cables", "[LCableChart$Cable;", true)
  | 1 => ("CableChart$Net", "count", "I", false)
  | 2 => ("CableChart$Net", "faultsByAge", "[I", true)
  | 3 => ("CableChart$Net", "faultCount", "I", false)
  | 4 => ("CableChart$Net", "costs", "[J", true)
  | _ => ("CableChart$Net", "sums", "[I", true)
def tyX2 : Nat → FieldType := fun k => match k with
  | 0 => .array (.object "CableChart$Cable")
  | 1 => .int
  | 2 => .array .int
  | 3 => .int
  | 4 => .array .long
  | _ => .array .int
abbrev wsX20 : List Cond := u_ws RX2 TX2 6
theorem nmX2 : ∀ a, a < 6 → ∀ b, b < 6 → a ≠ b → (TX2 a).2.1 ≠ (TX2 b).2.1 := by decide +kernel
theorem tyX2_ok : ∀ k, k < 6 → parseFieldDescriptor (TX2 k).2.2.1 = some (tyX2 k) := by decide +kernel
abbrev cX2_init : ByteArray := prog_4_method_1_code
def yX2_init : MethodName := ⟨RX2, "<init>", "()V"⟩
abbrev cX2_lay : ByteArray := prog_4_method_2_code
def yX2_lay : MethodName := ⟨RX2, "lay", "(LCableChart$Cable;)I"⟩
abbrev cX2_addFault : ByteArray := prog_4_method_3_code
def yX2_addFault : MethodName := ⟨RX2, "addFault", "(II)I"⟩
abbrev cX2_removeFault : ByteArray := prog_4_method_4_code
def yX2_removeFault : MethodName := ⟨RX2, "removeFault", "(II)V"⟩
abbrev cX2_faultRanked : ByteArray := prog_4_method_5_code
def yX2_faultRanked : MethodName := ⟨RX2, "faultRanked", "(I)I"⟩
abbrev cX2_faultCode : ByteArray := prog_4_method_6_code
def yX2_faultCode : MethodName := ⟨RX2, "faultCode", "(II)I"⟩
abbrev cX2_findWay : ByteArray := prog_4_method_7_code
def yX2_findWay : MethodName := ⟨RX2, "findWay", "(IILCableChart$Way;)V"⟩
abbrev cX2_measureTo : ByteArray := prog_4_method_8_code
def yX2_measureTo : MethodName := ⟨RX2, "measureTo", "(I)V"⟩
abbrev cX2_nearestBeside : ByteArray := prog_4_method_9_code
def yX2_nearestBeside : MethodName := ⟨RX2, "nearestBeside", "(I)I"⟩
abbrev cX2_spreadFrom : ByteArray := prog_4_method_10_code
def yX2_spreadFrom : MethodName := ⟨RX2, "spreadFrom", "(I)V"⟩
abbrev cX2_lowestBestCable : ByteArray := prog_4_method_11_code
def yX2_lowestBestCable : MethodName := ⟨RX2, "lowestBestCable", "(I)I"⟩
abbrev cX2_priceByRounds : ByteArray := prog_4_method_12_code
def yX2_priceByRounds : MethodName := ⟨RX2, "priceByRounds", "(II)I"⟩
abbrev cX2_lowerSum : ByteArray := prog_4_method_13_code
def yX2_lowerSum : MethodName := ⟨RX2, "lowerSum", "(III)V"⟩
abbrev cX2_reachedFrom : ByteArray := prog_4_method_14_code
def yX2_reachedFrom : MethodName := ⟨RX2, "reachedFrom", "(I)I"⟩
def RX3 : String := "CableChart$Ship"
def TX3 : u_T := fun k => match k with
  | 0 => ("CableChart$Ship", "speed", "I", true)
  | 1 => ("CableChart$Ship", "x", "I", false)
  | 2 => ("CableChart$Ship", "y", "I", false)
  | 3 => ("CableChart$Ship", "state", "I", false)
  | 4 => ("CableChart$Ship", "hours", "I", false)
  | 5 => ("CableChart$Ship", "cable", "I", false)
  | 6 => ("CableChart$Ship", "span", "I", false)
  | _ => ("CableChart$Ship", "mended", "I", false)
def tyX3 : Nat → FieldType := fun k => match k with
  | 0 => .int
  | 1 => .int
  | 2 => .int
  | 3 => .int
  | 4 => .int
  | 5 => .int
  | 6 => .int
  | _ => .int
abbrev wsX30 : List Cond := u_ws RX3 TX3 8
theorem nmX3 : ∀ a, a < 8 → ∀ b, b < 8 → a ≠ b → (TX3 a).2.1 ≠ (TX3 b).2.1 := by decide +kernel
theorem tyX3_ok : ∀ k, k < 8 → parseFieldDescriptor (TX3 k).2.2.1 = some (tyX3 k) := by decide +kernel
abbrev cX3_init : ByteArray := prog_5_method_1_code
def yX3_init : MethodName := ⟨RX3, "<init>", "(III)V"⟩
abbrev cX3_aimAt : ByteArray := prog_5_method_2_code
def yX3_aimAt : MethodName := ⟨RX3, "aimAt", "(II)V"⟩
abbrev cX3_begin : ByteArray := prog_5_method_3_code
def yX3_begin : MethodName := ⟨RX3, "begin", "(II)V"⟩
abbrev cX3_hoursTo : ByteArray := prog_5_method_4_code
def yX3_hoursTo : MethodName := ⟨RX3, "hoursTo", "(II)I"⟩
def RX4 : String := "CableChart$Trader"
def TX4 : u_T := fun k => match k with
  | 0 => ("CableChart$Trader", "from", "I", true)
  | 1 => ("CableChart$Trader", "to", "I", true)
  | 2 => ("CableChart$Trader", "mostDelay", "I", true)
  | 3 => ("CableChart$Trader", "cutCredit", "I", true)
  | 4 => ("CableChart$Trader", "lateCredit", "I", true)
  | 5 => ("CableChart$Trader", "mostCredit", "I", true)
  | 6 => ("CableChart$Trader", "way", "LCableChart$Way;", true)
  | 7 => ("CableChart$Trader", "paid", "J", false)
  | 8 => ("CableChart$Trader", "credits", "I", false)
  | 9 => ("CableChart$Trader", "cutHours", "I", false)
  | _ => ("CableChart$Trader", "lateHours", "I", false)
def tyX4 : Nat → FieldType := fun k => match k with
  | 0 => .int
  | 1 => .int
  | 2 => .int
  | 3 => .int
  | 4 => .int
  | 5 => .int
  | 6 => .object "CableChart$Way"
  | 7 => .long
  | 8 => .int
  | 9 => .int
  | _ => .int
abbrev wsX40 : List Cond := u_ws RX4 TX4 11
theorem nmX4 : ∀ a, a < 11 → ∀ b, b < 11 → a ≠ b → (TX4 a).2.1 ≠ (TX4 b).2.1 := by decide +kernel
theorem tyX4_ok : ∀ k, k < 11 → parseFieldDescriptor (TX4 k).2.2.1 = some (tyX4 k) := by decide +kernel
abbrev cX4_init : ByteArray := prog_6_method_1_code
def yX4_init : MethodName := ⟨RX4, "<init>", "(IIIIII)V"⟩
abbrev cX4_settleHour : ByteArray := prog_6_method_2_code
def yX4_settleHour : MethodName := ⟨RX4, "settleHour", "()V"⟩
abbrev cX4_credit : ByteArray := prog_6_method_3_code
def yX4_credit : MethodName := ⟨RX4, "credit", "(I)V"⟩
def RX5 : String := "CableChart$Way"
def TX5 : u_T := fun k => match k with
  | 0 => ("CableChart$Way", "row", "[I", true)
  | 1 => ("CableChart$Way", "length", "I", false)
  | 2 => ("CableChart$Way", "prices", "I", false)
  | _ => ("CableChart$Way", "delays", "I", false)
def tyX5 : Nat → FieldType := fun k => match k with
  | 0 => .array .int
  | 1 => .int
  | 2 => .int
  | _ => .int
abbrev wsX50 : List Cond := u_ws RX5 TX5 4
theorem nmX5 : ∀ a, a < 4 → ∀ b, b < 4 → a ≠ b → (TX5 a).2.1 ≠ (TX5 b).2.1 := by decide +kernel
theorem tyX5_ok : ∀ k, k < 4 → parseFieldDescriptor (TX5 k).2.2.1 = some (tyX5 k) := by decide +kernel
abbrev cX5_init : ByteArray := prog_7_method_1_code
def yX5_init : MethodName := ⟨RX5, "<init>", "()V"⟩
abbrev cX5_end : ByteArray := prog_7_method_2_code
def yX5_end : MethodName := ⟨RX5, "end", "()V"⟩
abbrev cX5_start : ByteArray := prog_7_method_3_code
def yX5_start : MethodName := ⟨RX5, "start", "()V"⟩
abbrev cX5_add : ByteArray := prog_7_method_4_code
def yX5_add : MethodName := ⟨RX5, "add", "(ILCableChart$Cable;)V"⟩
abbrev cX5_cableAt : ByteArray := prog_7_method_5_code
def yX5_cableAt : MethodName := ⟨RX5, "cableAt", "(I)I"⟩
def RX6 : String := "CableChart"
def TX6 : u_T := fun k => match k with
  | 0 => ("CableChart", "islands", "[LCableChart$Island;", true)
  | 1 => ("CableChart", "islandCount", "I", false)
  | 2 => ("CableChart", "net", "LCableChart$Net;", true)
  | 3 => ("CableChart", "ships", "[LCableChart$Ship;", true)
  | 4 => ("CableChart", "shipCount", "I", false)
  | 5 => ("CableChart", "traders", "[LCableChart$Trader;", true)
  | 6 => ("CableChart", "traderCount", "I", false)
  | 7 => ("CableChart", "waysAreStale", "Z", false)
  | _ => ("CableChart", "hour", "I", false)
def tyX6 : Nat → FieldType := fun k => match k with
  | 0 => .array (.object "CableChart$Island")
  | 1 => .int
  | 2 => .object "CableChart$Net"
  | 3 => .array (.object "CableChart$Ship")
  | 4 => .int
  | 5 => .array (.object "CableChart$Trader")
  | 6 => .int
  | 7 => .boolean
  | _ => .int
abbrev wsX60 : List Cond := u_ws RX6 TX6 9
theorem nmX6 : ∀ a, a < 9 → ∀ b, b < 9 → a ≠ b → (TX6 a).2.1 ≠ (TX6 b).2.1 := by decide +kernel
theorem tyX6_ok : ∀ k, k < 9 → parseFieldDescriptor (TX6 k).2.2.1 = some (tyX6 k) := by decide +kernel
abbrev cX6_init : ByteArray := prog_1_method_1_code
def yX6_init : MethodName := ⟨RX6, "<init>", "()V"⟩
abbrev cX6_island : ByteArray := prog_1_method_2_code
def yX6_island : MethodName := ⟨RX6, "island", "(II)I"⟩
abbrev cX6_cable : ByteArray := prog_1_method_3_code
def yX6_cable : MethodName := ⟨RX6, "cable", "(IIIII)I"⟩
abbrev cX6_price : ByteArray := prog_1_method_4_code
def yX6_price : MethodName := ⟨RX6, "price", "(II)I"⟩
abbrev cX6_fault : ByteArray := prog_1_method_5_code
def yX6_fault : MethodName := ⟨RX6, "fault", "(II)I"⟩
abbrev cX6_ship : ByteArray := prog_1_method_6_code
def yX6_ship : MethodName := ⟨RX6, "ship", "(II)I"⟩
abbrev cX6_send : ByteArray := prog_1_method_7_code
def yX6_send : MethodName := ⟨RX6, "send", "(III)I"⟩
abbrev cX6_home : ByteArray := prog_1_method_8_code
def yX6_home : MethodName := ⟨RX6, "home", "(II)I"⟩
abbrev cX6_trader : ByteArray := prog_1_method_9_code
def yX6_trader : MethodName := ⟨RX6, "trader", "(IIIIII)I"⟩
abbrev cX6_pass : ByteArray := prog_1_method_10_code
def yX6_pass : MethodName := ⟨RX6, "pass", "(I)I"⟩
abbrev cX6_works : ByteArray := prog_1_method_11_code
def yX6_works : MethodName := ⟨RX6, "works", "(I)Z"⟩
abbrev cX6_faultAt : ByteArray := prog_1_method_12_code
def yX6_faultAt : MethodName := ⟨RX6, "faultAt", "(I)I"⟩
abbrev cX6_shipOf : ByteArray := prog_1_method_13_code
def yX6_shipOf : MethodName := ⟨RX6, "shipOf", "(II)I"⟩
abbrev cX6_way : ByteArray := prog_1_method_14_code
def yX6_way : MethodName := ⟨RX6, "way", "(II)I"⟩
abbrev cX6_sum : ByteArray := prog_1_method_15_code
def yX6_sum : MethodName := ⟨RX6, "sum", "(II)I"⟩
abbrev cX6_sumAnew : ByteArray := prog_1_method_16_code
def yX6_sumAnew : MethodName := ⟨RX6, "sumAnew", "(I)I"⟩
abbrev cX6_account : ByteArray := prog_1_method_17_code
def yX6_account : MethodName := ⟨RX6, "account", "(II)J"⟩
abbrev cX6_reach : ByteArray := prog_1_method_18_code
def yX6_reach : MethodName := ⟨RX6, "reach", "(I)I"⟩
abbrev cX6_checkIndex : ByteArray := prog_1_method_19_code
def yX6_checkIndex : MethodName := ⟨RX6, "checkIndex", "(II)V"⟩
abbrev cX6_checkSpan : ByteArray := prog_1_method_20_code
def yX6_checkSpan : MethodName := ⟨RX6, "checkSpan", "(II)V"⟩
abbrev cX6_checkRange : ByteArray := prog_1_method_21_code
def yX6_checkRange : MethodName := ⟨RX6, "checkRange", "(III)V"⟩
abbrev cX6_checkUnlike : ByteArray := prog_1_method_22_code
def yX6_checkUnlike : MethodName := ⟨RX6, "checkUnlike", "(II)V"⟩
abbrev cX6_checkRoom : ByteArray := prog_1_method_23_code
def yX6_checkRoom : MethodName := ⟨RX6, "checkRoom", "(II)V"⟩
abbrev cX6_checkIdle : ByteArray := prog_1_method_24_code
def yX6_checkIdle : MethodName := ⟨RX6, "checkIdle", "(LCableChart$Ship;)V"⟩
abbrev cX6_findStaleWays : ByteArray := prog_1_method_25_code
def yX6_findStaleWays : MethodName := ⟨RX6, "findStaleWays", "()V"⟩
abbrev cX6_passHour : ByteArray := prog_1_method_26_code
def yX6_passHour : MethodName := ⟨RX6, "passHour", "()V"⟩
abbrev cX6_workHour : ByteArray := prog_1_method_27_code
def yX6_workHour : MethodName := ⟨RX6, "workHour", "(LCableChart$Ship;)V"⟩
abbrev cX6_goOn : ByteArray := prog_1_method_28_code
def yX6_goOn : MethodName := ⟨RX6, "goOn", "(LCableChart$Ship;)V"⟩
abbrev cX6_setOff : ByteArray := prog_1_method_29_code
def yX6_setOff : MethodName := ⟨RX6, "setOff", "(LCableChart$Ship;II)I"⟩
abbrev cX6_arrive : ByteArray := prog_1_method_30_code
def yX6_arrive : MethodName := ⟨RX6, "arrive", "(LCableChart$Ship;)V"⟩
abbrev cX6_mend : ByteArray := prog_1_method_31_code
def yX6_mend : MethodName := ⟨RX6, "mend", "(LCableChart$Ship;)V"⟩
abbrev cX6_hasItsFault : ByteArray := prog_1_method_32_code
def yX6_hasItsFault : MethodName := ⟨RX6, "hasItsFault", "(LCableChart$Ship;)Z"⟩
def RX7 : String := "CableChartModel"
def TX7 : u_T := fun k => match k with
  | 0 => ("CableChartModel", "thrown", "I", false)
  | 1 => ("CableChartModel", "hour", "I", false)
  | 2 => ("CableChartModel", "islands", "I", false)
  | 3 => ("CableChartModel", "x", "[I", true)
  | 4 => ("CableChartModel", "y", "[I", true)
  | 5 => ("CableChartModel", "cables", "I", false)
  | 6 => ("CableChartModel", "from", "[I", true)
  | 7 => ("CableChartModel", "to", "[I", true)
  | 8 => ("CableChartModel", "spans", "[I", true)
  | 9 => ("CableChartModel", "delay", "[I", true)
  | 10 => ("CableChartModel", "price", "[I", true)
  | 11 => ("CableChartModel", "faults", "I", false)
  | 12 => ("CableChartModel", "fault", "[I", true)
  | 13 => ("CableChartModel", "ships", "I", false)
  | 14 => ("CableChartModel", "speed", "[I", true)
  | 15 => ("CableChartModel", "does", "[I", true)
  | 16 => ("CableChartModel", "shipX", "[I", true)
  | 17 => ("CableChartModel", "shipY", "[I", true)
  | 18 => ("CableChartModel", "left", "[I", true)
  | 19 => ("CableChartModel", "target", "[I", true)
  | 20 => ("CableChartModel", "mended", "[I", true)
  | 21 => ("CableChartModel", "traders", "I", false)
  | 22 => ("CableChartModel", "source", "[I", true)
  | 23 => ("CableChartModel", "end", "[I", true)
  | 24 => ("CableChartModel", "mostDelay", "[I", true)
  | 25 => ("CableChartModel", "cut", "[I", true)
  | 26 => ("CableChartModel", "late", "[I", true)
  | 27 => ("CableChartModel", "most", "[I", true)
  | 28 => ("CableChartModel", "account", "[J", true)
  | 29 => ("CableChartModel", "far", "[J", true)
  | _ => ("CableChartModel", "goes", "[Z", true)
def tyX7 : Nat → FieldType := fun k => match k with
  | 0 => .int
  | 1 => .int
  | 2 => .int
  | 3 => .array .int
  | 4 => .array .int
  | 5 => .int
  | 6 => .array .int
  | 7 => .array .int
  | 8 => .array .int
  | 9 => .array .int
  | 10 => .array .int
  | 11 => .int
  | 12 => .array .int
  | 13 => .int
  | 14 => .array .int
  | 15 => .array .int
  | 16 => .array .int
  | 17 => .array .int
  | 18 => .array .int
  | 19 => .array .int
  | 20 => .array .int
  | 21 => .int
  | 22 => .array .int
  | 23 => .array .int
  | 24 => .array .int
  | 25 => .array .int
  | 26 => .array .int
  | 27 => .array .int
  | 28 => .array .long
  | 29 => .array .long
  | _ => .array .boolean
abbrev wsX70 : List Cond := u_ws RX7 TX7 31
theorem nmX7 : ∀ a, a < 31 → ∀ b, b < 31 → a ≠ b → (TX7 a).2.1 ≠ (TX7 b).2.1 := by decide +kernel
theorem tyX7_ok : ∀ k, k < 31 → parseFieldDescriptor (TX7 k).2.2.1 = some (tyX7 k) := by decide +kernel
abbrev cX7_init : ByteArray := prog_9_method_1_code
def yX7_init : MethodName := ⟨RX7, "<init>", "()V"⟩
abbrev cX7_thrown : ByteArray := prog_9_method_2_code
def yX7_thrown : MethodName := ⟨RX7, "thrown", "()I"⟩
abbrev cX7_goesWell : ByteArray := prog_9_method_3_code
def yX7_goesWell : MethodName := ⟨RX7, "goesWell", "(I)Z"⟩
abbrev cX7_in : ByteArray := prog_9_method_4_code
def yX7_in : MethodName := ⟨RX7, "in", "(III)Z"⟩
abbrev cX7_isIsland : ByteArray := prog_9_method_5_code
def yX7_isIsland : MethodName := ⟨RX7, "isIsland", "(I)Z"⟩
abbrev cX7_isCable : ByteArray := prog_9_method_6_code
def yX7_isCable : MethodName := ⟨RX7, "isCable", "(I)Z"⟩
abbrev cX7_isSpan : ByteArray := prog_9_method_7_code
def yX7_isSpan : MethodName := ⟨RX7, "isSpan", "(II)Z"⟩
abbrev cX7_isShip : ByteArray := prog_9_method_8_code
def yX7_isShip : MethodName := ⟨RX7, "isShip", "(I)Z"⟩
abbrev cX7_isTrader : ByteArray := prog_9_method_9_code
def yX7_isTrader : MethodName := ⟨RX7, "isTrader", "(I)Z"⟩
abbrev cX7_size : ByteArray := prog_9_method_10_code
def yX7_size : MethodName := ⟨RX7, "size", "(I)I"⟩
abbrev cX7_island : ByteArray := prog_9_method_11_code
def yX7_island : MethodName := ⟨RX7, "island", "(II)I"⟩
abbrev cX7_cable : ByteArray := prog_9_method_12_code
def yX7_cable : MethodName := ⟨RX7, "cable", "(IIIII)I"⟩
abbrev cX7_price : ByteArray := prog_9_method_13_code
def yX7_price : MethodName := ⟨RX7, "price", "(II)I"⟩
abbrev cX7_placeOf : ByteArray := prog_9_method_14_code
def yX7_placeOf : MethodName := ⟨RX7, "placeOf", "(I)I"⟩
abbrev cX7_fault : ByteArray := prog_9_method_15_code
def yX7_fault : MethodName := ⟨RX7, "fault", "(II)I"⟩
abbrev cX7_doesWork : ByteArray := prog_9_method_16_code
def yX7_doesWork : MethodName := ⟨RX7, "doesWork", "(I)Z"⟩
abbrev cX7_ship : ByteArray := prog_9_method_17_code
def yX7_ship : MethodName := ⟨RX7, "ship", "(II)I"⟩
abbrev cX7_come : ByteArray := prog_9_method_18_code
def yX7_come : MethodName := ⟨RX7, "come", "(I)V"⟩
abbrev cX7_sail : ByteArray := prog_9_method_19_code
def yX7_sail : MethodName := ⟨RX7, "sail", "(IIII)I"⟩
abbrev cX7_between : ByteArray := prog_9_method_20_code
def yX7_between : MethodName := ⟨RX7, "between", "(IIII)I"⟩
abbrev cX7_send : ByteArray := prog_9_method_21_code
def yX7_send : MethodName := ⟨RX7, "send", "(III)I"⟩
abbrev cX7_home : ByteArray := prog_9_method_22_code
def yX7_home : MethodName := ⟨RX7, "home", "(II)I"⟩
abbrev cX7_mend : ByteArray := prog_9_method_23_code
def yX7_mend : MethodName := ⟨RX7, "mend", "(I)V"⟩
abbrev cX7_goOn : ByteArray := prog_9_method_24_code
def yX7_goOn : MethodName := ⟨RX7, "goOn", "(I)V"⟩
abbrev cX7_trader : ByteArray := prog_9_method_25_code
def yX7_trader : MethodName := ⟨RX7, "trader", "(IIIIII)I"⟩
abbrev cX7_costs : ByteArray := prog_9_method_26_code
def yX7_costs : MethodName := ⟨RX7, "costs", "(I)J"⟩
abbrev cX7_across : ByteArray := prog_9_method_27_code
def yX7_across : MethodName := ⟨RX7, "across", "(II)I"⟩
abbrev cX7_findWays : ByteArray := prog_9_method_28_code
def yX7_findWays : MethodName := ⟨RX7, "findWays", "(I)V"⟩
abbrev cX7_next : ByteArray := prog_9_method_29_code
def yX7_next : MethodName := ⟨RX7, "next", "(I)I"⟩
abbrev cX7_hourOf : ByteArray := prog_9_method_30_code
def yX7_hourOf : MethodName := ⟨RX7, "hourOf", "(I)V"⟩
abbrev cX7_pass : ByteArray := prog_9_method_31_code
def yX7_pass : MethodName := ⟨RX7, "pass", "(I)I"⟩
abbrev cX7_works : ByteArray := prog_9_method_32_code
def yX7_works : MethodName := ⟨RX7, "works", "(I)Z"⟩
abbrev cX7_faultAt : ByteArray := prog_9_method_33_code
def yX7_faultAt : MethodName := ⟨RX7, "faultAt", "(I)I"⟩
abbrev cX7_shipOf : ByteArray := prog_9_method_34_code
def yX7_shipOf : MethodName := ⟨RX7, "shipOf", "(II)I"⟩
abbrev cX7_way : ByteArray := prog_9_method_35_code
def yX7_way : MethodName := ⟨RX7, "way", "(II)I"⟩
abbrev cX7_sum : ByteArray := prog_9_method_36_code
def yX7_sum : MethodName := ⟨RX7, "sum", "(II)I"⟩
abbrev cX7_sumAnew : ByteArray := prog_9_method_37_code
def yX7_sumAnew : MethodName := ⟨RX7, "sumAnew", "(I)I"⟩
abbrev cX7_account : ByteArray := prog_9_method_38_code
def yX7_account : MethodName := ⟨RX7, "account", "(II)J"⟩
abbrev cX7_reach : ByteArray := prog_9_method_39_code
def yX7_reach : MethodName := ⟨RX7, "reach", "(I)I"⟩
def RJx145de : String := "java/io/Serializable"
def TJx145de : u_T := fun k => match k with
  | _ => ("", "", "", false)
def tyJx145de : Nat → FieldType := fun k => match k with
  | _ => .int
abbrev wsJx145de0 : List Cond := u_ws RJx145de TJx145de 0
theorem nmJx145de : ∀ a, a < 0 → ∀ b, b < 0 → a ≠ b → (TJx145de a).2.1 ≠ (TJx145de b).2.1 := by decide +kernel
theorem tyJx145de_ok : ∀ k, k < 0 → parseFieldDescriptor (TJx145de k).2.2.1 = some (tyJx145de k) := by decide +kernel
def RJ9 : String := "java/lang/Math"
def TJ9 : u_T := fun k => match k with
  | _ => ("", "", "", false)
def tyJ9 : Nat → FieldType := fun k => match k with
  | _ => .int
abbrev wsJ90 : List Cond := u_ws RJ9 TJ9 0
theorem nmJ9 : ∀ a, a < 0 → ∀ b, b < 0 → a ≠ b → (TJ9 a).2.1 ≠ (TJ9 b).2.1 := by decide +kernel
theorem tyJ9_ok : ∀ k, k < 0 → parseFieldDescriptor (TJ9 k).2.2.1 = some (tyJ9 k) := by decide +kernel
abbrev cJ9_abs_0f7a4 : ByteArray := prog_14_method_59_code
def yJ9_abs_0f7a4 : MethodName := ⟨RJ9, "abs", "(I)I"⟩
abbrev cJ9_min_7cf53 : ByteArray := prog_14_method_69_code
def yJ9_min_7cf53 : MethodName := ⟨RJ9, "min", "(II)I"⟩
abbrev cJ9_min_f86c9 : ByteArray := prog_14_method_70_code
def yJ9_min_f86c9 : MethodName := ⟨RJ9, "min", "(JJ)J"⟩
def RJ0 : String := "java/lang/String"
def TJ0 : u_T := fun k => match k with
  | _ => ("", "", "", false)
def tyJ0 : Nat → FieldType := fun k => match k with
  | _ => .int
abbrev wsJ00 : List Cond := u_ws RJ0 TJ0 0
theorem nmJ0 : ∀ a, a < 0 → ∀ b, b < 0 → a ≠ b → (TJ0 a).2.1 ≠ (TJ0 b).2.1 := by decide +kernel
theorem tyJ0_ok : ∀ k, k < 0 → parseFieldDescriptor (TJ0 k).2.2.1 = some (tyJ0 k) := by decide +kernel
def RJ7 : String := "java/util/Arrays"
def TJ7 : u_T := fun k => match k with
  | _ => ("", "", "", false)
def tyJ7 : Nat → FieldType := fun k => match k with
  | _ => .int
abbrev wsJ70 : List Cond := u_ws RJ7 TJ7 0
theorem nmJ7 : ∀ a, a < 0 → ∀ b, b < 0 → a ≠ b → (TJ7 a).2.1 ≠ (TJ7 b).2.1 := by decide +kernel
theorem tyJ7_ok : ∀ k, k < 0 → parseFieldDescriptor (TJ7 k).2.2.1 = some (tyJ7 k) := by decide +kernel
abbrev cJ7_fill_d0a16 : ByteArray := prog_18_method_101_code
def yJ7_fill_d0a16 : MethodName := ⟨RJ7, "fill", "([JJ)V"⟩
abbrev cJ7_fill_53178 : ByteArray := prog_18_method_103_code
def yJ7_fill_53178 : MethodName := ⟨RJ7, "fill", "([II)V"⟩
def RL : String := "CableChartLaw"
abbrev cL_island : ByteArray := method_3_code
def yL_island : MethodName := ⟨RL, "island", "(LCableChart;II[J)I"⟩
abbrev cL_cable : ByteArray := method_4_code
def yL_cable : MethodName := ⟨RL, "cable", "(LCableChart;IIIII[J)I"⟩
abbrev cL_price : ByteArray := method_5_code
def yL_price : MethodName := ⟨RL, "price", "(LCableChart;II[J)I"⟩
abbrev cL_fault : ByteArray := method_6_code
def yL_fault : MethodName := ⟨RL, "fault", "(LCableChart;II[J)I"⟩
abbrev cL_ship : ByteArray := method_7_code
def yL_ship : MethodName := ⟨RL, "ship", "(LCableChart;II[J)I"⟩
abbrev cL_send : ByteArray := method_8_code
def yL_send : MethodName := ⟨RL, "send", "(LCableChart;III[J)I"⟩
abbrev cL_home : ByteArray := method_9_code
def yL_home : MethodName := ⟨RL, "home", "(LCableChart;II[J)I"⟩
abbrev cL_trader : ByteArray := method_10_code
def yL_trader : MethodName := ⟨RL, "trader", "(LCableChart;IIIIII[J)I"⟩
abbrev cL_pass : ByteArray := method_11_code
def yL_pass : MethodName := ⟨RL, "pass", "(LCableChart;I[J)I"⟩
abbrev cL_works : ByteArray := method_12_code
def yL_works : MethodName := ⟨RL, "works", "(LCableChart;I[J)I"⟩
abbrev cL_faultAt : ByteArray := method_13_code
def yL_faultAt : MethodName := ⟨RL, "faultAt", "(LCableChart;I[J)I"⟩
abbrev cL_shipOf : ByteArray := method_14_code
def yL_shipOf : MethodName := ⟨RL, "shipOf", "(LCableChart;II[J)I"⟩
abbrev cL_way : ByteArray := method_15_code
def yL_way : MethodName := ⟨RL, "way", "(LCableChart;II[J)I"⟩
abbrev cL_sum : ByteArray := method_16_code
def yL_sum : MethodName := ⟨RL, "sum", "(LCableChart;II[J)I"⟩
abbrev cL_sumAnew : ByteArray := method_17_code
def yL_sumAnew : MethodName := ⟨RL, "sumAnew", "(LCableChart;I[J)I"⟩
abbrev cL_account : ByteArray := method_18_code
def yL_account : MethodName := ⟨RL, "account", "(LCableChart;II[J)I"⟩
abbrev cL_reach : ByteArray := method_19_code
def yL_reach : MethodName := ⟨RL, "reach", "(LCableChart;I[J)I"⟩
abbrev cL_law : ByteArray := code
def yL_law : MethodName := ⟨RL, "law", "([I)Z"⟩
abbrev vwCl : List vw_C := [(RX0, TX0, 6), (RX1, TX1, 2), (RX2, TX2, 6), (RX3, TX3, 8), (RX4, TX4, 11), (RX5, TX5, 4), (RX6, TX6, 9), (RX7, TX7, 31)]
theorem inX0 : ∀ w ∈ wsX00, w ∈ lw_tbl := by decide +kernel
theorem inX1 : ∀ w ∈ wsX10, w ∈ lw_tbl := by decide +kernel
theorem inX2 : ∀ w ∈ wsX20, w ∈ lw_tbl := by decide +kernel
theorem inX3 : ∀ w ∈ wsX30, w ∈ lw_tbl := by decide +kernel
theorem inX4 : ∀ w ∈ wsX40, w ∈ lw_tbl := by decide +kernel
theorem inX5 : ∀ w ∈ wsX50, w ∈ lw_tbl := by decide +kernel
theorem inX6 : ∀ w ∈ wsX60, w ∈ lw_tbl := by decide +kernel
theorem inX7 : ∀ w ∈ wsX70, w ∈ lw_tbl := by decide +kernel
end
section
theorem dX0_init_0 : decode cX0_init 0 = .ok (.aload_n 0, 1) := by decide +kernel
theorem dX0_init_1 : decode cX0_init 1 = .ok (.invokespecial 3, 3) := by decide +kernel
theorem dX0_init_4 : decode cX0_init 4 = .ok (.aload_n 0, 1) := by decide +kernel
theorem dX0_init_5 : decode cX0_init 5 = .ok (.iconst 0, 1) := by decide +kernel
theorem dX0_init_6 : decode cX0_init 6 = .ok (.putfield 9, 3) := by decide +kernel
theorem dX0_init_9 : decode cX0_init 9 = .ok (.aload_n 0, 1) := by decide +kernel
theorem dX0_init_10 : decode cX0_init 10 = .ok (.iload_n 1, 1) := by decide +kernel
theorem dX0_init_11 : decode cX0_init 11 = .ok (.putfield 15, 3) := by decide +kernel
theorem dX0_init_14 : decode cX0_init 14 = .ok (.aload_n 0, 1) := by decide +kernel
theorem dX0_init_15 : decode cX0_init 15 = .ok (.iload_n 2, 1) := by decide +kernel
theorem dX0_init_16 : decode cX0_init 16 = .ok (.putfield 18, 3) := by decide +kernel
theorem dX0_init_19 : decode cX0_init 19 = .ok (.aload_n 0, 1) := by decide +kernel
theorem dX0_init_20 : decode cX0_init 20 = .ok (.iload_n 3, 1) := by decide +kernel
theorem dX0_init_21 : decode cX0_init 21 = .ok (.putfield 21, 3) := by decide +kernel
theorem dX0_init_24 : decode cX0_init 24 = .ok (.aload_n 0, 1) := by decide +kernel
theorem dX0_init_25 : decode cX0_init 25 = .ok (.iload 4, 2) := by decide +kernel
theorem dX0_init_27 : decode cX0_init 27 = .ok (.putfield 24, 3) := by decide +kernel
theorem dX0_init_30 : decode cX0_init 30 = .ok (.aload_n 0, 1) := by decide +kernel
theorem dX0_init_31 : decode cX0_init 31 = .ok (.iload 5, 2) := by decide +kernel
theorem dX0_init_33 : decode cX0_init 33 = .ok (.putfield 27, 3) := by decide +kernel
theorem dX0_init_36 : decode cX0_init 36 = .ok (.return_, 1) := by decide +kernel
theorem dX0_isWorking_0 : decode cX0_isWorking 0 = .ok (.aload_n 0, 1) := by decide +kernel
theorem dX0_isWorking_1 : decode cX0_isWorking 1 = .ok (.getfield 9, 3) := by decide +kernel
theorem dX0_isWorking_4 : decode cX0_isWorking 4 = .ok (.ifCond .ne 7, 3) := by decide +kernel
theorem dX0_isWorking_7 : decode cX0_isWorking 7 = .ok (.iconst 1, 1) := by decide +kernel
theorem dX0_isWorking_8 : decode cX0_isWorking 8 = .ok (.goto 4, 3) := by decide +kernel
theorem dX0_isWorking_11 : decode cX0_isWorking 11 = .ok (.iconst 0, 1) := by decide +kernel
theorem dX0_isWorking_12 : decode cX0_isWorking 12 = .ok (.ireturn, 1) := by decide +kernel
theorem dX0_hasFaultAt_0 : decode cX0_hasFaultAt 0 = .ok (.aload_n 0, 1) := by decide +kernel
theorem dX0_hasFaultAt_1 : decode cX0_hasFaultAt 1 = .ok (.getfield 9, 3) := by decide +kernel
theorem dX0_hasFaultAt_4 : decode cX0_hasFaultAt 4 = .ok (.iload_n 1, 1) := by decide +kernel
theorem dX0_hasFaultAt_5 : decode cX0_hasFaultAt 5 = .ok (.ishr, 1) := by decide +kernel
theorem dX0_hasFaultAt_6 : decode cX0_hasFaultAt 6 = .ok (.iconst 1, 1) := by decide +kernel
theorem dX0_hasFaultAt_7 : decode cX0_hasFaultAt 7 = .ok (.iand, 1) := by decide +kernel
theorem dX0_hasFaultAt_8 : decode cX0_hasFaultAt 8 = .ok (.ifCond .eq 7, 3) := by decide +kernel
theorem dX0_hasFaultAt_11 : decode cX0_hasFaultAt 11 = .ok (.iconst 1, 1) := by decide +kernel
theorem dX0_hasFaultAt_12 : decode cX0_hasFaultAt 12 = .ok (.goto 4, 3) := by decide +kernel
theorem dX0_hasFaultAt_15 : decode cX0_hasFaultAt 15 = .ok (.iconst 0, 1) := by decide +kernel
theorem dX0_hasFaultAt_16 : decode cX0_hasFaultAt 16 = .ok (.ireturn, 1) := by decide +kernel
theorem dX0_leadsTo_0 : decode cX0_leadsTo 0 = .ok (.aload_n 0, 1) := by decide +kernel
theorem dX0_leadsTo_1 : decode cX0_leadsTo 1 = .ok (.getfield 9, 3) := by decide +kernel
theorem dX0_leadsTo_4 : decode cX0_leadsTo 4 = .ok (.ifCond .eq 5, 3) := by decide +kernel
theorem dX0_leadsTo_7 : decode cX0_leadsTo 7 = .ok (.iconst (-1), 1) := by decide +kernel
theorem dX0_leadsTo_8 : decode cX0_leadsTo 8 = .ok (.ireturn, 1) := by decide +kernel
theorem dX0_leadsTo_9 : decode cX0_leadsTo 9 = .ok (.iload_n 1, 1) := by decide +kernel
theorem dX0_leadsTo_10 : decode cX0_leadsTo 10 = .ok (.aload_n 0, 1) := by decide +kernel
theorem dX0_leadsTo_11 : decode cX0_leadsTo 11 = .ok (.getfield 15, 3) := by decide +kernel
theorem dX0_leadsTo_14 : decode cX0_leadsTo 14 = .ok (.if_icmp .ne 8, 3) := by decide +kernel
theorem dX0_leadsTo_17 : decode cX0_leadsTo 17 = .ok (.aload_n 0, 1) := by decide +kernel
theorem dX0_leadsTo_18 : decode cX0_leadsTo 18 = .ok (.getfield 18, 3) := by decide +kernel
theorem dX0_leadsTo_21 : decode cX0_leadsTo 21 = .ok (.ireturn, 1) := by decide +kernel
theorem dX0_leadsTo_22 : decode cX0_leadsTo 22 = .ok (.iload_n 1, 1) := by decide +kernel
theorem dX0_leadsTo_23 : decode cX0_leadsTo 23 = .ok (.aload_n 0, 1) := by decide +kernel
theorem dX0_leadsTo_24 : decode cX0_leadsTo 24 = .ok (.getfield 18, 3) := by decide +kernel
theorem dX0_leadsTo_27 : decode cX0_leadsTo 27 = .ok (.if_icmp .ne 10, 3) := by decide +kernel
theorem dX0_leadsTo_30 : decode cX0_leadsTo 30 = .ok (.aload_n 0, 1) := by decide +kernel
theorem dX0_leadsTo_31 : decode cX0_leadsTo 31 = .ok (.getfield 15, 3) := by decide +kernel
theorem dX0_leadsTo_34 : decode cX0_leadsTo 34 = .ok (.goto 4, 3) := by decide +kernel
theorem dX0_leadsTo_37 : decode cX0_leadsTo 37 = .ok (.iconst (-1), 1) := by decide +kernel
theorem dX0_leadsTo_38 : decode cX0_leadsTo 38 = .ok (.ireturn, 1) := by decide +kernel
theorem dX0_placeOfSpan_0 : decode cX0_placeOfSpan 0 = .ok (.iload_n 2, 1) := by decide +kernel
theorem dX0_placeOfSpan_1 : decode cX0_placeOfSpan 1 = .ok (.iconst 2, 1) := by decide +kernel
theorem dX0_placeOfSpan_2 : decode cX0_placeOfSpan 2 = .ok (.iload_n 1, 1) := by decide +kernel
theorem dX0_placeOfSpan_3 : decode cX0_placeOfSpan 3 = .ok (.imul, 1) := by decide +kernel
theorem dX0_placeOfSpan_4 : decode cX0_placeOfSpan 4 = .ok (.iconst 1, 1) := by decide +kernel
theorem dX0_placeOfSpan_5 : decode cX0_placeOfSpan 5 = .ok (.iadd, 1) := by decide +kernel
theorem dX0_placeOfSpan_6 : decode cX0_placeOfSpan 6 = .ok (.iload_n 3, 1) := by decide +kernel
theorem dX0_placeOfSpan_7 : decode cX0_placeOfSpan 7 = .ok (.iload_n 2, 1) := by decide +kernel
theorem dX0_placeOfSpan_8 : decode cX0_placeOfSpan 8 = .ok (.isub, 1) := by decide +kernel
theorem dX0_placeOfSpan_9 : decode cX0_placeOfSpan 9 = .ok (.imul, 1) := by decide +kernel
theorem dX0_placeOfSpan_10 : decode cX0_placeOfSpan 10 = .ok (.iconst 2, 1) := by decide +kernel
theorem dX0_placeOfSpan_11 : decode cX0_placeOfSpan 11 = .ok (.aload_n 0, 1) := by decide +kernel
theorem dX0_placeOfSpan_12 : decode cX0_placeOfSpan 12 = .ok (.getfield 21, 3) := by decide +kernel
theorem dX0_placeOfSpan_15 : decode cX0_placeOfSpan 15 = .ok (.imul, 1) := by decide +kernel
theorem dX0_placeOfSpan_16 : decode cX0_placeOfSpan 16 = .ok (.idiv, 1) := by decide +kernel
theorem dX0_placeOfSpan_17 : decode cX0_placeOfSpan 17 = .ok (.iadd, 1) := by decide +kernel
theorem dX0_placeOfSpan_18 : decode cX0_placeOfSpan 18 = .ok (.ireturn, 1) := by decide +kernel
theorem dX0_cost_0 : decode cX0_cost 0 = .ok (.aload_n 0, 1) := by decide +kernel
theorem dX0_cost_1 : decode cX0_cost 1 = .ok (.getfield 27, 3) := by decide +kernel
theorem dX0_cost_4 : decode cX0_cost 4 = .ok (.i2l, 1) := by decide +kernel
theorem dX0_cost_5 : decode cX0_cost 5 = .ok (.bipush 17, 2) := by decide +kernel
theorem dX0_cost_7 : decode cX0_cost 7 = .ok (.lshl, 1) := by decide +kernel
theorem dX0_cost_8 : decode cX0_cost 8 = .ok (.aload_n 0, 1) := by decide +kernel
theorem dX0_cost_9 : decode cX0_cost 9 = .ok (.getfield 24, 3) := by decide +kernel
theorem dX0_cost_12 : decode cX0_cost 12 = .ok (.i2l, 1) := by decide +kernel
theorem dX0_cost_13 : decode cX0_cost 13 = .ok (.iconst 4, 1) := by decide +kernel
theorem dX0_cost_14 : decode cX0_cost 14 = .ok (.lshl, 1) := by decide +kernel
theorem dX0_cost_15 : decode cX0_cost 15 = .ok (.ladd, 1) := by decide +kernel
theorem dX0_cost_16 : decode cX0_cost 16 = .ok (.lconst 1, 1) := by decide +kernel
theorem dX0_cost_17 : decode cX0_cost 17 = .ok (.ladd, 1) := by decide +kernel
theorem dX0_cost_18 : decode cX0_cost 18 = .ok (.lreturn, 1) := by decide +kernel
theorem dX1_init_0 : decode cX1_init 0 = .ok (.aload_n 0, 1) := by decide +kernel
theorem dX1_init_1 : decode cX1_init 1 = .ok (.invokespecial 1, 3) := by decide +kernel
theorem dX1_init_4 : decode cX1_init 4 = .ok (.aload_n 0, 1) := by decide +kernel
theorem dX1_init_5 : decode cX1_init 5 = .ok (.iload_n 1, 1) := by decide +kernel
theorem dX1_init_6 : decode cX1_init 6 = .ok (.putfield 7, 3) := by decide +kernel
theorem dX1_init_9 : decode cX1_init 9 = .ok (.aload_n 0, 1) := by decide +kernel
theorem dX1_init_10 : decode cX1_init 10 = .ok (.iload_n 2, 1) := by decide +kernel
theorem dX1_init_11 : decode cX1_init 11 = .ok (.putfield 13, 3) := by decide +kernel
theorem dX1_init_14 : decode cX1_init 14 = .ok (.return_, 1) := by decide +kernel
theorem dX2_init_0 : decode cX2_init 0 = .ok (.aload_n 0, 1) := by decide +kernel
theorem dX2_init_1 : decode cX2_init 1 = .ok (.invokespecial 3, 3) := by decide +kernel
theorem dX2_init_4 : decode cX2_init 4 = .ok (.aload_n 0, 1) := by decide +kernel
theorem dX2_init_5 : decode cX2_init 5 = .ok (.bipush 16, 2) := by decide +kernel
theorem dX2_init_7 : decode cX2_init 7 = .ok (.anewarray 9, 3) := by decide +kernel
theorem dX2_init_10 : decode cX2_init 10 = .ok (.putfield 11, 3) := by decide +kernel
theorem dX2_init_13 : decode cX2_init 13 = .ok (.aload_n 0, 1) := by decide +kernel
theorem dX2_init_14 : decode cX2_init 14 = .ok (.iconst 0, 1) := by decide +kernel
theorem dX2_init_15 : decode cX2_init 15 = .ok (.putfield 17, 3) := by decide +kernel
theorem dX2_init_18 : decode cX2_init 18 = .ok (.aload_n 0, 1) := by decide +kernel
theorem dX2_init_19 : decode cX2_init 19 = .ok (.sipush 128, 3) := by decide +kernel
theorem dX2_init_22 : decode cX2_init 22 = .ok (.newarray .int, 2) := by decide +kernel
theorem dX2_init_24 : decode cX2_init 24 = .ok (.putfield 21, 3) := by decide +kernel
theorem dX2_init_27 : decode cX2_init 27 = .ok (.aload_n 0, 1) := by decide +kernel
theorem dX2_init_28 : decode cX2_init 28 = .ok (.iconst 0, 1) := by decide +kernel
theorem dX2_init_29 : decode cX2_init 29 = .ok (.putfield 25, 3) := by decide +kernel
theorem dX2_init_32 : decode cX2_init 32 = .ok (.aload_n 0, 1) := by decide +kernel
theorem dX2_init_33 : decode cX2_init 33 = .ok (.bipush 10, 2) := by decide +kernel
theorem dX2_init_35 : decode cX2_init 35 = .ok (.newarray .long, 2) := by decide +kernel
theorem dX2_init_37 : decode cX2_init 37 = .ok (.putfield 28, 3) := by decide +kernel
theorem dX2_init_40 : decode cX2_init 40 = .ok (.aload_n 0, 1) := by decide +kernel
theorem dX2_init_41 : decode cX2_init 41 = .ok (.bipush 10, 2) := by decide +kernel
theorem dX2_init_43 : decode cX2_init 43 = .ok (.newarray .int, 2) := by decide +kernel
theorem dX2_init_45 : decode cX2_init 45 = .ok (.putfield 32, 3) := by decide +kernel
theorem dX2_init_48 : decode cX2_init 48 = .ok (.return_, 1) := by decide +kernel
theorem dX2_lay_0 : decode cX2_lay 0 = .ok (.aload_n 0, 1) := by decide +kernel
theorem dX2_lay_1 : decode cX2_lay 1 = .ok (.getfield 11, 3) := by decide +kernel
theorem dX2_lay_4 : decode cX2_lay 4 = .ok (.aload_n 0, 1) := by decide +kernel
theorem dX2_lay_5 : decode cX2_lay 5 = .ok (.getfield 17, 3) := by decide +kernel
theorem dX2_lay_8 : decode cX2_lay 8 = .ok (.aload_n 1, 1) := by decide +kernel
theorem dX2_lay_9 : decode cX2_lay 9 = .ok (.aastore, 1) := by decide +kernel
theorem dX2_lay_10 : decode cX2_lay 10 = .ok (.aload_n 0, 1) := by decide +kernel
theorem dX2_lay_11 : decode cX2_lay 11 = .ok (.dup, 1) := by decide +kernel
theorem dX2_lay_12 : decode cX2_lay 12 = .ok (.getfield 17, 3) := by decide +kernel
theorem dX2_lay_15 : decode cX2_lay 15 = .ok (.iconst 1, 1) := by decide +kernel
theorem dX2_lay_16 : decode cX2_lay 16 = .ok (.iadd, 1) := by decide +kernel
theorem dX2_lay_17 : decode cX2_lay 17 = .ok (.putfield 17, 3) := by decide +kernel
theorem dX2_lay_20 : decode cX2_lay 20 = .ok (.aload_n 0, 1) := by decide +kernel
theorem dX2_lay_21 : decode cX2_lay 21 = .ok (.getfield 17, 3) := by decide +kernel
theorem dX2_lay_24 : decode cX2_lay 24 = .ok (.iconst 1, 1) := by decide +kernel
theorem dX2_lay_25 : decode cX2_lay 25 = .ok (.isub, 1) := by decide +kernel
theorem dX2_lay_26 : decode cX2_lay 26 = .ok (.ireturn, 1) := by decide +kernel
theorem dX2_addFault_0 : decode cX2_addFault 0 = .ok (.aload_n 0, 1) := by decide +kernel
theorem dX2_addFault_1 : decode cX2_addFault 1 = .ok (.getfield 11, 3) := by decide +kernel
theorem dX2_addFault_4 : decode cX2_addFault 4 = .ok (.iload_n 1, 1) := by decide +kernel
theorem dX2_addFault_5 : decode cX2_addFault 5 = .ok (.aaload, 1) := by decide +kernel
theorem dX2_addFault_6 : decode cX2_addFault 6 = .ok (.dup, 1) := by decide +kernel
theorem dX2_addFault_7 : decode cX2_addFault 7 = .ok (.getfield 35, 3) := by decide +kernel
theorem dX2_addFault_10 : decode cX2_addFault 10 = .ok (.iconst 1, 1) := by decide +kernel
theorem dX2_addFault_11 : decode cX2_addFault 11 = .ok (.iload_n 2, 1) := by decide +kernel
theorem dX2_addFault_12 : decode cX2_addFault 12 = .ok (.ishl, 1) := by decide +kernel
theorem dX2_addFault_13 : decode cX2_addFault 13 = .ok (.ior, 1) := by decide +kernel
theorem dX2_addFault_14 : decode cX2_addFault 14 = .ok (.putfield 35, 3) := by decide +kernel
theorem dX2_addFault_17 : decode cX2_addFault 17 = .ok (.aload_n 0, 1) := by decide +kernel
theorem dX2_addFault_18 : decode cX2_addFault 18 = .ok (.getfield 21, 3) := by decide +kernel
theorem dX2_addFault_21 : decode cX2_addFault 21 = .ok (.aload_n 0, 1) := by decide +kernel
theorem dX2_addFault_22 : decode cX2_addFault 22 = .ok (.getfield 25, 3) := by decide +kernel
theorem dX2_addFault_25 : decode cX2_addFault 25 = .ok (.iload_n 1, 1) := by decide +kernel
theorem dX2_addFault_26 : decode cX2_addFault 26 = .ok (.iload_n 2, 1) := by decide +kernel
theorem dX2_addFault_27 : decode cX2_addFault 27 = .ok (.invokestatic 38, 3) := by decide +kernel
theorem dX2_addFault_30 : decode cX2_addFault 30 = .ok (.iastore, 1) := by decide +kernel
theorem dX2_addFault_31 : decode cX2_addFault 31 = .ok (.aload_n 0, 1) := by decide +kernel
theorem dX2_addFault_32 : decode cX2_addFault 32 = .ok (.dup, 1) := by decide +kernel
theorem dX2_addFault_33 : decode cX2_addFault 33 = .ok (.getfield 25, 3) := by decide +kernel
theorem dX2_addFault_36 : decode cX2_addFault 36 = .ok (.iconst 1, 1) := by decide +kernel
theorem dX2_addFault_37 : decode cX2_addFault 37 = .ok (.iadd, 1) := by decide +kernel
theorem dX2_addFault_38 : decode cX2_addFault 38 = .ok (.putfield 25, 3) := by decide +kernel
theorem dX2_addFault_41 : decode cX2_addFault 41 = .ok (.aload_n 0, 1) := by decide +kernel
theorem dX2_addFault_42 : decode cX2_addFault 42 = .ok (.getfield 25, 3) := by decide +kernel
theorem dX2_addFault_45 : decode cX2_addFault 45 = .ok (.ireturn, 1) := by decide +kernel
theorem dX2_removeFault_0 : decode cX2_removeFault 0 = .ok (.iconst 0, 1) := by decide +kernel
theorem dX2_removeFault_1 : decode cX2_removeFault 1 = .ok (.istore_n 3, 1) := by decide +kernel
theorem dX2_removeFault_2 : decode cX2_removeFault 2 = .ok (.iconst 0, 1) := by decide +kernel
theorem dX2_removeFault_3 : decode cX2_removeFault 3 = .ok (.istore 4, 2) := by decide +kernel
theorem dX2_removeFault_5 : decode cX2_removeFault 5 = .ok (.iload 4, 2) := by decide +kernel
theorem dX2_removeFault_7 : decode cX2_removeFault 7 = .ok (.aload_n 0, 1) := by decide +kernel
theorem dX2_removeFault_8 : decode cX2_removeFault 8 = .ok (.getfield 25, 3) := by decide +kernel
theorem dX2_removeFault_11 : decode cX2_removeFault 11 = .ok (.if_icmp .ge 40, 3) := by decide +kernel
theorem dX2_removeFault_14 : decode cX2_removeFault 14 = .ok (.aload_n 0, 1) := by decide +kernel
theorem dX2_removeFault_15 : decode cX2_removeFault 15 = .ok (.getfield 21, 3) := by decide +kernel
theorem dX2_removeFault_18 : decode cX2_removeFault 18 = .ok (.iload 4, 2) := by decide +kernel
theorem dX2_removeFault_20 : decode cX2_removeFault 20 = .ok (.iaload, 1) := by decide +kernel
theorem dX2_removeFault_21 : decode cX2_removeFault 21 = .ok (.iload_n 1, 1) := by decide +kernel
theorem dX2_removeFault_22 : decode cX2_removeFault 22 = .ok (.iload_n 2, 1) := by decide +kernel
theorem dX2_removeFault_23 : decode cX2_removeFault 23 = .ok (.invokestatic 38, 3) := by decide +kernel
theorem dX2_removeFault_26 : decode cX2_removeFault 26 = .ok (.if_icmp .eq 19, 3) := by decide +kernel
theorem dX2_removeFault_29 : decode cX2_removeFault 29 = .ok (.aload_n 0, 1) := by decide +kernel
theorem dX2_removeFault_30 : decode cX2_removeFault 30 = .ok (.getfield 21, 3) := by decide +kernel
theorem dX2_removeFault_33 : decode cX2_removeFault 33 = .ok (.iload_n 3, 1) := by decide +kernel
theorem dX2_removeFault_34 : decode cX2_removeFault 34 = .ok (.aload_n 0, 1) := by decide +kernel
theorem dX2_removeFault_35 : decode cX2_removeFault 35 = .ok (.getfield 21, 3) := by decide +kernel
theorem dX2_removeFault_38 : decode cX2_removeFault 38 = .ok (.iload 4, 2) := by decide +kernel
theorem dX2_removeFault_40 : decode cX2_removeFault 40 = .ok (.iaload, 1) := by decide +kernel
theorem dX2_removeFault_41 : decode cX2_removeFault 41 = .ok (.iastore, 1) := by decide +kernel
theorem dX2_removeFault_42 : decode cX2_removeFault 42 = .ok (.iinc 3 1, 3) := by decide +kernel
theorem dX2_removeFault_45 : decode cX2_removeFault 45 = .ok (.iinc 4 1, 3) := by decide +kernel
theorem dX2_removeFault_48 : decode cX2_removeFault 48 = .ok (.goto (-43), 3) := by decide +kernel
theorem dX2_removeFault_51 : decode cX2_removeFault 51 = .ok (.aload_n 0, 1) := by decide +kernel
theorem dX2_removeFault_52 : decode cX2_removeFault 52 = .ok (.iload_n 3, 1) := by decide +kernel
theorem dX2_removeFault_53 : decode cX2_removeFault 53 = .ok (.putfield 25, 3) := by decide +kernel
theorem dX2_removeFault_56 : decode cX2_removeFault 56 = .ok (.aload_n 0, 1) := by decide +kernel
theorem dX2_removeFault_57 : decode cX2_removeFault 57 = .ok (.getfield 11, 3) := by decide +kernel
theorem dX2_removeFault_60 : decode cX2_removeFault 60 = .ok (.iload_n 1, 1) := by decide +kernel
theorem dX2_removeFault_61 : decode cX2_removeFault 61 = .ok (.aaload, 1) := by decide +kernel
theorem dX2_removeFault_62 : decode cX2_removeFault 62 = .ok (.dup, 1) := by decide +kernel
theorem dX2_removeFault_63 : decode cX2_removeFault 63 = .ok (.getfield 35, 3) := by decide +kernel
theorem dX2_removeFault_66 : decode cX2_removeFault 66 = .ok (.iconst 1, 1) := by decide +kernel
theorem dX2_removeFault_67 : decode cX2_removeFault 67 = .ok (.iload_n 2, 1) := by decide +kernel
theorem dX2_removeFault_68 : decode cX2_removeFault 68 = .ok (.ishl, 1) := by decide +kernel
theorem dX2_removeFault_69 : decode cX2_removeFault 69 = .ok (.iconst (-1), 1) := by decide +kernel
theorem dX2_removeFault_70 : decode cX2_removeFault 70 = .ok (.ixor, 1) := by decide +kernel
theorem dX2_removeFault_71 : decode cX2_removeFault 71 = .ok (.iand, 1) := by decide +kernel
theorem dX2_removeFault_72 : decode cX2_removeFault 72 = .ok (.putfield 35, 3) := by decide +kernel
theorem dX2_removeFault_75 : decode cX2_removeFault 75 = .ok (.return_, 1) := by decide +kernel
theorem dX2_faultRanked_0 : decode cX2_faultRanked 0 = .ok (.iload_n 1, 1) := by decide +kernel
theorem dX2_faultRanked_1 : decode cX2_faultRanked 1 = .ok (.aload_n 0, 1) := by decide +kernel
theorem dX2_faultRanked_2 : decode cX2_faultRanked 2 = .ok (.getfield 25, 3) := by decide +kernel
theorem dX2_faultRanked_5 : decode cX2_faultRanked 5 = .ok (.if_icmp .ge 12, 3) := by decide +kernel
theorem dX2_faultRanked_8 : decode cX2_faultRanked 8 = .ok (.aload_n 0, 1) := by decide +kernel
theorem dX2_faultRanked_9 : decode cX2_faultRanked 9 = .ok (.getfield 21, 3) := by decide +kernel
theorem dX2_faultRanked_12 : decode cX2_faultRanked 12 = .ok (.iload_n 1, 1) := by decide +kernel
theorem dX2_faultRanked_13 : decode cX2_faultRanked 13 = .ok (.iaload, 1) := by decide +kernel
theorem dX2_faultRanked_14 : decode cX2_faultRanked 14 = .ok (.goto 4, 3) := by decide +kernel
theorem dX2_faultRanked_17 : decode cX2_faultRanked 17 = .ok (.iconst (-1), 1) := by decide +kernel
theorem dX2_faultRanked_18 : decode cX2_faultRanked 18 = .ok (.ireturn, 1) := by decide +kernel
theorem dX2_faultCode_0 : decode cX2_faultCode 0 = .ok (.bipush 8, 2) := by decide +kernel
theorem dX2_faultCode_2 : decode cX2_faultCode 2 = .ok (.iload_n 0, 1) := by decide +kernel
theorem dX2_faultCode_3 : decode cX2_faultCode 3 = .ok (.imul, 1) := by decide +kernel
theorem dX2_faultCode_4 : decode cX2_faultCode 4 = .ok (.iload_n 1, 1) := by decide +kernel
theorem dX2_faultCode_5 : decode cX2_faultCode 5 = .ok (.iadd, 1) := by decide +kernel
theorem dX2_faultCode_6 : decode cX2_faultCode 6 = .ok (.ireturn, 1) := by decide +kernel
theorem dX2_findWay_0 : decode cX2_findWay 0 = .ok (.aload_n 3, 1) := by decide +kernel
theorem dX2_findWay_1 : decode cX2_findWay 1 = .ok (.invokevirtual 42, 3) := by decide +kernel
theorem dX2_findWay_4 : decode cX2_findWay 4 = .ok (.aload_n 0, 1) := by decide +kernel
theorem dX2_findWay_5 : decode cX2_findWay 5 = .ok (.iload_n 2, 1) := by decide +kernel
theorem dX2_findWay_6 : decode cX2_findWay 6 = .ok (.invokevirtual 47, 3) := by decide +kernel
theorem dX2_findWay_9 : decode cX2_findWay 9 = .ok (.aload_n 0, 1) := by decide +kernel
theorem dX2_findWay_10 : decode cX2_findWay 10 = .ok (.getfield 28, 3) := by decide +kernel
theorem dX2_findWay_13 : decode cX2_findWay 13 = .ok (.iload_n 1, 1) := by decide +kernel
theorem dX2_findWay_14 : decode cX2_findWay 14 = .ok (.laload, 1) := by decide +kernel
theorem dX2_findWay_15 : decode cX2_findWay 15 = .ok (.ldc2_w 51, 3) := by decide +kernel
theorem dX2_findWay_18 : decode cX2_findWay 18 = .ok (.lcmp, 1) := by decide +kernel
theorem dX2_findWay_19 : decode cX2_findWay 19 = .ok (.ifCond .ne 4, 3) := by decide +kernel
theorem dX2_findWay_22 : decode cX2_findWay 22 = .ok (.return_, 1) := by decide +kernel
theorem dX2_findWay_23 : decode cX2_findWay 23 = .ok (.aload_n 3, 1) := by decide +kernel
theorem dX2_findWay_24 : decode cX2_findWay 24 = .ok (.invokevirtual 53, 3) := by decide +kernel
theorem dX2_findWay_27 : decode cX2_findWay 27 = .ok (.iload_n 1, 1) := by decide +kernel
theorem dX2_findWay_28 : decode cX2_findWay 28 = .ok (.istore 4, 2) := by decide +kernel
theorem dX2_findWay_30 : decode cX2_findWay 30 = .ok (.iconst 0, 1) := by decide +kernel
theorem dX2_findWay_31 : decode cX2_findWay 31 = .ok (.istore 5, 2) := by decide +kernel
theorem dX2_findWay_33 : decode cX2_findWay 33 = .ok (.iload 5, 2) := by decide +kernel
theorem dX2_findWay_35 : decode cX2_findWay 35 = .ok (.bipush 10, 2) := by decide +kernel
theorem dX2_findWay_37 : decode cX2_findWay 37 = .ok (.if_icmp .ge 57, 3) := by decide +kernel
theorem dX2_findWay_40 : decode cX2_findWay 40 = .ok (.iload 4, 2) := by decide +kernel
theorem dX2_findWay_42 : decode cX2_findWay 42 = .ok (.iload_n 2, 1) := by decide +kernel
theorem dX2_findWay_43 : decode cX2_findWay 43 = .ok (.if_icmp .eq 51, 3) := by decide +kernel
theorem dX2_findWay_46 : decode cX2_findWay 46 = .ok (.aload_n 0, 1) := by decide +kernel
theorem dX2_findWay_47 : decode cX2_findWay 47 = .ok (.iload 4, 2) := by decide +kernel
theorem dX2_findWay_49 : decode cX2_findWay 49 = .ok (.invokevirtual 56, 3) := by decide +kernel
theorem dX2_findWay_52 : decode cX2_findWay 52 = .ok (.istore 6, 2) := by decide +kernel
theorem dX2_findWay_54 : decode cX2_findWay 54 = .ok (.iload 6, 2) := by decide +kernel
theorem dX2_findWay_56 : decode cX2_findWay 56 = .ok (.iconst (-1), 1) := by decide +kernel
theorem dX2_findWay_57 : decode cX2_findWay 57 = .ok (.if_icmp .ne 4, 3) := by decide +kernel
theorem dX2_findWay_60 : decode cX2_findWay 60 = .ok (.return_, 1) := by decide +kernel
theorem dX2_findWay_61 : decode cX2_findWay 61 = .ok (.aload_n 3, 1) := by decide +kernel
theorem dX2_findWay_62 : decode cX2_findWay 62 = .ok (.iload 6, 2) := by decide +kernel
theorem dX2_findWay_64 : decode cX2_findWay 64 = .ok (.aload_n 0, 1) := by decide +kernel
theorem dX2_findWay_65 : decode cX2_findWay 65 = .ok (.getfield 11, 3) := by decide +kernel
theorem dX2_findWay_68 : decode cX2_findWay 68 = .ok (.iload 6, 2) := by decide +kernel
theorem dX2_findWay_70 : decode cX2_findWay 70 = .ok (.aaload, 1) := by decide +kernel
theorem dX2_findWay_71 : decode cX2_findWay 71 = .ok (.invokevirtual 60, 3) := by decide +kernel
theorem dX2_findWay_74 : decode cX2_findWay 74 = .ok (.aload_n 0, 1) := by decide +kernel
theorem dX2_findWay_75 : decode cX2_findWay 75 = .ok (.getfield 11, 3) := by decide +kernel
theorem dX2_findWay_78 : decode cX2_findWay 78 = .ok (.iload 6, 2) := by decide +kernel
theorem dX2_findWay_80 : decode cX2_findWay 80 = .ok (.aaload, 1) := by decide +kernel
theorem dX2_findWay_81 : decode cX2_findWay 81 = .ok (.iload 4, 2) := by decide +kernel
theorem dX2_findWay_83 : decode cX2_findWay 83 = .ok (.invokevirtual 64, 3) := by decide +kernel
theorem dX2_findWay_86 : decode cX2_findWay 86 = .ok (.istore 4, 2) := by decide +kernel
theorem dX2_findWay_88 : decode cX2_findWay 88 = .ok (.iinc 5 1, 3) := by decide +kernel
theorem dX2_findWay_91 : decode cX2_findWay 91 = .ok (.goto (-58), 3) := by decide +kernel
theorem dX2_findWay_94 : decode cX2_findWay 94 = .ok (.return_, 1) := by decide +kernel
theorem dX2_measureTo_0 : decode cX2_measureTo 0 = .ok (.aload_n 0, 1) := by decide +kernel
theorem dX2_measureTo_1 : decode cX2_measureTo 1 = .ok (.getfield 28, 3) := by decide +kernel
theorem dX2_measureTo_4 : decode cX2_measureTo 4 = .ok (.ldc2_w 51, 3) := by decide +kernel
theorem dX2_measureTo_7 : decode cX2_measureTo 7 = .ok (.invokestatic 67, 3) := by decide +kernel
theorem dX2_measureTo_10 : decode cX2_measureTo 10 = .ok (.aload_n 0, 1) := by decide +kernel
theorem dX2_measureTo_11 : decode cX2_measureTo 11 = .ok (.getfield 28, 3) := by decide +kernel
theorem dX2_measureTo_14 : decode cX2_measureTo 14 = .ok (.iload_n 1, 1) := by decide +kernel
theorem dX2_measureTo_15 : decode cX2_measureTo 15 = .ok (.lconst 0, 1) := by decide +kernel
theorem dX2_measureTo_16 : decode cX2_measureTo 16 = .ok (.lastore, 1) := by decide +kernel
theorem dX2_measureTo_17 : decode cX2_measureTo 17 = .ok (.iconst 0, 1) := by decide +kernel
theorem dX2_measureTo_18 : decode cX2_measureTo 18 = .ok (.istore_n 2, 1) := by decide +kernel
theorem dX2_measureTo_19 : decode cX2_measureTo 19 = .ok (.iconst 0, 1) := by decide +kernel
theorem dX2_measureTo_20 : decode cX2_measureTo 20 = .ok (.istore_n 3, 1) := by decide +kernel
theorem dX2_measureTo_21 : decode cX2_measureTo 21 = .ok (.iload_n 3, 1) := by decide +kernel
theorem dX2_measureTo_22 : decode cX2_measureTo 22 = .ok (.bipush 10, 2) := by decide +kernel
theorem dX2_measureTo_24 : decode cX2_measureTo 24 = .ok (.if_icmp .ge 36, 3) := by decide +kernel
theorem dX2_measureTo_27 : decode cX2_measureTo 27 = .ok (.aload_n 0, 1) := by decide +kernel
theorem dX2_measureTo_28 : decode cX2_measureTo 28 = .ok (.iload_n 2, 1) := by decide +kernel
theorem dX2_measureTo_29 : decode cX2_measureTo 29 = .ok (.invokevirtual 73, 3) := by decide +kernel
theorem dX2_measureTo_32 : decode cX2_measureTo 32 = .ok (.istore 4, 2) := by decide +kernel
theorem dX2_measureTo_34 : decode cX2_measureTo 34 = .ok (.iload 4, 2) := by decide +kernel
theorem dX2_measureTo_36 : decode cX2_measureTo 36 = .ok (.iconst (-1), 1) := by decide +kernel
theorem dX2_measureTo_37 : decode cX2_measureTo 37 = .ok (.if_icmp .ne 4, 3) := by decide +kernel
theorem dX2_measureTo_40 : decode cX2_measureTo 40 = .ok (.return_, 1) := by decide +kernel
theorem dX2_measureTo_41 : decode cX2_measureTo 41 = .ok (.iload_n 2, 1) := by decide +kernel
theorem dX2_measureTo_42 : decode cX2_measureTo 42 = .ok (.iconst 1, 1) := by decide +kernel
theorem dX2_measureTo_43 : decode cX2_measureTo 43 = .ok (.iload 4, 2) := by decide +kernel
theorem dX2_measureTo_45 : decode cX2_measureTo 45 = .ok (.ishl, 1) := by decide +kernel
theorem dX2_measureTo_46 : decode cX2_measureTo 46 = .ok (.ior, 1) := by decide +kernel
theorem dX2_measureTo_47 : decode cX2_measureTo 47 = .ok (.istore_n 2, 1) := by decide +kernel
theorem dX2_measureTo_48 : decode cX2_measureTo 48 = .ok (.aload_n 0, 1) := by decide +kernel
theorem dX2_measureTo_49 : decode cX2_measureTo 49 = .ok (.iload 4, 2) := by decide +kernel
theorem dX2_measureTo_51 : decode cX2_measureTo 51 = .ok (.invokevirtual 76, 3) := by decide +kernel
theorem dX2_measureTo_54 : decode cX2_measureTo 54 = .ok (.iinc 3 1, 3) := by decide +kernel
theorem dX2_measureTo_57 : decode cX2_measureTo 57 = .ok (.goto (-36), 3) := by decide +kernel
theorem dX2_measureTo_60 : decode cX2_measureTo 60 = .ok (.return_, 1) := by decide +kernel
theorem dX2_nearestBeside_0 : decode cX2_nearestBeside 0 = .ok (.iconst (-1), 1) := by decide +kernel
theorem dX2_nearestBeside_1 : decode cX2_nearestBeside 1 = .ok (.istore_n 2, 1) := by decide +kernel
theorem dX2_nearestBeside_2 : decode cX2_nearestBeside 2 = .ok (.ldc2_w 51, 3) := by decide +kernel
theorem dX2_nearestBeside_5 : decode cX2_nearestBeside 5 = .ok (.lstore_n 3, 1) := by decide +kernel
theorem dX2_nearestBeside_6 : decode cX2_nearestBeside 6 = .ok (.iconst 0, 1) := by decide +kernel
theorem dX2_nearestBeside_7 : decode cX2_nearestBeside 7 = .ok (.istore 5, 2) := by decide +kernel
theorem dX2_nearestBeside_9 : decode cX2_nearestBeside 9 = .ok (.iload 5, 2) := by decide +kernel
theorem dX2_nearestBeside_11 : decode cX2_nearestBeside 11 = .ok (.bipush 10, 2) := by decide +kernel
theorem dX2_nearestBeside_13 : decode cX2_nearestBeside 13 = .ok (.if_icmp .ge 41, 3) := by decide +kernel
theorem dX2_nearestBeside_16 : decode cX2_nearestBeside 16 = .ok (.iload_n 1, 1) := by decide +kernel
theorem dX2_nearestBeside_17 : decode cX2_nearestBeside 17 = .ok (.iload 5, 2) := by decide +kernel
theorem dX2_nearestBeside_19 : decode cX2_nearestBeside 19 = .ok (.ishr, 1) := by decide +kernel
theorem dX2_nearestBeside_20 : decode cX2_nearestBeside 20 = .ok (.iconst 1, 1) := by decide +kernel
theorem dX2_nearestBeside_21 : decode cX2_nearestBeside 21 = .ok (.iand, 1) := by decide +kernel
theorem dX2_nearestBeside_22 : decode cX2_nearestBeside 22 = .ok (.ifCond .ne 26, 3) := by decide +kernel
theorem dX2_nearestBeside_25 : decode cX2_nearestBeside 25 = .ok (.aload_n 0, 1) := by decide +kernel
theorem dX2_nearestBeside_26 : decode cX2_nearestBeside 26 = .ok (.getfield 28, 3) := by decide +kernel
theorem dX2_nearestBeside_29 : decode cX2_nearestBeside 29 = .ok (.iload 5, 2) := by decide +kernel
theorem dX2_nearestBeside_31 : decode cX2_nearestBeside 31 = .ok (.laload, 1) := by decide +kernel
theorem dX2_nearestBeside_32 : decode cX2_nearestBeside 32 = .ok (.lload_n 3, 1) := by decide +kernel
theorem dX2_nearestBeside_33 : decode cX2_nearestBeside 33 = .ok (.lcmp, 1) := by decide +kernel
theorem dX2_nearestBeside_34 : decode cX2_nearestBeside 34 = .ok (.ifCond .ge 14, 3) := by decide +kernel
theorem dX2_nearestBeside_37 : decode cX2_nearestBeside 37 = .ok (.iload 5, 2) := by decide +kernel
theorem dX2_nearestBeside_39 : decode cX2_nearestBeside 39 = .ok (.istore_n 2, 1) := by decide +kernel
theorem dX2_nearestBeside_40 : decode cX2_nearestBeside 40 = .ok (.aload_n 0, 1) := by decide +kernel
theorem dX2_nearestBeside_41 : decode cX2_nearestBeside 41 = .ok (.getfield 28, 3) := by decide +kernel
theorem dX2_nearestBeside_44 : decode cX2_nearestBeside 44 = .ok (.iload 5, 2) := by decide +kernel
theorem dX2_nearestBeside_46 : decode cX2_nearestBeside 46 = .ok (.laload, 1) := by decide +kernel
theorem dX2_nearestBeside_47 : decode cX2_nearestBeside 47 = .ok (.lstore_n 3, 1) := by decide +kernel
theorem dX2_nearestBeside_48 : decode cX2_nearestBeside 48 = .ok (.iinc 5 1, 3) := by decide +kernel
theorem dX2_nearestBeside_51 : decode cX2_nearestBeside 51 = .ok (.goto (-42), 3) := by decide +kernel
theorem dX2_nearestBeside_54 : decode cX2_nearestBeside 54 = .ok (.iload_n 2, 1) := by decide +kernel
theorem dX2_nearestBeside_55 : decode cX2_nearestBeside 55 = .ok (.ireturn, 1) := by decide +kernel
theorem dX2_spreadFrom_0 : decode cX2_spreadFrom 0 = .ok (.iconst 0, 1) := by decide +kernel
theorem dX2_spreadFrom_1 : decode cX2_spreadFrom 1 = .ok (.istore_n 2, 1) := by decide +kernel
theorem dX2_spreadFrom_2 : decode cX2_spreadFrom 2 = .ok (.iload_n 2, 1) := by decide +kernel
theorem dX2_spreadFrom_3 : decode cX2_spreadFrom 3 = .ok (.aload_n 0, 1) := by decide +kernel
theorem dX2_spreadFrom_4 : decode cX2_spreadFrom 4 = .ok (.getfield 17, 3) := by decide +kernel
theorem dX2_spreadFrom_7 : decode cX2_spreadFrom 7 = .ok (.if_icmp .ge 56, 3) := by decide +kernel
theorem dX2_spreadFrom_10 : decode cX2_spreadFrom 10 = .ok (.aload_n 0, 1) := by decide +kernel
theorem dX2_spreadFrom_11 : decode cX2_spreadFrom 11 = .ok (.getfield 11, 3) := by decide +kernel
theorem dX2_spreadFrom_14 : decode cX2_spreadFrom 14 = .ok (.iload_n 2, 1) := by decide +kernel
theorem dX2_spreadFrom_15 : decode cX2_spreadFrom 15 = .ok (.aaload, 1) := by decide +kernel
theorem dX2_spreadFrom_16 : decode cX2_spreadFrom 16 = .ok (.iload_n 1, 1) := by decide +kernel
theorem dX2_spreadFrom_17 : decode cX2_spreadFrom 17 = .ok (.invokevirtual 64, 3) := by decide +kernel
theorem dX2_spreadFrom_20 : decode cX2_spreadFrom 20 = .ok (.istore_n 3, 1) := by decide +kernel
theorem dX2_spreadFrom_21 : decode cX2_spreadFrom 21 = .ok (.iload_n 3, 1) := by decide +kernel
theorem dX2_spreadFrom_22 : decode cX2_spreadFrom 22 = .ok (.iconst (-1), 1) := by decide +kernel
theorem dX2_spreadFrom_23 : decode cX2_spreadFrom 23 = .ok (.if_icmp .eq 34, 3) := by decide +kernel
theorem dX2_spreadFrom_26 : decode cX2_spreadFrom 26 = .ok (.aload_n 0, 1) := by decide +kernel
theorem dX2_spreadFrom_27 : decode cX2_spreadFrom 27 = .ok (.getfield 28, 3) := by decide +kernel
theorem dX2_spreadFrom_30 : decode cX2_spreadFrom 30 = .ok (.iload_n 3, 1) := by decide +kernel
theorem dX2_spreadFrom_31 : decode cX2_spreadFrom 31 = .ok (.aload_n 0, 1) := by decide +kernel
theorem dX2_spreadFrom_32 : decode cX2_spreadFrom 32 = .ok (.getfield 28, 3) := by decide +kernel
theorem dX2_spreadFrom_35 : decode cX2_spreadFrom 35 = .ok (.iload_n 3, 1) := by decide +kernel
theorem dX2_spreadFrom_36 : decode cX2_spreadFrom 36 = .ok (.laload, 1) := by decide +kernel
theorem dX2_spreadFrom_37 : decode cX2_spreadFrom 37 = .ok (.aload_n 0, 1) := by decide +kernel
theorem dX2_spreadFrom_38 : decode cX2_spreadFrom 38 = .ok (.getfield 28, 3) := by decide +kernel
theorem dX2_spreadFrom_41 : decode cX2_spreadFrom 41 = .ok (.iload_n 1, 1) := by decide +kernel
theorem dX2_spreadFrom_42 : decode cX2_spreadFrom 42 = .ok (.laload, 1) := by decide +kernel
theorem dX2_spreadFrom_43 : decode cX2_spreadFrom 43 = .ok (.aload_n 0, 1) := by decide +kernel
theorem dX2_spreadFrom_44 : decode cX2_spreadFrom 44 = .ok (.getfield 11, 3) := by decide +kernel
theorem dX2_spreadFrom_47 : decode cX2_spreadFrom 47 = .ok (.iload_n 2, 1) := by decide +kernel
theorem dX2_spreadFrom_48 : decode cX2_spreadFrom 48 = .ok (.aaload, 1) := by decide +kernel
theorem dX2_spreadFrom_49 : decode cX2_spreadFrom 49 = .ok (.invokevirtual 79, 3) := by decide +kernel
theorem dX2_spreadFrom_52 : decode cX2_spreadFrom 52 = .ok (.ladd, 1) := by decide +kernel
theorem dX2_spreadFrom_53 : decode cX2_spreadFrom 53 = .ok (.invokestatic 83, 3) := by decide +kernel
theorem dX2_spreadFrom_56 : decode cX2_spreadFrom 56 = .ok (.lastore, 1) := by decide +kernel
theorem dX2_spreadFrom_57 : decode cX2_spreadFrom 57 = .ok (.iinc 2 1, 3) := by decide +kernel
theorem dX2_spreadFrom_60 : decode cX2_spreadFrom 60 = .ok (.goto (-58), 3) := by decide +kernel
theorem dX2_spreadFrom_63 : decode cX2_spreadFrom 63 = .ok (.return_, 1) := by decide +kernel
theorem dX2_lowestBestCable_0 : decode cX2_lowestBestCable 0 = .ok (.iconst 0, 1) := by decide +kernel
theorem dX2_lowestBestCable_1 : decode cX2_lowestBestCable 1 = .ok (.istore_n 2, 1) := by decide +kernel
theorem dX2_lowestBestCable_2 : decode cX2_lowestBestCable 2 = .ok (.iload_n 2, 1) := by decide +kernel
theorem dX2_lowestBestCable_3 : decode cX2_lowestBestCable 3 = .ok (.aload_n 0, 1) := by decide +kernel
theorem dX2_lowestBestCable_4 : decode cX2_lowestBestCable 4 = .ok (.getfield 17, 3) := by decide +kernel
theorem dX2_lowestBestCable_7 : decode cX2_lowestBestCable 7 = .ok (.if_icmp .ge 53, 3) := by decide +kernel
theorem dX2_lowestBestCable_10 : decode cX2_lowestBestCable 10 = .ok (.aload_n 0, 1) := by decide +kernel
theorem dX2_lowestBestCable_11 : decode cX2_lowestBestCable 11 = .ok (.getfield 11, 3) := by decide +kernel
theorem dX2_lowestBestCable_14 : decode cX2_lowestBestCable 14 = .ok (.iload_n 2, 1) := by decide +kernel
theorem dX2_lowestBestCable_15 : decode cX2_lowestBestCable 15 = .ok (.aaload, 1) := by decide +kernel
theorem dX2_lowestBestCable_16 : decode cX2_lowestBestCable 16 = .ok (.iload_n 1, 1) := by decide +kernel
theorem dX2_lowestBestCable_17 : decode cX2_lowestBestCable 17 = .ok (.invokevirtual 64, 3) := by decide +kernel
end
section
theorem dX2_lowestBestCable_20 : decode cX2_lowestBestCable 20 = .ok (.istore_n 3, 1) := by decide +kernel
theorem dX2_lowestBestCable_21 : decode cX2_lowestBestCable 21 = .ok (.iload_n 3, 1) := by decide +kernel
theorem dX2_lowestBestCable_22 : decode cX2_lowestBestCable 22 = .ok (.iconst (-1), 1) := by decide +kernel
theorem dX2_lowestBestCable_23 : decode cX2_lowestBestCable 23 = .ok (.if_icmp .eq 31, 3) := by decide +kernel
theorem dX2_lowestBestCable_26 : decode cX2_lowestBestCable 26 = .ok (.aload_n 0, 1) := by decide +kernel
theorem dX2_lowestBestCable_27 : decode cX2_lowestBestCable 27 = .ok (.getfield 28, 3) := by decide +kernel
theorem dX2_lowestBestCable_30 : decode cX2_lowestBestCable 30 = .ok (.iload_n 1, 1) := by decide +kernel
theorem dX2_lowestBestCable_31 : decode cX2_lowestBestCable 31 = .ok (.laload, 1) := by decide +kernel
theorem dX2_lowestBestCable_32 : decode cX2_lowestBestCable 32 = .ok (.aload_n 0, 1) := by decide +kernel
theorem dX2_lowestBestCable_33 : decode cX2_lowestBestCable 33 = .ok (.getfield 28, 3) := by decide +kernel
theorem dX2_lowestBestCable_36 : decode cX2_lowestBestCable 36 = .ok (.iload_n 3, 1) := by decide +kernel
theorem dX2_lowestBestCable_37 : decode cX2_lowestBestCable 37 = .ok (.laload, 1) := by decide +kernel
theorem dX2_lowestBestCable_38 : decode cX2_lowestBestCable 38 = .ok (.aload_n 0, 1) := by decide +kernel
theorem dX2_lowestBestCable_39 : decode cX2_lowestBestCable 39 = .ok (.getfield 11, 3) := by decide +kernel
theorem dX2_lowestBestCable_42 : decode cX2_lowestBestCable 42 = .ok (.iload_n 2, 1) := by decide +kernel
theorem dX2_lowestBestCable_43 : decode cX2_lowestBestCable 43 = .ok (.aaload, 1) := by decide +kernel
theorem dX2_lowestBestCable_44 : decode cX2_lowestBestCable 44 = .ok (.invokevirtual 79, 3) := by decide +kernel
theorem dX2_lowestBestCable_47 : decode cX2_lowestBestCable 47 = .ok (.ladd, 1) := by decide +kernel
theorem dX2_lowestBestCable_48 : decode cX2_lowestBestCable 48 = .ok (.lcmp, 1) := by decide +kernel
theorem dX2_lowestBestCable_49 : decode cX2_lowestBestCable 49 = .ok (.ifCond .ne 5, 3) := by decide +kernel
theorem dX2_lowestBestCable_52 : decode cX2_lowestBestCable 52 = .ok (.iload_n 2, 1) := by decide +kernel
theorem dX2_lowestBestCable_53 : decode cX2_lowestBestCable 53 = .ok (.ireturn, 1) := by decide +kernel
theorem dX2_lowestBestCable_54 : decode cX2_lowestBestCable 54 = .ok (.iinc 2 1, 3) := by decide +kernel
theorem dX2_lowestBestCable_57 : decode cX2_lowestBestCable 57 = .ok (.goto (-55), 3) := by decide +kernel
theorem dX2_lowestBestCable_60 : decode cX2_lowestBestCable 60 = .ok (.iconst (-1), 1) := by decide +kernel
theorem dX2_lowestBestCable_61 : decode cX2_lowestBestCable 61 = .ok (.ireturn, 1) := by decide +kernel
theorem dX2_priceByRounds_0 : decode cX2_priceByRounds 0 = .ok (.aload_n 0, 1) := by decide +kernel
theorem dX2_priceByRounds_1 : decode cX2_priceByRounds 1 = .ok (.getfield 32, 3) := by decide +kernel
theorem dX2_priceByRounds_4 : decode cX2_priceByRounds 4 = .ok (.iconst (-1), 1) := by decide +kernel
theorem dX2_priceByRounds_5 : decode cX2_priceByRounds 5 = .ok (.invokestatic 89, 3) := by decide +kernel
theorem dX2_priceByRounds_8 : decode cX2_priceByRounds 8 = .ok (.aload_n 0, 1) := by decide +kernel
theorem dX2_priceByRounds_9 : decode cX2_priceByRounds 9 = .ok (.getfield 32, 3) := by decide +kernel
theorem dX2_priceByRounds_12 : decode cX2_priceByRounds 12 = .ok (.iload_n 1, 1) := by decide +kernel
theorem dX2_priceByRounds_13 : decode cX2_priceByRounds 13 = .ok (.iconst 0, 1) := by decide +kernel
theorem dX2_priceByRounds_14 : decode cX2_priceByRounds 14 = .ok (.iastore, 1) := by decide +kernel
theorem dX2_priceByRounds_15 : decode cX2_priceByRounds 15 = .ok (.iconst 1, 1) := by decide +kernel
theorem dX2_priceByRounds_16 : decode cX2_priceByRounds 16 = .ok (.istore_n 3, 1) := by decide +kernel
theorem dX2_priceByRounds_17 : decode cX2_priceByRounds 17 = .ok (.iload_n 3, 1) := by decide +kernel
theorem dX2_priceByRounds_18 : decode cX2_priceByRounds 18 = .ok (.bipush 10, 2) := by decide +kernel
theorem dX2_priceByRounds_20 : decode cX2_priceByRounds 20 = .ok (.if_icmp .ge 108, 3) := by decide +kernel
theorem dX2_priceByRounds_23 : decode cX2_priceByRounds 23 = .ok (.iconst 0, 1) := by decide +kernel
theorem dX2_priceByRounds_24 : decode cX2_priceByRounds 24 = .ok (.istore 4, 2) := by decide +kernel
theorem dX2_priceByRounds_26 : decode cX2_priceByRounds 26 = .ok (.iload 4, 2) := by decide +kernel
theorem dX2_priceByRounds_28 : decode cX2_priceByRounds 28 = .ok (.aload_n 0, 1) := by decide +kernel
theorem dX2_priceByRounds_29 : decode cX2_priceByRounds 29 = .ok (.getfield 17, 3) := by decide +kernel
theorem dX2_priceByRounds_32 : decode cX2_priceByRounds 32 = .ok (.if_icmp .ge 90, 3) := by decide +kernel
theorem dX2_priceByRounds_35 : decode cX2_priceByRounds 35 = .ok (.aload_n 0, 1) := by decide +kernel
theorem dX2_priceByRounds_36 : decode cX2_priceByRounds 36 = .ok (.getfield 11, 3) := by decide +kernel
theorem dX2_priceByRounds_39 : decode cX2_priceByRounds 39 = .ok (.iload 4, 2) := by decide +kernel
theorem dX2_priceByRounds_41 : decode cX2_priceByRounds 41 = .ok (.aaload, 1) := by decide +kernel
theorem dX2_priceByRounds_42 : decode cX2_priceByRounds 42 = .ok (.invokevirtual 92, 3) := by decide +kernel
theorem dX2_priceByRounds_45 : decode cX2_priceByRounds 45 = .ok (.ifCond .eq 71, 3) := by decide +kernel
theorem dX2_priceByRounds_48 : decode cX2_priceByRounds 48 = .ok (.aload_n 0, 1) := by decide +kernel
theorem dX2_priceByRounds_49 : decode cX2_priceByRounds 49 = .ok (.aload_n 0, 1) := by decide +kernel
theorem dX2_priceByRounds_50 : decode cX2_priceByRounds 50 = .ok (.getfield 11, 3) := by decide +kernel
theorem dX2_priceByRounds_53 : decode cX2_priceByRounds 53 = .ok (.iload 4, 2) := by decide +kernel
theorem dX2_priceByRounds_55 : decode cX2_priceByRounds 55 = .ok (.aaload, 1) := by decide +kernel
theorem dX2_priceByRounds_56 : decode cX2_priceByRounds 56 = .ok (.getfield 96, 3) := by decide +kernel
theorem dX2_priceByRounds_59 : decode cX2_priceByRounds 59 = .ok (.aload_n 0, 1) := by decide +kernel
theorem dX2_priceByRounds_60 : decode cX2_priceByRounds 60 = .ok (.getfield 11, 3) := by decide +kernel
theorem dX2_priceByRounds_63 : decode cX2_priceByRounds 63 = .ok (.iload 4, 2) := by decide +kernel
theorem dX2_priceByRounds_65 : decode cX2_priceByRounds 65 = .ok (.aaload, 1) := by decide +kernel
theorem dX2_priceByRounds_66 : decode cX2_priceByRounds 66 = .ok (.getfield 99, 3) := by decide +kernel
theorem dX2_priceByRounds_69 : decode cX2_priceByRounds 69 = .ok (.aload_n 0, 1) := by decide +kernel
theorem dX2_priceByRounds_70 : decode cX2_priceByRounds 70 = .ok (.getfield 11, 3) := by decide +kernel
theorem dX2_priceByRounds_73 : decode cX2_priceByRounds 73 = .ok (.iload 4, 2) := by decide +kernel
theorem dX2_priceByRounds_75 : decode cX2_priceByRounds 75 = .ok (.aaload, 1) := by decide +kernel
theorem dX2_priceByRounds_76 : decode cX2_priceByRounds 76 = .ok (.getfield 102, 3) := by decide +kernel
theorem dX2_priceByRounds_79 : decode cX2_priceByRounds 79 = .ok (.invokevirtual 105, 3) := by decide +kernel
theorem dX2_priceByRounds_82 : decode cX2_priceByRounds 82 = .ok (.aload_n 0, 1) := by decide +kernel
theorem dX2_priceByRounds_83 : decode cX2_priceByRounds 83 = .ok (.aload_n 0, 1) := by decide +kernel
theorem dX2_priceByRounds_84 : decode cX2_priceByRounds 84 = .ok (.getfield 11, 3) := by decide +kernel
theorem dX2_priceByRounds_87 : decode cX2_priceByRounds 87 = .ok (.iload 4, 2) := by decide +kernel
theorem dX2_priceByRounds_89 : decode cX2_priceByRounds 89 = .ok (.aaload, 1) := by decide +kernel
theorem dX2_priceByRounds_90 : decode cX2_priceByRounds 90 = .ok (.getfield 99, 3) := by decide +kernel
theorem dX2_priceByRounds_93 : decode cX2_priceByRounds 93 = .ok (.aload_n 0, 1) := by decide +kernel
theorem dX2_priceByRounds_94 : decode cX2_priceByRounds 94 = .ok (.getfield 11, 3) := by decide +kernel
theorem dX2_priceByRounds_97 : decode cX2_priceByRounds 97 = .ok (.iload 4, 2) := by decide +kernel
theorem dX2_priceByRounds_99 : decode cX2_priceByRounds 99 = .ok (.aaload, 1) := by decide +kernel
theorem dX2_priceByRounds_100 : decode cX2_priceByRounds 100 = .ok (.getfield 96, 3) := by decide +kernel
theorem dX2_priceByRounds_103 : decode cX2_priceByRounds 103 = .ok (.aload_n 0, 1) := by decide +kernel
theorem dX2_priceByRounds_104 : decode cX2_priceByRounds 104 = .ok (.getfield 11, 3) := by decide +kernel
theorem dX2_priceByRounds_107 : decode cX2_priceByRounds 107 = .ok (.iload 4, 2) := by decide +kernel
theorem dX2_priceByRounds_109 : decode cX2_priceByRounds 109 = .ok (.aaload, 1) := by decide +kernel
theorem dX2_priceByRounds_110 : decode cX2_priceByRounds 110 = .ok (.getfield 102, 3) := by decide +kernel
theorem dX2_priceByRounds_113 : decode cX2_priceByRounds 113 = .ok (.invokevirtual 105, 3) := by decide +kernel
theorem dX2_priceByRounds_116 : decode cX2_priceByRounds 116 = .ok (.iinc 4 1, 3) := by decide +kernel
theorem dX2_priceByRounds_119 : decode cX2_priceByRounds 119 = .ok (.goto (-93), 3) := by decide +kernel
theorem dX2_priceByRounds_122 : decode cX2_priceByRounds 122 = .ok (.iinc 3 1, 3) := by decide +kernel
theorem dX2_priceByRounds_125 : decode cX2_priceByRounds 125 = .ok (.goto (-108), 3) := by decide +kernel
theorem dX2_priceByRounds_128 : decode cX2_priceByRounds 128 = .ok (.aload_n 0, 1) := by decide +kernel
theorem dX2_priceByRounds_129 : decode cX2_priceByRounds 129 = .ok (.getfield 32, 3) := by decide +kernel
theorem dX2_priceByRounds_132 : decode cX2_priceByRounds 132 = .ok (.iload_n 2, 1) := by decide +kernel
theorem dX2_priceByRounds_133 : decode cX2_priceByRounds 133 = .ok (.iaload, 1) := by decide +kernel
theorem dX2_priceByRounds_134 : decode cX2_priceByRounds 134 = .ok (.ireturn, 1) := by decide +kernel
theorem dX2_lowerSum_0 : decode cX2_lowerSum 0 = .ok (.aload_n 0, 1) := by decide +kernel
theorem dX2_lowerSum_1 : decode cX2_lowerSum 1 = .ok (.getfield 32, 3) := by decide +kernel
theorem dX2_lowerSum_4 : decode cX2_lowerSum 4 = .ok (.iload_n 1, 1) := by decide +kernel
theorem dX2_lowerSum_5 : decode cX2_lowerSum 5 = .ok (.iaload, 1) := by decide +kernel
theorem dX2_lowerSum_6 : decode cX2_lowerSum 6 = .ok (.iconst (-1), 1) := by decide +kernel
theorem dX2_lowerSum_7 : decode cX2_lowerSum 7 = .ok (.if_icmp .eq 44, 3) := by decide +kernel
theorem dX2_lowerSum_10 : decode cX2_lowerSum 10 = .ok (.aload_n 0, 1) := by decide +kernel
theorem dX2_lowerSum_11 : decode cX2_lowerSum 11 = .ok (.getfield 32, 3) := by decide +kernel
theorem dX2_lowerSum_14 : decode cX2_lowerSum 14 = .ok (.iload_n 2, 1) := by decide +kernel
theorem dX2_lowerSum_15 : decode cX2_lowerSum 15 = .ok (.iaload, 1) := by decide +kernel
theorem dX2_lowerSum_16 : decode cX2_lowerSum 16 = .ok (.iconst (-1), 1) := by decide +kernel
theorem dX2_lowerSum_17 : decode cX2_lowerSum 17 = .ok (.if_icmp .eq 20, 3) := by decide +kernel
theorem dX2_lowerSum_20 : decode cX2_lowerSum 20 = .ok (.aload_n 0, 1) := by decide +kernel
theorem dX2_lowerSum_21 : decode cX2_lowerSum 21 = .ok (.getfield 32, 3) := by decide +kernel
theorem dX2_lowerSum_24 : decode cX2_lowerSum 24 = .ok (.iload_n 1, 1) := by decide +kernel
theorem dX2_lowerSum_25 : decode cX2_lowerSum 25 = .ok (.iaload, 1) := by decide +kernel
theorem dX2_lowerSum_26 : decode cX2_lowerSum 26 = .ok (.iload_n 3, 1) := by decide +kernel
theorem dX2_lowerSum_27 : decode cX2_lowerSum 27 = .ok (.iadd, 1) := by decide +kernel
theorem dX2_lowerSum_28 : decode cX2_lowerSum 28 = .ok (.aload_n 0, 1) := by decide +kernel
theorem dX2_lowerSum_29 : decode cX2_lowerSum 29 = .ok (.getfield 32, 3) := by decide +kernel
theorem dX2_lowerSum_32 : decode cX2_lowerSum 32 = .ok (.iload_n 2, 1) := by decide +kernel
theorem dX2_lowerSum_33 : decode cX2_lowerSum 33 = .ok (.iaload, 1) := by decide +kernel
theorem dX2_lowerSum_34 : decode cX2_lowerSum 34 = .ok (.if_icmp .ge 17, 3) := by decide +kernel
theorem dX2_lowerSum_37 : decode cX2_lowerSum 37 = .ok (.aload_n 0, 1) := by decide +kernel
theorem dX2_lowerSum_38 : decode cX2_lowerSum 38 = .ok (.getfield 32, 3) := by decide +kernel
theorem dX2_lowerSum_41 : decode cX2_lowerSum 41 = .ok (.iload_n 2, 1) := by decide +kernel
theorem dX2_lowerSum_42 : decode cX2_lowerSum 42 = .ok (.aload_n 0, 1) := by decide +kernel
theorem dX2_lowerSum_43 : decode cX2_lowerSum 43 = .ok (.getfield 32, 3) := by decide +kernel
theorem dX2_lowerSum_46 : decode cX2_lowerSum 46 = .ok (.iload_n 1, 1) := by decide +kernel
theorem dX2_lowerSum_47 : decode cX2_lowerSum 47 = .ok (.iaload, 1) := by decide +kernel
theorem dX2_lowerSum_48 : decode cX2_lowerSum 48 = .ok (.iload_n 3, 1) := by decide +kernel
theorem dX2_lowerSum_49 : decode cX2_lowerSum 49 = .ok (.iadd, 1) := by decide +kernel
theorem dX2_lowerSum_50 : decode cX2_lowerSum 50 = .ok (.iastore, 1) := by decide +kernel
theorem dX2_lowerSum_51 : decode cX2_lowerSum 51 = .ok (.return_, 1) := by decide +kernel
theorem dX2_reachedFrom_0 : decode cX2_reachedFrom 0 = .ok (.iconst 1, 1) := by decide +kernel
theorem dX2_reachedFrom_1 : decode cX2_reachedFrom 1 = .ok (.iload_n 1, 1) := by decide +kernel
theorem dX2_reachedFrom_2 : decode cX2_reachedFrom 2 = .ok (.ishl, 1) := by decide +kernel
theorem dX2_reachedFrom_3 : decode cX2_reachedFrom 3 = .ok (.istore_n 2, 1) := by decide +kernel
theorem dX2_reachedFrom_4 : decode cX2_reachedFrom 4 = .ok (.iconst 1, 1) := by decide +kernel
theorem dX2_reachedFrom_5 : decode cX2_reachedFrom 5 = .ok (.istore_n 3, 1) := by decide +kernel
theorem dX2_reachedFrom_6 : decode cX2_reachedFrom 6 = .ok (.iload_n 3, 1) := by decide +kernel
theorem dX2_reachedFrom_7 : decode cX2_reachedFrom 7 = .ok (.bipush 10, 2) := by decide +kernel
theorem dX2_reachedFrom_9 : decode cX2_reachedFrom 9 = .ok (.if_icmp .ge 79, 3) := by decide +kernel
theorem dX2_reachedFrom_12 : decode cX2_reachedFrom 12 = .ok (.iconst 0, 1) := by decide +kernel
theorem dX2_reachedFrom_13 : decode cX2_reachedFrom 13 = .ok (.istore 4, 2) := by decide +kernel
theorem dX2_reachedFrom_15 : decode cX2_reachedFrom 15 = .ok (.iload 4, 2) := by decide +kernel
theorem dX2_reachedFrom_17 : decode cX2_reachedFrom 17 = .ok (.aload_n 0, 1) := by decide +kernel
theorem dX2_reachedFrom_18 : decode cX2_reachedFrom 18 = .ok (.getfield 17, 3) := by decide +kernel
theorem dX2_reachedFrom_21 : decode cX2_reachedFrom 21 = .ok (.if_icmp .ge 61, 3) := by decide +kernel
theorem dX2_reachedFrom_24 : decode cX2_reachedFrom 24 = .ok (.iconst 1, 1) := by decide +kernel
theorem dX2_reachedFrom_25 : decode cX2_reachedFrom 25 = .ok (.aload_n 0, 1) := by decide +kernel
theorem dX2_reachedFrom_26 : decode cX2_reachedFrom 26 = .ok (.getfield 11, 3) := by decide +kernel
theorem dX2_reachedFrom_29 : decode cX2_reachedFrom 29 = .ok (.iload 4, 2) := by decide +kernel
theorem dX2_reachedFrom_31 : decode cX2_reachedFrom 31 = .ok (.aaload, 1) := by decide +kernel
theorem dX2_reachedFrom_32 : decode cX2_reachedFrom 32 = .ok (.getfield 96, 3) := by decide +kernel
theorem dX2_reachedFrom_35 : decode cX2_reachedFrom 35 = .ok (.ishl, 1) := by decide +kernel
theorem dX2_reachedFrom_36 : decode cX2_reachedFrom 36 = .ok (.iconst 1, 1) := by decide +kernel
theorem dX2_reachedFrom_37 : decode cX2_reachedFrom 37 = .ok (.aload_n 0, 1) := by decide +kernel
theorem dX2_reachedFrom_38 : decode cX2_reachedFrom 38 = .ok (.getfield 11, 3) := by decide +kernel
theorem dX2_reachedFrom_41 : decode cX2_reachedFrom 41 = .ok (.iload 4, 2) := by decide +kernel
theorem dX2_reachedFrom_43 : decode cX2_reachedFrom 43 = .ok (.aaload, 1) := by decide +kernel
theorem dX2_reachedFrom_44 : decode cX2_reachedFrom 44 = .ok (.getfield 99, 3) := by decide +kernel
theorem dX2_reachedFrom_47 : decode cX2_reachedFrom 47 = .ok (.ishl, 1) := by decide +kernel
theorem dX2_reachedFrom_48 : decode cX2_reachedFrom 48 = .ok (.ior, 1) := by decide +kernel
theorem dX2_reachedFrom_49 : decode cX2_reachedFrom 49 = .ok (.istore 5, 2) := by decide +kernel
theorem dX2_reachedFrom_51 : decode cX2_reachedFrom 51 = .ok (.aload_n 0, 1) := by decide +kernel
theorem dX2_reachedFrom_52 : decode cX2_reachedFrom 52 = .ok (.getfield 11, 3) := by decide +kernel
theorem dX2_reachedFrom_55 : decode cX2_reachedFrom 55 = .ok (.iload 4, 2) := by decide +kernel
theorem dX2_reachedFrom_57 : decode cX2_reachedFrom 57 = .ok (.aaload, 1) := by decide +kernel
theorem dX2_reachedFrom_58 : decode cX2_reachedFrom 58 = .ok (.invokevirtual 92, 3) := by decide +kernel
theorem dX2_reachedFrom_61 : decode cX2_reachedFrom 61 = .ok (.ifCond .eq 15, 3) := by decide +kernel
theorem dX2_reachedFrom_64 : decode cX2_reachedFrom 64 = .ok (.iload_n 2, 1) := by decide +kernel
theorem dX2_reachedFrom_65 : decode cX2_reachedFrom 65 = .ok (.iload 5, 2) := by decide +kernel
theorem dX2_reachedFrom_67 : decode cX2_reachedFrom 67 = .ok (.iand, 1) := by decide +kernel
theorem dX2_reachedFrom_68 : decode cX2_reachedFrom 68 = .ok (.ifCond .eq 8, 3) := by decide +kernel
theorem dX2_reachedFrom_71 : decode cX2_reachedFrom 71 = .ok (.iload_n 2, 1) := by decide +kernel
theorem dX2_reachedFrom_72 : decode cX2_reachedFrom 72 = .ok (.iload 5, 2) := by decide +kernel
theorem dX2_reachedFrom_74 : decode cX2_reachedFrom 74 = .ok (.ior, 1) := by decide +kernel
theorem dX2_reachedFrom_75 : decode cX2_reachedFrom 75 = .ok (.istore_n 2, 1) := by decide +kernel
theorem dX2_reachedFrom_76 : decode cX2_reachedFrom 76 = .ok (.iinc 4 1, 3) := by decide +kernel
theorem dX2_reachedFrom_79 : decode cX2_reachedFrom 79 = .ok (.goto (-64), 3) := by decide +kernel
theorem dX2_reachedFrom_82 : decode cX2_reachedFrom 82 = .ok (.iinc 3 1, 3) := by decide +kernel
theorem dX2_reachedFrom_85 : decode cX2_reachedFrom 85 = .ok (.goto (-79), 3) := by decide +kernel
theorem dX2_reachedFrom_88 : decode cX2_reachedFrom 88 = .ok (.iload_n 2, 1) := by decide +kernel
theorem dX2_reachedFrom_89 : decode cX2_reachedFrom 89 = .ok (.ireturn, 1) := by decide +kernel
theorem dX3_init_0 : decode cX3_init 0 = .ok (.aload_n 0, 1) := by decide +kernel
theorem dX3_init_1 : decode cX3_init 1 = .ok (.invokespecial 3, 3) := by decide +kernel
theorem dX3_init_4 : decode cX3_init 4 = .ok (.aload_n 0, 1) := by decide +kernel
theorem dX3_init_5 : decode cX3_init 5 = .ok (.iconst 0, 1) := by decide +kernel
theorem dX3_init_6 : decode cX3_init 6 = .ok (.putfield 9, 3) := by decide +kernel
theorem dX3_init_9 : decode cX3_init 9 = .ok (.aload_n 0, 1) := by decide +kernel
theorem dX3_init_10 : decode cX3_init 10 = .ok (.iconst 0, 1) := by decide +kernel
theorem dX3_init_11 : decode cX3_init 11 = .ok (.putfield 15, 3) := by decide +kernel
theorem dX3_init_14 : decode cX3_init 14 = .ok (.aload_n 0, 1) := by decide +kernel
theorem dX3_init_15 : decode cX3_init 15 = .ok (.iconst (-1), 1) := by decide +kernel
theorem dX3_init_16 : decode cX3_init 16 = .ok (.putfield 18, 3) := by decide +kernel
theorem dX3_init_19 : decode cX3_init 19 = .ok (.aload_n 0, 1) := by decide +kernel
theorem dX3_init_20 : decode cX3_init 20 = .ok (.iconst (-1), 1) := by decide +kernel
theorem dX3_init_21 : decode cX3_init 21 = .ok (.putfield 21, 3) := by decide +kernel
theorem dX3_init_24 : decode cX3_init 24 = .ok (.aload_n 0, 1) := by decide +kernel
theorem dX3_init_25 : decode cX3_init 25 = .ok (.iconst 0, 1) := by decide +kernel
theorem dX3_init_26 : decode cX3_init 26 = .ok (.putfield 24, 3) := by decide +kernel
theorem dX3_init_29 : decode cX3_init 29 = .ok (.aload_n 0, 1) := by decide +kernel
theorem dX3_init_30 : decode cX3_init 30 = .ok (.iload_n 1, 1) := by decide +kernel
theorem dX3_init_31 : decode cX3_init 31 = .ok (.putfield 27, 3) := by decide +kernel
theorem dX3_init_34 : decode cX3_init 34 = .ok (.aload_n 0, 1) := by decide +kernel
theorem dX3_init_35 : decode cX3_init 35 = .ok (.iload_n 2, 1) := by decide +kernel
theorem dX3_init_36 : decode cX3_init 36 = .ok (.putfield 30, 3) := by decide +kernel
theorem dX3_init_39 : decode cX3_init 39 = .ok (.aload_n 0, 1) := by decide +kernel
theorem dX3_init_40 : decode cX3_init 40 = .ok (.iload_n 3, 1) := by decide +kernel
theorem dX3_init_41 : decode cX3_init 41 = .ok (.putfield 33, 3) := by decide +kernel
theorem dX3_init_44 : decode cX3_init 44 = .ok (.return_, 1) := by decide +kernel
theorem dX3_aimAt_0 : decode cX3_aimAt 0 = .ok (.aload_n 0, 1) := by decide +kernel
theorem dX3_aimAt_1 : decode cX3_aimAt 1 = .ok (.iload_n 1, 1) := by decide +kernel
theorem dX3_aimAt_2 : decode cX3_aimAt 2 = .ok (.putfield 18, 3) := by decide +kernel
theorem dX3_aimAt_5 : decode cX3_aimAt 5 = .ok (.aload_n 0, 1) := by decide +kernel
theorem dX3_aimAt_6 : decode cX3_aimAt 6 = .ok (.iload_n 2, 1) := by decide +kernel
theorem dX3_aimAt_7 : decode cX3_aimAt 7 = .ok (.putfield 21, 3) := by decide +kernel
theorem dX3_aimAt_10 : decode cX3_aimAt 10 = .ok (.return_, 1) := by decide +kernel
theorem dX3_begin_0 : decode cX3_begin 0 = .ok (.aload_n 0, 1) := by decide +kernel
theorem dX3_begin_1 : decode cX3_begin 1 = .ok (.iload_n 1, 1) := by decide +kernel
theorem dX3_begin_2 : decode cX3_begin 2 = .ok (.putfield 9, 3) := by decide +kernel
theorem dX3_begin_5 : decode cX3_begin 5 = .ok (.aload_n 0, 1) := by decide +kernel
theorem dX3_begin_6 : decode cX3_begin 6 = .ok (.iload_n 2, 1) := by decide +kernel
theorem dX3_begin_7 : decode cX3_begin 7 = .ok (.putfield 15, 3) := by decide +kernel
theorem dX3_begin_10 : decode cX3_begin 10 = .ok (.return_, 1) := by decide +kernel
theorem dX3_hoursTo_0 : decode cX3_hoursTo 0 = .ok (.iload_n 1, 1) := by decide +kernel
theorem dX3_hoursTo_1 : decode cX3_hoursTo 1 = .ok (.aload_n 0, 1) := by decide +kernel
theorem dX3_hoursTo_2 : decode cX3_hoursTo 2 = .ok (.getfield 27, 3) := by decide +kernel
theorem dX3_hoursTo_5 : decode cX3_hoursTo 5 = .ok (.isub, 1) := by decide +kernel
theorem dX3_hoursTo_6 : decode cX3_hoursTo 6 = .ok (.invokestatic 36, 3) := by decide +kernel
theorem dX3_hoursTo_9 : decode cX3_hoursTo 9 = .ok (.iload_n 2, 1) := by decide +kernel
theorem dX3_hoursTo_10 : decode cX3_hoursTo 10 = .ok (.aload_n 0, 1) := by decide +kernel
theorem dX3_hoursTo_11 : decode cX3_hoursTo 11 = .ok (.getfield 30, 3) := by decide +kernel
theorem dX3_hoursTo_14 : decode cX3_hoursTo 14 = .ok (.isub, 1) := by decide +kernel
theorem dX3_hoursTo_15 : decode cX3_hoursTo 15 = .ok (.invokestatic 36, 3) := by decide +kernel
theorem dX3_hoursTo_18 : decode cX3_hoursTo 18 = .ok (.iadd, 1) := by decide +kernel
theorem dX3_hoursTo_19 : decode cX3_hoursTo 19 = .ok (.istore_n 3, 1) := by decide +kernel
theorem dX3_hoursTo_20 : decode cX3_hoursTo 20 = .ok (.iload_n 3, 1) := by decide +kernel
theorem dX3_hoursTo_21 : decode cX3_hoursTo 21 = .ok (.aload_n 0, 1) := by decide +kernel
theorem dX3_hoursTo_22 : decode cX3_hoursTo 22 = .ok (.getfield 33, 3) := by decide +kernel
theorem dX3_hoursTo_25 : decode cX3_hoursTo 25 = .ok (.iadd, 1) := by decide +kernel
theorem dX3_hoursTo_26 : decode cX3_hoursTo 26 = .ok (.iconst 1, 1) := by decide +kernel
theorem dX3_hoursTo_27 : decode cX3_hoursTo 27 = .ok (.isub, 1) := by decide +kernel
theorem dX3_hoursTo_28 : decode cX3_hoursTo 28 = .ok (.aload_n 0, 1) := by decide +kernel
theorem dX3_hoursTo_29 : decode cX3_hoursTo 29 = .ok (.getfield 33, 3) := by decide +kernel
theorem dX3_hoursTo_32 : decode cX3_hoursTo 32 = .ok (.idiv, 1) := by decide +kernel
theorem dX3_hoursTo_33 : decode cX3_hoursTo 33 = .ok (.ireturn, 1) := by decide +kernel
theorem dX4_init_0 : decode cX4_init 0 = .ok (.aload_n 0, 1) := by decide +kernel
theorem dX4_init_1 : decode cX4_init 1 = .ok (.invokespecial 3, 3) := by decide +kernel
theorem dX4_init_4 : decode cX4_init 4 = .ok (.aload_n 0, 1) := by decide +kernel
theorem dX4_init_5 : decode cX4_init 5 = .ok (.new 9, 3) := by decide +kernel
theorem dX4_init_8 : decode cX4_init 8 = .ok (.dup, 1) := by decide +kernel
theorem dX4_init_9 : decode cX4_init 9 = .ok (.invokespecial 11, 3) := by decide +kernel
theorem dX4_init_12 : decode cX4_init 12 = .ok (.putfield 12, 3) := by decide +kernel
theorem dX4_init_15 : decode cX4_init 15 = .ok (.aload_n 0, 1) := by decide +kernel
theorem dX4_init_16 : decode cX4_init 16 = .ok (.lconst 0, 1) := by decide +kernel
theorem dX4_init_17 : decode cX4_init 17 = .ok (.putfield 18, 3) := by decide +kernel
theorem dX4_init_20 : decode cX4_init 20 = .ok (.aload_n 0, 1) := by decide +kernel
theorem dX4_init_21 : decode cX4_init 21 = .ok (.iconst 0, 1) := by decide +kernel
theorem dX4_init_22 : decode cX4_init 22 = .ok (.putfield 22, 3) := by decide +kernel
theorem dX4_init_25 : decode cX4_init 25 = .ok (.aload_n 0, 1) := by decide +kernel
theorem dX4_init_26 : decode cX4_init 26 = .ok (.iconst 0, 1) := by decide +kernel
theorem dX4_init_27 : decode cX4_init 27 = .ok (.putfield 26, 3) := by decide +kernel
theorem dX4_init_30 : decode cX4_init 30 = .ok (.aload_n 0, 1) := by decide +kernel
theorem dX4_init_31 : decode cX4_init 31 = .ok (.iconst 0, 1) := by decide +kernel
theorem dX4_init_32 : decode cX4_init 32 = .ok (.putfield 29, 3) := by decide +kernel
theorem dX4_init_35 : decode cX4_init 35 = .ok (.aload_n 0, 1) := by decide +kernel
theorem dX4_init_36 : decode cX4_init 36 = .ok (.iload_n 1, 1) := by decide +kernel
theorem dX4_init_37 : decode cX4_init 37 = .ok (.putfield 32, 3) := by decide +kernel
theorem dX4_init_40 : decode cX4_init 40 = .ok (.aload_n 0, 1) := by decide +kernel
theorem dX4_init_41 : decode cX4_init 41 = .ok (.iload_n 2, 1) := by decide +kernel
theorem dX4_init_42 : decode cX4_init 42 = .ok (.putfield 35, 3) := by decide +kernel
theorem dX4_init_45 : decode cX4_init 45 = .ok (.aload_n 0, 1) := by decide +kernel
theorem dX4_init_46 : decode cX4_init 46 = .ok (.iload_n 3, 1) := by decide +kernel
theorem dX4_init_47 : decode cX4_init 47 = .ok (.putfield 38, 3) := by decide +kernel
theorem dX4_init_50 : decode cX4_init 50 = .ok (.aload_n 0, 1) := by decide +kernel
theorem dX4_init_51 : decode cX4_init 51 = .ok (.iload 4, 2) := by decide +kernel
theorem dX4_init_53 : decode cX4_init 53 = .ok (.putfield 41, 3) := by decide +kernel
theorem dX4_init_56 : decode cX4_init 56 = .ok (.aload_n 0, 1) := by decide +kernel
theorem dX4_init_57 : decode cX4_init 57 = .ok (.iload 5, 2) := by decide +kernel
theorem dX4_init_59 : decode cX4_init 59 = .ok (.putfield 44, 3) := by decide +kernel
theorem dX4_init_62 : decode cX4_init 62 = .ok (.aload_n 0, 1) := by decide +kernel
theorem dX4_init_63 : decode cX4_init 63 = .ok (.iload 6, 2) := by decide +kernel
theorem dX4_init_65 : decode cX4_init 65 = .ok (.putfield 47, 3) := by decide +kernel
theorem dX4_init_68 : decode cX4_init 68 = .ok (.return_, 1) := by decide +kernel
theorem dX4_settleHour_0 : decode cX4_settleHour 0 = .ok (.aload_n 0, 1) := by decide +kernel
theorem dX4_settleHour_1 : decode cX4_settleHour 1 = .ok (.getfield 12, 3) := by decide +kernel
theorem dX4_settleHour_4 : decode cX4_settleHour 4 = .ok (.getfield 50, 3) := by decide +kernel
theorem dX4_settleHour_7 : decode cX4_settleHour 7 = .ok (.iconst (-1), 1) := by decide +kernel
theorem dX4_settleHour_8 : decode cX4_settleHour 8 = .ok (.if_icmp .ne 22, 3) := by decide +kernel
theorem dX4_settleHour_11 : decode cX4_settleHour 11 = .ok (.aload_n 0, 1) := by decide +kernel
theorem dX4_settleHour_12 : decode cX4_settleHour 12 = .ok (.dup, 1) := by decide +kernel
theorem dX4_settleHour_13 : decode cX4_settleHour 13 = .ok (.getfield 26, 3) := by decide +kernel
theorem dX4_settleHour_16 : decode cX4_settleHour 16 = .ok (.iconst 1, 1) := by decide +kernel
theorem dX4_settleHour_17 : decode cX4_settleHour 17 = .ok (.iadd, 1) := by decide +kernel
theorem dX4_settleHour_18 : decode cX4_settleHour 18 = .ok (.putfield 26, 3) := by decide +kernel
theorem dX4_settleHour_21 : decode cX4_settleHour 21 = .ok (.aload_n 0, 1) := by decide +kernel
theorem dX4_settleHour_22 : decode cX4_settleHour 22 = .ok (.aload_n 0, 1) := by decide +kernel
theorem dX4_settleHour_23 : decode cX4_settleHour 23 = .ok (.getfield 41, 3) := by decide +kernel
theorem dX4_settleHour_26 : decode cX4_settleHour 26 = .ok (.invokevirtual 53, 3) := by decide +kernel
theorem dX4_settleHour_29 : decode cX4_settleHour 29 = .ok (.return_, 1) := by decide +kernel
theorem dX4_settleHour_30 : decode cX4_settleHour 30 = .ok (.aload_n 0, 1) := by decide +kernel
theorem dX4_settleHour_31 : decode cX4_settleHour 31 = .ok (.dup, 1) := by decide +kernel
theorem dX4_settleHour_32 : decode cX4_settleHour 32 = .ok (.getfield 18, 3) := by decide +kernel
theorem dX4_settleHour_35 : decode cX4_settleHour 35 = .ok (.aload_n 0, 1) := by decide +kernel
theorem dX4_settleHour_36 : decode cX4_settleHour 36 = .ok (.getfield 12, 3) := by decide +kernel
theorem dX4_settleHour_39 : decode cX4_settleHour 39 = .ok (.getfield 57, 3) := by decide +kernel
theorem dX4_settleHour_42 : decode cX4_settleHour 42 = .ok (.i2l, 1) := by decide +kernel
theorem dX4_settleHour_43 : decode cX4_settleHour 43 = .ok (.ladd, 1) := by decide +kernel
theorem dX4_settleHour_44 : decode cX4_settleHour 44 = .ok (.putfield 18, 3) := by decide +kernel
theorem dX4_settleHour_47 : decode cX4_settleHour 47 = .ok (.aload_n 0, 1) := by decide +kernel
theorem dX4_settleHour_48 : decode cX4_settleHour 48 = .ok (.getfield 12, 3) := by decide +kernel
theorem dX4_settleHour_51 : decode cX4_settleHour 51 = .ok (.getfield 60, 3) := by decide +kernel
theorem dX4_settleHour_54 : decode cX4_settleHour 54 = .ok (.aload_n 0, 1) := by decide +kernel
theorem dX4_settleHour_55 : decode cX4_settleHour 55 = .ok (.getfield 38, 3) := by decide +kernel
theorem dX4_settleHour_58 : decode cX4_settleHour 58 = .ok (.if_icmp .le 21, 3) := by decide +kernel
theorem dX4_settleHour_61 : decode cX4_settleHour 61 = .ok (.aload_n 0, 1) := by decide +kernel
theorem dX4_settleHour_62 : decode cX4_settleHour 62 = .ok (.dup, 1) := by decide +kernel
theorem dX4_settleHour_63 : decode cX4_settleHour 63 = .ok (.getfield 29, 3) := by decide +kernel
theorem dX4_settleHour_66 : decode cX4_settleHour 66 = .ok (.iconst 1, 1) := by decide +kernel
theorem dX4_settleHour_67 : decode cX4_settleHour 67 = .ok (.iadd, 1) := by decide +kernel
theorem dX4_settleHour_68 : decode cX4_settleHour 68 = .ok (.putfield 29, 3) := by decide +kernel
theorem dX4_settleHour_71 : decode cX4_settleHour 71 = .ok (.aload_n 0, 1) := by decide +kernel
theorem dX4_settleHour_72 : decode cX4_settleHour 72 = .ok (.aload_n 0, 1) := by decide +kernel
theorem dX4_settleHour_73 : decode cX4_settleHour 73 = .ok (.getfield 44, 3) := by decide +kernel
theorem dX4_settleHour_76 : decode cX4_settleHour 76 = .ok (.invokevirtual 53, 3) := by decide +kernel
theorem dX4_settleHour_79 : decode cX4_settleHour 79 = .ok (.return_, 1) := by decide +kernel
theorem dX4_credit_0 : decode cX4_credit 0 = .ok (.aload_n 0, 1) := by decide +kernel
theorem dX4_credit_1 : decode cX4_credit 1 = .ok (.aload_n 0, 1) := by decide +kernel
theorem dX4_credit_2 : decode cX4_credit 2 = .ok (.getfield 47, 3) := by decide +kernel
theorem dX4_credit_5 : decode cX4_credit 5 = .ok (.aload_n 0, 1) := by decide +kernel
theorem dX4_credit_6 : decode cX4_credit 6 = .ok (.getfield 22, 3) := by decide +kernel
theorem dX4_credit_9 : decode cX4_credit 9 = .ok (.iload_n 1, 1) := by decide +kernel
theorem dX4_credit_10 : decode cX4_credit 10 = .ok (.iadd, 1) := by decide +kernel
theorem dX4_credit_11 : decode cX4_credit 11 = .ok (.invokestatic 63, 3) := by decide +kernel
theorem dX4_credit_14 : decode cX4_credit 14 = .ok (.putfield 22, 3) := by decide +kernel
theorem dX4_credit_17 : decode cX4_credit 17 = .ok (.return_, 1) := by decide +kernel
theorem dX5_init_0 : decode cX5_init 0 = .ok (.aload_n 0, 1) := by decide +kernel
theorem dX5_init_1 : decode cX5_init 1 = .ok (.invokespecial 3, 3) := by decide +kernel
theorem dX5_init_4 : decode cX5_init 4 = .ok (.aload_n 0, 1) := by decide +kernel
theorem dX5_init_5 : decode cX5_init 5 = .ok (.bipush 9, 2) := by decide +kernel
theorem dX5_init_7 : decode cX5_init 7 = .ok (.newarray .int, 2) := by decide +kernel
theorem dX5_init_9 : decode cX5_init 9 = .ok (.putfield 9, 3) := by decide +kernel
theorem dX5_init_12 : decode cX5_init 12 = .ok (.aload_n 0, 1) := by decide +kernel
theorem dX5_init_13 : decode cX5_init 13 = .ok (.iconst (-1), 1) := by decide +kernel
theorem dX5_init_14 : decode cX5_init 14 = .ok (.putfield 15, 3) := by decide +kernel
theorem dX5_init_17 : decode cX5_init 17 = .ok (.aload_n 0, 1) := by decide +kernel
theorem dX5_init_18 : decode cX5_init 18 = .ok (.iconst (-1), 1) := by decide +kernel
theorem dX5_init_19 : decode cX5_init 19 = .ok (.putfield 19, 3) := by decide +kernel
theorem dX5_init_22 : decode cX5_init 22 = .ok (.aload_n 0, 1) := by decide +kernel
theorem dX5_init_23 : decode cX5_init 23 = .ok (.iconst (-1), 1) := by decide +kernel
theorem dX5_init_24 : decode cX5_init 24 = .ok (.putfield 22, 3) := by decide +kernel
theorem dX5_init_27 : decode cX5_init 27 = .ok (.return_, 1) := by decide +kernel
theorem dX5_end_0 : decode cX5_end 0 = .ok (.aload_n 0, 1) := by decide +kernel
theorem dX5_end_1 : decode cX5_end 1 = .ok (.iconst (-1), 1) := by decide +kernel
theorem dX5_end_2 : decode cX5_end 2 = .ok (.putfield 15, 3) := by decide +kernel
theorem dX5_end_5 : decode cX5_end 5 = .ok (.aload_n 0, 1) := by decide +kernel
theorem dX5_end_6 : decode cX5_end 6 = .ok (.iconst (-1), 1) := by decide +kernel
theorem dX5_end_7 : decode cX5_end 7 = .ok (.putfield 19, 3) := by decide +kernel
theorem dX5_end_10 : decode cX5_end 10 = .ok (.aload_n 0, 1) := by decide +kernel
theorem dX5_end_11 : decode cX5_end 11 = .ok (.iconst (-1), 1) := by decide +kernel
theorem dX5_end_12 : decode cX5_end 12 = .ok (.putfield 22, 3) := by decide +kernel
theorem dX5_end_15 : decode cX5_end 15 = .ok (.return_, 1) := by decide +kernel
theorem dX5_start_0 : decode cX5_start 0 = .ok (.aload_n 0, 1) := by decide +kernel
theorem dX5_start_1 : decode cX5_start 1 = .ok (.iconst 0, 1) := by decide +kernel
theorem dX5_start_2 : decode cX5_start 2 = .ok (.putfield 15, 3) := by decide +kernel
theorem dX5_start_5 : decode cX5_start 5 = .ok (.aload_n 0, 1) := by decide +kernel
theorem dX5_start_6 : decode cX5_start 6 = .ok (.iconst 0, 1) := by decide +kernel
theorem dX5_start_7 : decode cX5_start 7 = .ok (.putfield 19, 3) := by decide +kernel
theorem dX5_start_10 : decode cX5_start 10 = .ok (.aload_n 0, 1) := by decide +kernel
theorem dX5_start_11 : decode cX5_start 11 = .ok (.iconst 0, 1) := by decide +kernel
theorem dX5_start_12 : decode cX5_start 12 = .ok (.putfield 22, 3) := by decide +kernel
theorem dX5_start_15 : decode cX5_start 15 = .ok (.return_, 1) := by decide +kernel
theorem dX5_add_0 : decode cX5_add 0 = .ok (.aload_n 0, 1) := by decide +kernel
theorem dX5_add_1 : decode cX5_add 1 = .ok (.getfield 15, 3) := by decide +kernel
theorem dX5_add_4 : decode cX5_add 4 = .ok (.ifCond .lt 15, 3) := by decide +kernel
theorem dX5_add_7 : decode cX5_add 7 = .ok (.aload_n 0, 1) := by decide +kernel
theorem dX5_add_8 : decode cX5_add 8 = .ok (.getfield 15, 3) := by decide +kernel
theorem dX5_add_11 : decode cX5_add 11 = .ok (.aload_n 0, 1) := by decide +kernel
theorem dX5_add_12 : decode cX5_add 12 = .ok (.getfield 9, 3) := by decide +kernel
theorem dX5_add_15 : decode cX5_add 15 = .ok (.arraylength, 1) := by decide +kernel
theorem dX5_add_16 : decode cX5_add 16 = .ok (.if_icmp .lt 4, 3) := by decide +kernel
theorem dX5_add_19 : decode cX5_add 19 = .ok (.return_, 1) := by decide +kernel
theorem dX5_add_20 : decode cX5_add 20 = .ok (.aload_n 0, 1) := by decide +kernel
theorem dX5_add_21 : decode cX5_add 21 = .ok (.getfield 9, 3) := by decide +kernel
theorem dX5_add_24 : decode cX5_add 24 = .ok (.aload_n 0, 1) := by decide +kernel
theorem dX5_add_25 : decode cX5_add 25 = .ok (.getfield 15, 3) := by decide +kernel
theorem dX5_add_28 : decode cX5_add 28 = .ok (.iload_n 1, 1) := by decide +kernel
theorem dX5_add_29 : decode cX5_add 29 = .ok (.iastore, 1) := by decide +kernel
theorem dX5_add_30 : decode cX5_add 30 = .ok (.aload_n 0, 1) := by decide +kernel
theorem dX5_add_31 : decode cX5_add 31 = .ok (.dup, 1) := by decide +kernel
theorem dX5_add_32 : decode cX5_add 32 = .ok (.getfield 15, 3) := by decide +kernel
theorem dX5_add_35 : decode cX5_add 35 = .ok (.iconst 1, 1) := by decide +kernel
theorem dX5_add_36 : decode cX5_add 36 = .ok (.iadd, 1) := by decide +kernel
theorem dX5_add_37 : decode cX5_add 37 = .ok (.putfield 15, 3) := by decide +kernel
theorem dX5_add_40 : decode cX5_add 40 = .ok (.aload_n 0, 1) := by decide +kernel
theorem dX5_add_41 : decode cX5_add 41 = .ok (.dup, 1) := by decide +kernel
theorem dX5_add_42 : decode cX5_add 42 = .ok (.getfield 19, 3) := by decide +kernel
theorem dX5_add_45 : decode cX5_add 45 = .ok (.aload_n 2, 1) := by decide +kernel
theorem dX5_add_46 : decode cX5_add 46 = .ok (.getfield 25, 3) := by decide +kernel
theorem dX5_add_49 : decode cX5_add 49 = .ok (.iadd, 1) := by decide +kernel
theorem dX5_add_50 : decode cX5_add 50 = .ok (.putfield 19, 3) := by decide +kernel
theorem dX5_add_53 : decode cX5_add 53 = .ok (.aload_n 0, 1) := by decide +kernel
theorem dX5_add_54 : decode cX5_add 54 = .ok (.dup, 1) := by decide +kernel
end
section
theorem dX5_add_55 : decode cX5_add 55 = .ok (.getfield 22, 3) := by decide +kernel
theorem dX5_add_58 : decode cX5_add 58 = .ok (.aload_n 2, 1) := by decide +kernel
theorem dX5_add_59 : decode cX5_add 59 = .ok (.getfield 30, 3) := by decide +kernel
theorem dX5_add_62 : decode cX5_add 62 = .ok (.iadd, 1) := by decide +kernel
theorem dX5_add_63 : decode cX5_add 63 = .ok (.putfield 22, 3) := by decide +kernel
theorem dX5_add_66 : decode cX5_add 66 = .ok (.return_, 1) := by decide +kernel
theorem dX5_cableAt_0 : decode cX5_cableAt 0 = .ok (.iload_n 1, 1) := by decide +kernel
theorem dX5_cableAt_1 : decode cX5_cableAt 1 = .ok (.aload_n 0, 1) := by decide +kernel
theorem dX5_cableAt_2 : decode cX5_cableAt 2 = .ok (.getfield 15, 3) := by decide +kernel
theorem dX5_cableAt_5 : decode cX5_cableAt 5 = .ok (.if_icmp .ge 12, 3) := by decide +kernel
theorem dX5_cableAt_8 : decode cX5_cableAt 8 = .ok (.aload_n 0, 1) := by decide +kernel
theorem dX5_cableAt_9 : decode cX5_cableAt 9 = .ok (.getfield 9, 3) := by decide +kernel
theorem dX5_cableAt_12 : decode cX5_cableAt 12 = .ok (.iload_n 1, 1) := by decide +kernel
theorem dX5_cableAt_13 : decode cX5_cableAt 13 = .ok (.iaload, 1) := by decide +kernel
theorem dX5_cableAt_14 : decode cX5_cableAt 14 = .ok (.goto 4, 3) := by decide +kernel
theorem dX5_cableAt_17 : decode cX5_cableAt 17 = .ok (.iconst (-1), 1) := by decide +kernel
theorem dX5_cableAt_18 : decode cX5_cableAt 18 = .ok (.ireturn, 1) := by decide +kernel
theorem dX6_init_0 : decode cX6_init 0 = .ok (.aload_n 0, 1) := by decide +kernel
theorem dX6_init_1 : decode cX6_init 1 = .ok (.invokespecial 1, 3) := by decide +kernel
theorem dX6_init_4 : decode cX6_init 4 = .ok (.aload_n 0, 1) := by decide +kernel
theorem dX6_init_5 : decode cX6_init 5 = .ok (.bipush 10, 2) := by decide +kernel
theorem dX6_init_7 : decode cX6_init 7 = .ok (.anewarray 9, 3) := by decide +kernel
theorem dX6_init_10 : decode cX6_init 10 = .ok (.putfield 11, 3) := by decide +kernel
theorem dX6_init_13 : decode cX6_init 13 = .ok (.aload_n 0, 1) := by decide +kernel
theorem dX6_init_14 : decode cX6_init 14 = .ok (.iconst 0, 1) := by decide +kernel
theorem dX6_init_15 : decode cX6_init 15 = .ok (.putfield 15, 3) := by decide +kernel
theorem dX6_init_18 : decode cX6_init 18 = .ok (.aload_n 0, 1) := by decide +kernel
theorem dX6_init_19 : decode cX6_init 19 = .ok (.new 19, 3) := by decide +kernel
theorem dX6_init_22 : decode cX6_init 22 = .ok (.dup, 1) := by decide +kernel
theorem dX6_init_23 : decode cX6_init 23 = .ok (.invokespecial 21, 3) := by decide +kernel
theorem dX6_init_26 : decode cX6_init 26 = .ok (.putfield 22, 3) := by decide +kernel
theorem dX6_init_29 : decode cX6_init 29 = .ok (.aload_n 0, 1) := by decide +kernel
theorem dX6_init_30 : decode cX6_init 30 = .ok (.iconst 4, 1) := by decide +kernel
theorem dX6_init_31 : decode cX6_init 31 = .ok (.anewarray 26, 3) := by decide +kernel
theorem dX6_init_34 : decode cX6_init 34 = .ok (.putfield 28, 3) := by decide +kernel
theorem dX6_init_37 : decode cX6_init 37 = .ok (.aload_n 0, 1) := by decide +kernel
theorem dX6_init_38 : decode cX6_init 38 = .ok (.iconst 0, 1) := by decide +kernel
theorem dX6_init_39 : decode cX6_init 39 = .ok (.putfield 32, 3) := by decide +kernel
theorem dX6_init_42 : decode cX6_init 42 = .ok (.aload_n 0, 1) := by decide +kernel
theorem dX6_init_43 : decode cX6_init 43 = .ok (.bipush 12, 2) := by decide +kernel
theorem dX6_init_45 : decode cX6_init 45 = .ok (.anewarray 35, 3) := by decide +kernel
theorem dX6_init_48 : decode cX6_init 48 = .ok (.putfield 37, 3) := by decide +kernel
theorem dX6_init_51 : decode cX6_init 51 = .ok (.aload_n 0, 1) := by decide +kernel
theorem dX6_init_52 : decode cX6_init 52 = .ok (.iconst 0, 1) := by decide +kernel
theorem dX6_init_53 : decode cX6_init 53 = .ok (.putfield 41, 3) := by decide +kernel
theorem dX6_init_56 : decode cX6_init 56 = .ok (.aload_n 0, 1) := by decide +kernel
theorem dX6_init_57 : decode cX6_init 57 = .ok (.iconst 0, 1) := by decide +kernel
theorem dX6_init_58 : decode cX6_init 58 = .ok (.putfield 44, 3) := by decide +kernel
theorem dX6_init_61 : decode cX6_init 61 = .ok (.aload_n 0, 1) := by decide +kernel
theorem dX6_init_62 : decode cX6_init 62 = .ok (.iconst 0, 1) := by decide +kernel
theorem dX6_init_63 : decode cX6_init 63 = .ok (.putfield 48, 3) := by decide +kernel
theorem dX6_init_66 : decode cX6_init 66 = .ok (.return_, 1) := by decide +kernel
theorem dX6_island_0 : decode cX6_island 0 = .ok (.iload_n 1, 1) := by decide +kernel
theorem dX6_island_1 : decode cX6_island 1 = .ok (.iconst 0, 1) := by decide +kernel
theorem dX6_island_2 : decode cX6_island 2 = .ok (.bipush 99, 2) := by decide +kernel
theorem dX6_island_4 : decode cX6_island 4 = .ok (.invokestatic 51, 3) := by decide +kernel
theorem dX6_island_7 : decode cX6_island 7 = .ok (.iload_n 2, 1) := by decide +kernel
theorem dX6_island_8 : decode cX6_island 8 = .ok (.iconst 0, 1) := by decide +kernel
theorem dX6_island_9 : decode cX6_island 9 = .ok (.bipush 99, 2) := by decide +kernel
theorem dX6_island_11 : decode cX6_island 11 = .ok (.invokestatic 51, 3) := by decide +kernel
theorem dX6_island_14 : decode cX6_island 14 = .ok (.aload_n 0, 1) := by decide +kernel
theorem dX6_island_15 : decode cX6_island 15 = .ok (.getfield 15, 3) := by decide +kernel
theorem dX6_island_18 : decode cX6_island 18 = .ok (.bipush 10, 2) := by decide +kernel
theorem dX6_island_20 : decode cX6_island 20 = .ok (.invokestatic 55, 3) := by decide +kernel
theorem dX6_island_23 : decode cX6_island 23 = .ok (.aload_n 0, 1) := by decide +kernel
theorem dX6_island_24 : decode cX6_island 24 = .ok (.getfield 11, 3) := by decide +kernel
theorem dX6_island_27 : decode cX6_island 27 = .ok (.aload_n 0, 1) := by decide +kernel
theorem dX6_island_28 : decode cX6_island 28 = .ok (.getfield 15, 3) := by decide +kernel
theorem dX6_island_31 : decode cX6_island 31 = .ok (.new 9, 3) := by decide +kernel
theorem dX6_island_34 : decode cX6_island 34 = .ok (.dup, 1) := by decide +kernel
theorem dX6_island_35 : decode cX6_island 35 = .ok (.iload_n 1, 1) := by decide +kernel
theorem dX6_island_36 : decode cX6_island 36 = .ok (.iload_n 2, 1) := by decide +kernel
theorem dX6_island_37 : decode cX6_island 37 = .ok (.invokespecial 59, 3) := by decide +kernel
theorem dX6_island_40 : decode cX6_island 40 = .ok (.aastore, 1) := by decide +kernel
theorem dX6_island_41 : decode cX6_island 41 = .ok (.aload_n 0, 1) := by decide +kernel
theorem dX6_island_42 : decode cX6_island 42 = .ok (.dup, 1) := by decide +kernel
theorem dX6_island_43 : decode cX6_island 43 = .ok (.getfield 15, 3) := by decide +kernel
theorem dX6_island_46 : decode cX6_island 46 = .ok (.iconst 1, 1) := by decide +kernel
theorem dX6_island_47 : decode cX6_island 47 = .ok (.iadd, 1) := by decide +kernel
theorem dX6_island_48 : decode cX6_island 48 = .ok (.putfield 15, 3) := by decide +kernel
theorem dX6_island_51 : decode cX6_island 51 = .ok (.aload_n 0, 1) := by decide +kernel
theorem dX6_island_52 : decode cX6_island 52 = .ok (.getfield 15, 3) := by decide +kernel
theorem dX6_island_55 : decode cX6_island 55 = .ok (.iconst 1, 1) := by decide +kernel
theorem dX6_island_56 : decode cX6_island 56 = .ok (.isub, 1) := by decide +kernel
theorem dX6_island_57 : decode cX6_island 57 = .ok (.ireturn, 1) := by decide +kernel
theorem dX6_cable_0 : decode cX6_cable 0 = .ok (.iload_n 1, 1) := by decide +kernel
theorem dX6_cable_1 : decode cX6_cable 1 = .ok (.aload_n 0, 1) := by decide +kernel
theorem dX6_cable_2 : decode cX6_cable 2 = .ok (.getfield 15, 3) := by decide +kernel
theorem dX6_cable_5 : decode cX6_cable 5 = .ok (.invokestatic 61, 3) := by decide +kernel
theorem dX6_cable_8 : decode cX6_cable 8 = .ok (.iload_n 2, 1) := by decide +kernel
theorem dX6_cable_9 : decode cX6_cable 9 = .ok (.aload_n 0, 1) := by decide +kernel
theorem dX6_cable_10 : decode cX6_cable 10 = .ok (.getfield 15, 3) := by decide +kernel
theorem dX6_cable_13 : decode cX6_cable 13 = .ok (.invokestatic 61, 3) := by decide +kernel
theorem dX6_cable_16 : decode cX6_cable 16 = .ok (.iload_n 1, 1) := by decide +kernel
theorem dX6_cable_17 : decode cX6_cable 17 = .ok (.iload_n 2, 1) := by decide +kernel
theorem dX6_cable_18 : decode cX6_cable 18 = .ok (.invokestatic 64, 3) := by decide +kernel
theorem dX6_cable_21 : decode cX6_cable 21 = .ok (.iload_n 3, 1) := by decide +kernel
theorem dX6_cable_22 : decode cX6_cable 22 = .ok (.iconst 1, 1) := by decide +kernel
theorem dX6_cable_23 : decode cX6_cable 23 = .ok (.bipush 8, 2) := by decide +kernel
theorem dX6_cable_25 : decode cX6_cable 25 = .ok (.invokestatic 51, 3) := by decide +kernel
theorem dX6_cable_28 : decode cX6_cable 28 = .ok (.iload 4, 2) := by decide +kernel
theorem dX6_cable_30 : decode cX6_cable 30 = .ok (.iconst 1, 1) := by decide +kernel
theorem dX6_cable_31 : decode cX6_cable 31 = .ok (.sipush 500, 3) := by decide +kernel
theorem dX6_cable_34 : decode cX6_cable 34 = .ok (.invokestatic 51, 3) := by decide +kernel
theorem dX6_cable_37 : decode cX6_cable 37 = .ok (.iload 5, 2) := by decide +kernel
theorem dX6_cable_39 : decode cX6_cable 39 = .ok (.iconst 0, 1) := by decide +kernel
theorem dX6_cable_40 : decode cX6_cable 40 = .ok (.sipush 9999, 3) := by decide +kernel
theorem dX6_cable_43 : decode cX6_cable 43 = .ok (.invokestatic 51, 3) := by decide +kernel
theorem dX6_cable_46 : decode cX6_cable 46 = .ok (.aload_n 0, 1) := by decide +kernel
theorem dX6_cable_47 : decode cX6_cable 47 = .ok (.getfield 22, 3) := by decide +kernel
theorem dX6_cable_50 : decode cX6_cable 50 = .ok (.getfield 67, 3) := by decide +kernel
theorem dX6_cable_53 : decode cX6_cable 53 = .ok (.bipush 16, 2) := by decide +kernel
theorem dX6_cable_55 : decode cX6_cable 55 = .ok (.invokestatic 55, 3) := by decide +kernel
theorem dX6_cable_58 : decode cX6_cable 58 = .ok (.aload_n 0, 1) := by decide +kernel
theorem dX6_cable_59 : decode cX6_cable 59 = .ok (.iconst 1, 1) := by decide +kernel
theorem dX6_cable_60 : decode cX6_cable 60 = .ok (.putfield 44, 3) := by decide +kernel
theorem dX6_cable_63 : decode cX6_cable 63 = .ok (.aload_n 0, 1) := by decide +kernel
theorem dX6_cable_64 : decode cX6_cable 64 = .ok (.getfield 22, 3) := by decide +kernel
theorem dX6_cable_67 : decode cX6_cable 67 = .ok (.new 70, 3) := by decide +kernel
theorem dX6_cable_70 : decode cX6_cable 70 = .ok (.dup, 1) := by decide +kernel
theorem dX6_cable_71 : decode cX6_cable 71 = .ok (.iload_n 1, 1) := by decide +kernel
theorem dX6_cable_72 : decode cX6_cable 72 = .ok (.iload_n 2, 1) := by decide +kernel
theorem dX6_cable_73 : decode cX6_cable 73 = .ok (.iload_n 3, 1) := by decide +kernel
theorem dX6_cable_74 : decode cX6_cable 74 = .ok (.iload 4, 2) := by decide +kernel
theorem dX6_cable_76 : decode cX6_cable 76 = .ok (.iload 5, 2) := by decide +kernel
theorem dX6_cable_78 : decode cX6_cable 78 = .ok (.invokespecial 72, 3) := by decide +kernel
theorem dX6_cable_81 : decode cX6_cable 81 = .ok (.invokevirtual 75, 3) := by decide +kernel
theorem dX6_cable_84 : decode cX6_cable 84 = .ok (.ireturn, 1) := by decide +kernel
theorem dX6_price_0 : decode cX6_price 0 = .ok (.iload_n 1, 1) := by decide +kernel
theorem dX6_price_1 : decode cX6_price 1 = .ok (.aload_n 0, 1) := by decide +kernel
theorem dX6_price_2 : decode cX6_price 2 = .ok (.getfield 22, 3) := by decide +kernel
theorem dX6_price_5 : decode cX6_price 5 = .ok (.getfield 67, 3) := by decide +kernel
theorem dX6_price_8 : decode cX6_price 8 = .ok (.invokestatic 61, 3) := by decide +kernel
theorem dX6_price_11 : decode cX6_price 11 = .ok (.iload_n 2, 1) := by decide +kernel
theorem dX6_price_12 : decode cX6_price 12 = .ok (.iconst 0, 1) := by decide +kernel
theorem dX6_price_13 : decode cX6_price 13 = .ok (.sipush 9999, 3) := by decide +kernel
theorem dX6_price_16 : decode cX6_price 16 = .ok (.invokestatic 51, 3) := by decide +kernel
theorem dX6_price_19 : decode cX6_price 19 = .ok (.aload_n 0, 1) := by decide +kernel
theorem dX6_price_20 : decode cX6_price 20 = .ok (.getfield 22, 3) := by decide +kernel
theorem dX6_price_23 : decode cX6_price 23 = .ok (.getfield 79, 3) := by decide +kernel
theorem dX6_price_26 : decode cX6_price 26 = .ok (.iload_n 1, 1) := by decide +kernel
theorem dX6_price_27 : decode cX6_price 27 = .ok (.aaload, 1) := by decide +kernel
theorem dX6_price_28 : decode cX6_price 28 = .ok (.getfield 83, 3) := by decide +kernel
theorem dX6_price_31 : decode cX6_price 31 = .ok (.istore_n 3, 1) := by decide +kernel
theorem dX6_price_32 : decode cX6_price 32 = .ok (.aload_n 0, 1) := by decide +kernel
theorem dX6_price_33 : decode cX6_price 33 = .ok (.getfield 22, 3) := by decide +kernel
theorem dX6_price_36 : decode cX6_price 36 = .ok (.getfield 79, 3) := by decide +kernel
theorem dX6_price_39 : decode cX6_price 39 = .ok (.iload_n 1, 1) := by decide +kernel
theorem dX6_price_40 : decode cX6_price 40 = .ok (.aaload, 1) := by decide +kernel
theorem dX6_price_41 : decode cX6_price 41 = .ok (.iload_n 2, 1) := by decide +kernel
theorem dX6_price_42 : decode cX6_price 42 = .ok (.putfield 83, 3) := by decide +kernel
theorem dX6_price_45 : decode cX6_price 45 = .ok (.aload_n 0, 1) := by decide +kernel
theorem dX6_price_46 : decode cX6_price 46 = .ok (.iconst 1, 1) := by decide +kernel
theorem dX6_price_47 : decode cX6_price 47 = .ok (.putfield 44, 3) := by decide +kernel
theorem dX6_price_50 : decode cX6_price 50 = .ok (.iload_n 3, 1) := by decide +kernel
theorem dX6_price_51 : decode cX6_price 51 = .ok (.ireturn, 1) := by decide +kernel
theorem dX6_fault_0 : decode cX6_fault 0 = .ok (.aload_n 0, 1) := by decide +kernel
theorem dX6_fault_1 : decode cX6_fault 1 = .ok (.iload_n 1, 1) := by decide +kernel
theorem dX6_fault_2 : decode cX6_fault 2 = .ok (.iload_n 2, 1) := by decide +kernel
theorem dX6_fault_3 : decode cX6_fault 3 = .ok (.invokevirtual 86, 3) := by decide +kernel
theorem dX6_fault_6 : decode cX6_fault 6 = .ok (.aload_n 0, 1) := by decide +kernel
theorem dX6_fault_7 : decode cX6_fault 7 = .ok (.getfield 22, 3) := by decide +kernel
theorem dX6_fault_10 : decode cX6_fault 10 = .ok (.getfield 79, 3) := by decide +kernel
theorem dX6_fault_13 : decode cX6_fault 13 = .ok (.iload_n 1, 1) := by decide +kernel
theorem dX6_fault_14 : decode cX6_fault 14 = .ok (.aaload, 1) := by decide +kernel
theorem dX6_fault_15 : decode cX6_fault 15 = .ok (.iload_n 2, 1) := by decide +kernel
theorem dX6_fault_16 : decode cX6_fault 16 = .ok (.invokevirtual 89, 3) := by decide +kernel
theorem dX6_fault_19 : decode cX6_fault 19 = .ok (.ifCond .eq 13, 3) := by decide +kernel
theorem dX6_fault_22 : decode cX6_fault 22 = .ok (.new 93, 3) := by decide +kernel
theorem dX6_fault_25 : decode cX6_fault 25 = .ok (.dup, 1) := by decide +kernel
theorem dX6_fault_26 : decode cX6_fault 26 = .ok (.ldc 95, 2) := by decide +kernel
theorem dX6_fault_28 : decode cX6_fault 28 = .ok (.invokespecial 97, 3) := by decide +kernel
theorem dX6_fault_31 : decode cX6_fault 31 = .ok (.athrow, 1) := by decide +kernel
theorem dX6_fault_32 : decode cX6_fault 32 = .ok (.aload_n 0, 1) := by decide +kernel
theorem dX6_fault_33 : decode cX6_fault 33 = .ok (.iconst 1, 1) := by decide +kernel
theorem dX6_fault_34 : decode cX6_fault 34 = .ok (.putfield 44, 3) := by decide +kernel
theorem dX6_fault_37 : decode cX6_fault 37 = .ok (.aload_n 0, 1) := by decide +kernel
theorem dX6_fault_38 : decode cX6_fault 38 = .ok (.getfield 22, 3) := by decide +kernel
theorem dX6_fault_41 : decode cX6_fault 41 = .ok (.iload_n 1, 1) := by decide +kernel
theorem dX6_fault_42 : decode cX6_fault 42 = .ok (.iload_n 2, 1) := by decide +kernel
theorem dX6_fault_43 : decode cX6_fault 43 = .ok (.invokevirtual 100, 3) := by decide +kernel
theorem dX6_fault_46 : decode cX6_fault 46 = .ok (.ireturn, 1) := by decide +kernel
theorem dX6_ship_0 : decode cX6_ship 0 = .ok (.iload_n 1, 1) := by decide +kernel
theorem dX6_ship_1 : decode cX6_ship 1 = .ok (.aload_n 0, 1) := by decide +kernel
theorem dX6_ship_2 : decode cX6_ship 2 = .ok (.getfield 15, 3) := by decide +kernel
theorem dX6_ship_5 : decode cX6_ship 5 = .ok (.invokestatic 61, 3) := by decide +kernel
theorem dX6_ship_8 : decode cX6_ship 8 = .ok (.iload_n 2, 1) := by decide +kernel
theorem dX6_ship_9 : decode cX6_ship 9 = .ok (.iconst 1, 1) := by decide +kernel
theorem dX6_ship_10 : decode cX6_ship 10 = .ok (.bipush 20, 2) := by decide +kernel
theorem dX6_ship_12 : decode cX6_ship 12 = .ok (.invokestatic 51, 3) := by decide +kernel
theorem dX6_ship_15 : decode cX6_ship 15 = .ok (.aload_n 0, 1) := by decide +kernel
theorem dX6_ship_16 : decode cX6_ship 16 = .ok (.getfield 32, 3) := by decide +kernel
theorem dX6_ship_19 : decode cX6_ship 19 = .ok (.iconst 4, 1) := by decide +kernel
theorem dX6_ship_20 : decode cX6_ship 20 = .ok (.invokestatic 55, 3) := by decide +kernel
theorem dX6_ship_23 : decode cX6_ship 23 = .ok (.aload_n 0, 1) := by decide +kernel
theorem dX6_ship_24 : decode cX6_ship 24 = .ok (.getfield 28, 3) := by decide +kernel
theorem dX6_ship_27 : decode cX6_ship 27 = .ok (.aload_n 0, 1) := by decide +kernel
theorem dX6_ship_28 : decode cX6_ship 28 = .ok (.getfield 32, 3) := by decide +kernel
theorem dX6_ship_31 : decode cX6_ship 31 = .ok (.new 26, 3) := by decide +kernel
theorem dX6_ship_34 : decode cX6_ship 34 = .ok (.dup, 1) := by decide +kernel
theorem dX6_ship_35 : decode cX6_ship 35 = .ok (.aload_n 0, 1) := by decide +kernel
theorem dX6_ship_36 : decode cX6_ship 36 = .ok (.getfield 11, 3) := by decide +kernel
theorem dX6_ship_39 : decode cX6_ship 39 = .ok (.iload_n 1, 1) := by decide +kernel
theorem dX6_ship_40 : decode cX6_ship 40 = .ok (.aaload, 1) := by decide +kernel
theorem dX6_ship_41 : decode cX6_ship 41 = .ok (.getfield 104, 3) := by decide +kernel
theorem dX6_ship_44 : decode cX6_ship 44 = .ok (.aload_n 0, 1) := by decide +kernel
theorem dX6_ship_45 : decode cX6_ship 45 = .ok (.getfield 11, 3) := by decide +kernel
theorem dX6_ship_48 : decode cX6_ship 48 = .ok (.iload_n 1, 1) := by decide +kernel
theorem dX6_ship_49 : decode cX6_ship 49 = .ok (.aaload, 1) := by decide +kernel
theorem dX6_ship_50 : decode cX6_ship 50 = .ok (.getfield 107, 3) := by decide +kernel
theorem dX6_ship_53 : decode cX6_ship 53 = .ok (.iload_n 2, 1) := by decide +kernel
theorem dX6_ship_54 : decode cX6_ship 54 = .ok (.invokespecial 110, 3) := by decide +kernel
theorem dX6_ship_57 : decode cX6_ship 57 = .ok (.aastore, 1) := by decide +kernel
theorem dX6_ship_58 : decode cX6_ship 58 = .ok (.aload_n 0, 1) := by decide +kernel
theorem dX6_ship_59 : decode cX6_ship 59 = .ok (.dup, 1) := by decide +kernel
theorem dX6_ship_60 : decode cX6_ship 60 = .ok (.getfield 32, 3) := by decide +kernel
theorem dX6_ship_63 : decode cX6_ship 63 = .ok (.iconst 1, 1) := by decide +kernel
theorem dX6_ship_64 : decode cX6_ship 64 = .ok (.iadd, 1) := by decide +kernel
theorem dX6_ship_65 : decode cX6_ship 65 = .ok (.putfield 32, 3) := by decide +kernel
theorem dX6_ship_68 : decode cX6_ship 68 = .ok (.aload_n 0, 1) := by decide +kernel
theorem dX6_ship_69 : decode cX6_ship 69 = .ok (.getfield 32, 3) := by decide +kernel
theorem dX6_ship_72 : decode cX6_ship 72 = .ok (.iconst 1, 1) := by decide +kernel
theorem dX6_ship_73 : decode cX6_ship 73 = .ok (.isub, 1) := by decide +kernel
theorem dX6_ship_74 : decode cX6_ship 74 = .ok (.ireturn, 1) := by decide +kernel
theorem dX6_send_0 : decode cX6_send 0 = .ok (.iload_n 1, 1) := by decide +kernel
theorem dX6_send_1 : decode cX6_send 1 = .ok (.aload_n 0, 1) := by decide +kernel
theorem dX6_send_2 : decode cX6_send 2 = .ok (.getfield 32, 3) := by decide +kernel
theorem dX6_send_5 : decode cX6_send 5 = .ok (.invokestatic 61, 3) := by decide +kernel
theorem dX6_send_8 : decode cX6_send 8 = .ok (.aload_n 0, 1) := by decide +kernel
theorem dX6_send_9 : decode cX6_send 9 = .ok (.iload_n 2, 1) := by decide +kernel
theorem dX6_send_10 : decode cX6_send 10 = .ok (.iload_n 3, 1) := by decide +kernel
theorem dX6_send_11 : decode cX6_send 11 = .ok (.invokevirtual 86, 3) := by decide +kernel
theorem dX6_send_14 : decode cX6_send 14 = .ok (.aload_n 0, 1) := by decide +kernel
theorem dX6_send_15 : decode cX6_send 15 = .ok (.getfield 28, 3) := by decide +kernel
theorem dX6_send_18 : decode cX6_send 18 = .ok (.iload_n 1, 1) := by decide +kernel
theorem dX6_send_19 : decode cX6_send 19 = .ok (.aaload, 1) := by decide +kernel
theorem dX6_send_20 : decode cX6_send 20 = .ok (.invokestatic 112, 3) := by decide +kernel
theorem dX6_send_23 : decode cX6_send 23 = .ok (.aload_n 0, 1) := by decide +kernel
theorem dX6_send_24 : decode cX6_send 24 = .ok (.getfield 22, 3) := by decide +kernel
theorem dX6_send_27 : decode cX6_send 27 = .ok (.getfield 79, 3) := by decide +kernel
theorem dX6_send_30 : decode cX6_send 30 = .ok (.iload_n 2, 1) := by decide +kernel
theorem dX6_send_31 : decode cX6_send 31 = .ok (.aaload, 1) := by decide +kernel
theorem dX6_send_32 : decode cX6_send 32 = .ok (.astore 4, 2) := by decide +kernel
theorem dX6_send_34 : decode cX6_send 34 = .ok (.aload 4, 2) := by decide +kernel
theorem dX6_send_36 : decode cX6_send 36 = .ok (.iload_n 3, 1) := by decide +kernel
theorem dX6_send_37 : decode cX6_send 37 = .ok (.invokevirtual 89, 3) := by decide +kernel
theorem dX6_send_40 : decode cX6_send 40 = .ok (.ifCond .ne 13, 3) := by decide +kernel
theorem dX6_send_43 : decode cX6_send 43 = .ok (.new 93, 3) := by decide +kernel
theorem dX6_send_46 : decode cX6_send 46 = .ok (.dup, 1) := by decide +kernel
theorem dX6_send_47 : decode cX6_send 47 = .ok (.ldc 116, 2) := by decide +kernel
theorem dX6_send_49 : decode cX6_send 49 = .ok (.invokespecial 97, 3) := by decide +kernel
theorem dX6_send_52 : decode cX6_send 52 = .ok (.athrow, 1) := by decide +kernel
theorem dX6_send_53 : decode cX6_send 53 = .ok (.aload_n 0, 1) := by decide +kernel
theorem dX6_send_54 : decode cX6_send 54 = .ok (.getfield 11, 3) := by decide +kernel
theorem dX6_send_57 : decode cX6_send 57 = .ok (.aload 4, 2) := by decide +kernel
theorem dX6_send_59 : decode cX6_send 59 = .ok (.getfield 118, 3) := by decide +kernel
theorem dX6_send_62 : decode cX6_send 62 = .ok (.aaload, 1) := by decide +kernel
theorem dX6_send_63 : decode cX6_send 63 = .ok (.astore 5, 2) := by decide +kernel
theorem dX6_send_65 : decode cX6_send 65 = .ok (.aload_n 0, 1) := by decide +kernel
theorem dX6_send_66 : decode cX6_send 66 = .ok (.getfield 11, 3) := by decide +kernel
theorem dX6_send_69 : decode cX6_send 69 = .ok (.aload 4, 2) := by decide +kernel
theorem dX6_send_71 : decode cX6_send 71 = .ok (.getfield 121, 3) := by decide +kernel
theorem dX6_send_74 : decode cX6_send 74 = .ok (.aaload, 1) := by decide +kernel
theorem dX6_send_75 : decode cX6_send 75 = .ok (.astore 6, 2) := by decide +kernel
theorem dX6_send_77 : decode cX6_send 77 = .ok (.aload_n 0, 1) := by decide +kernel
theorem dX6_send_78 : decode cX6_send 78 = .ok (.getfield 28, 3) := by decide +kernel
theorem dX6_send_81 : decode cX6_send 81 = .ok (.iload_n 1, 1) := by decide +kernel
theorem dX6_send_82 : decode cX6_send 82 = .ok (.aaload, 1) := by decide +kernel
theorem dX6_send_83 : decode cX6_send 83 = .ok (.iload_n 2, 1) := by decide +kernel
theorem dX6_send_84 : decode cX6_send 84 = .ok (.iload_n 3, 1) := by decide +kernel
theorem dX6_send_85 : decode cX6_send 85 = .ok (.invokevirtual 124, 3) := by decide +kernel
theorem dX6_send_88 : decode cX6_send 88 = .ok (.aload_n 0, 1) := by decide +kernel
theorem dX6_send_89 : decode cX6_send 89 = .ok (.aload_n 0, 1) := by decide +kernel
theorem dX6_send_90 : decode cX6_send 90 = .ok (.getfield 28, 3) := by decide +kernel
theorem dX6_send_93 : decode cX6_send 93 = .ok (.iload_n 1, 1) := by decide +kernel
theorem dX6_send_94 : decode cX6_send 94 = .ok (.aaload, 1) := by decide +kernel
theorem dX6_send_95 : decode cX6_send 95 = .ok (.aload 4, 2) := by decide +kernel
theorem dX6_send_97 : decode cX6_send 97 = .ok (.iload_n 3, 1) := by decide +kernel
theorem dX6_send_98 : decode cX6_send 98 = .ok (.aload 5, 2) := by decide +kernel
theorem dX6_send_100 : decode cX6_send 100 = .ok (.getfield 104, 3) := by decide +kernel
theorem dX6_send_103 : decode cX6_send 103 = .ok (.aload 6, 2) := by decide +kernel
theorem dX6_send_105 : decode cX6_send 105 = .ok (.getfield 104, 3) := by decide +kernel
theorem dX6_send_108 : decode cX6_send 108 = .ok (.invokevirtual 127, 3) := by decide +kernel
theorem dX6_send_111 : decode cX6_send 111 = .ok (.aload 4, 2) := by decide +kernel
theorem dX6_send_113 : decode cX6_send 113 = .ok (.iload_n 3, 1) := by decide +kernel
theorem dX6_send_114 : decode cX6_send 114 = .ok (.aload 5, 2) := by decide +kernel
theorem dX6_send_116 : decode cX6_send 116 = .ok (.getfield 107, 3) := by decide +kernel
theorem dX6_send_119 : decode cX6_send 119 = .ok (.aload 6, 2) := by decide +kernel
theorem dX6_send_121 : decode cX6_send 121 = .ok (.getfield 107, 3) := by decide +kernel
theorem dX6_send_124 : decode cX6_send 124 = .ok (.invokevirtual 127, 3) := by decide +kernel
theorem dX6_send_127 : decode cX6_send 127 = .ok (.invokevirtual 131, 3) := by decide +kernel
theorem dX6_send_130 : decode cX6_send 130 = .ok (.ireturn, 1) := by decide +kernel
theorem dX6_home_0 : decode cX6_home 0 = .ok (.iload_n 1, 1) := by decide +kernel
theorem dX6_home_1 : decode cX6_home 1 = .ok (.aload_n 0, 1) := by decide +kernel
theorem dX6_home_2 : decode cX6_home 2 = .ok (.getfield 32, 3) := by decide +kernel
theorem dX6_home_5 : decode cX6_home 5 = .ok (.invokestatic 61, 3) := by decide +kernel
theorem dX6_home_8 : decode cX6_home 8 = .ok (.iload_n 2, 1) := by decide +kernel
theorem dX6_home_9 : decode cX6_home 9 = .ok (.aload_n 0, 1) := by decide +kernel
theorem dX6_home_10 : decode cX6_home 10 = .ok (.getfield 15, 3) := by decide +kernel
theorem dX6_home_13 : decode cX6_home 13 = .ok (.invokestatic 61, 3) := by decide +kernel
theorem dX6_home_16 : decode cX6_home 16 = .ok (.aload_n 0, 1) := by decide +kernel
theorem dX6_home_17 : decode cX6_home 17 = .ok (.getfield 28, 3) := by decide +kernel
theorem dX6_home_20 : decode cX6_home 20 = .ok (.iload_n 1, 1) := by decide +kernel
theorem dX6_home_21 : decode cX6_home 21 = .ok (.aaload, 1) := by decide +kernel
theorem dX6_home_22 : decode cX6_home 22 = .ok (.invokestatic 112, 3) := by decide +kernel
theorem dX6_home_25 : decode cX6_home 25 = .ok (.aload_n 0, 1) := by decide +kernel
theorem dX6_home_26 : decode cX6_home 26 = .ok (.getfield 28, 3) := by decide +kernel
theorem dX6_home_29 : decode cX6_home 29 = .ok (.iload_n 1, 1) := by decide +kernel
theorem dX6_home_30 : decode cX6_home 30 = .ok (.aaload, 1) := by decide +kernel
theorem dX6_home_31 : decode cX6_home 31 = .ok (.iconst (-1), 1) := by decide +kernel
theorem dX6_home_32 : decode cX6_home 32 = .ok (.iconst (-1), 1) := by decide +kernel
theorem dX6_home_33 : decode cX6_home 33 = .ok (.invokevirtual 124, 3) := by decide +kernel
theorem dX6_home_36 : decode cX6_home 36 = .ok (.aload_n 0, 1) := by decide +kernel
theorem dX6_home_37 : decode cX6_home 37 = .ok (.aload_n 0, 1) := by decide +kernel
theorem dX6_home_38 : decode cX6_home 38 = .ok (.getfield 28, 3) := by decide +kernel
theorem dX6_home_41 : decode cX6_home 41 = .ok (.iload_n 1, 1) := by decide +kernel
theorem dX6_home_42 : decode cX6_home 42 = .ok (.aaload, 1) := by decide +kernel
theorem dX6_home_43 : decode cX6_home 43 = .ok (.aload_n 0, 1) := by decide +kernel
theorem dX6_home_44 : decode cX6_home 44 = .ok (.getfield 11, 3) := by decide +kernel
theorem dX6_home_47 : decode cX6_home 47 = .ok (.iload_n 2, 1) := by decide +kernel
theorem dX6_home_48 : decode cX6_home 48 = .ok (.aaload, 1) := by decide +kernel
theorem dX6_home_49 : decode cX6_home 49 = .ok (.getfield 104, 3) := by decide +kernel
theorem dX6_home_52 : decode cX6_home 52 = .ok (.aload_n 0, 1) := by decide +kernel
theorem dX6_home_53 : decode cX6_home 53 = .ok (.getfield 11, 3) := by decide +kernel
theorem dX6_home_56 : decode cX6_home 56 = .ok (.iload_n 2, 1) := by decide +kernel
theorem dX6_home_57 : decode cX6_home 57 = .ok (.aaload, 1) := by decide +kernel
theorem dX6_home_58 : decode cX6_home 58 = .ok (.getfield 107, 3) := by decide +kernel
theorem dX6_home_61 : decode cX6_home 61 = .ok (.invokevirtual 131, 3) := by decide +kernel
theorem dX6_home_64 : decode cX6_home 64 = .ok (.ireturn, 1) := by decide +kernel
theorem dX6_trader_0 : decode cX6_trader 0 = .ok (.iload_n 1, 1) := by decide +kernel
theorem dX6_trader_1 : decode cX6_trader 1 = .ok (.aload_n 0, 1) := by decide +kernel
theorem dX6_trader_2 : decode cX6_trader 2 = .ok (.getfield 15, 3) := by decide +kernel
theorem dX6_trader_5 : decode cX6_trader 5 = .ok (.invokestatic 61, 3) := by decide +kernel
theorem dX6_trader_8 : decode cX6_trader 8 = .ok (.iload_n 2, 1) := by decide +kernel
theorem dX6_trader_9 : decode cX6_trader 9 = .ok (.aload_n 0, 1) := by decide +kernel
theorem dX6_trader_10 : decode cX6_trader 10 = .ok (.getfield 15, 3) := by decide +kernel
theorem dX6_trader_13 : decode cX6_trader 13 = .ok (.invokestatic 61, 3) := by decide +kernel
theorem dX6_trader_16 : decode cX6_trader 16 = .ok (.iload_n 1, 1) := by decide +kernel
theorem dX6_trader_17 : decode cX6_trader 17 = .ok (.iload_n 2, 1) := by decide +kernel
theorem dX6_trader_18 : decode cX6_trader 18 = .ok (.invokestatic 64, 3) := by decide +kernel
theorem dX6_trader_21 : decode cX6_trader 21 = .ok (.iload_n 3, 1) := by decide +kernel
theorem dX6_trader_22 : decode cX6_trader 22 = .ok (.iconst 1, 1) := by decide +kernel
theorem dX6_trader_23 : decode cX6_trader 23 = .ok (.sipush 5000, 3) := by decide +kernel
theorem dX6_trader_26 : decode cX6_trader 26 = .ok (.invokestatic 51, 3) := by decide +kernel
theorem dX6_trader_29 : decode cX6_trader 29 = .ok (.iload 4, 2) := by decide +kernel
theorem dX6_trader_31 : decode cX6_trader 31 = .ok (.iconst 0, 1) := by decide +kernel
theorem dX6_trader_32 : decode cX6_trader 32 = .ok (.sipush 9999, 3) := by decide +kernel
theorem dX6_trader_35 : decode cX6_trader 35 = .ok (.invokestatic 51, 3) := by decide +kernel
theorem dX6_trader_38 : decode cX6_trader 38 = .ok (.iload 5, 2) := by decide +kernel
theorem dX6_trader_40 : decode cX6_trader 40 = .ok (.iconst 0, 1) := by decide +kernel
theorem dX6_trader_41 : decode cX6_trader 41 = .ok (.sipush 9999, 3) := by decide +kernel
theorem dX6_trader_44 : decode cX6_trader 44 = .ok (.invokestatic 51, 3) := by decide +kernel
theorem dX6_trader_47 : decode cX6_trader 47 = .ok (.iload 6, 2) := by decide +kernel
theorem dX6_trader_49 : decode cX6_trader 49 = .ok (.iconst 0, 1) := by decide +kernel
theorem dX6_trader_50 : decode cX6_trader 50 = .ok (.ldc 135, 2) := by decide +kernel
theorem dX6_trader_52 : decode cX6_trader 52 = .ok (.invokestatic 51, 3) := by decide +kernel
theorem dX6_trader_55 : decode cX6_trader 55 = .ok (.aload_n 0, 1) := by decide +kernel
theorem dX6_trader_56 : decode cX6_trader 56 = .ok (.getfield 41, 3) := by decide +kernel
theorem dX6_trader_59 : decode cX6_trader 59 = .ok (.bipush 12, 2) := by decide +kernel
theorem dX6_trader_61 : decode cX6_trader 61 = .ok (.invokestatic 55, 3) := by decide +kernel
theorem dX6_trader_64 : decode cX6_trader 64 = .ok (.aload_n 0, 1) := by decide +kernel
theorem dX6_trader_65 : decode cX6_trader 65 = .ok (.getfield 37, 3) := by decide +kernel
theorem dX6_trader_68 : decode cX6_trader 68 = .ok (.aload_n 0, 1) := by decide +kernel
theorem dX6_trader_69 : decode cX6_trader 69 = .ok (.getfield 41, 3) := by decide +kernel
theorem dX6_trader_72 : decode cX6_trader 72 = .ok (.new 35, 3) := by decide +kernel
theorem dX6_trader_75 : decode cX6_trader 75 = .ok (.dup, 1) := by decide +kernel
theorem dX6_trader_76 : decode cX6_trader 76 = .ok (.iload_n 1, 1) := by decide +kernel
theorem dX6_trader_77 : decode cX6_trader 77 = .ok (.iload_n 2, 1) := by decide +kernel
theorem dX6_trader_78 : decode cX6_trader 78 = .ok (.iload_n 3, 1) := by decide +kernel
theorem dX6_trader_79 : decode cX6_trader 79 = .ok (.iload 4, 2) := by decide +kernel
theorem dX6_trader_81 : decode cX6_trader 81 = .ok (.iload 5, 2) := by decide +kernel
theorem dX6_trader_83 : decode cX6_trader 83 = .ok (.iload 6, 2) := by decide +kernel
theorem dX6_trader_85 : decode cX6_trader 85 = .ok (.invokespecial 136, 3) := by decide +kernel
theorem dX6_trader_88 : decode cX6_trader 88 = .ok (.aastore, 1) := by decide +kernel
theorem dX6_trader_89 : decode cX6_trader 89 = .ok (.aload_n 0, 1) := by decide +kernel
theorem dX6_trader_90 : decode cX6_trader 90 = .ok (.dup, 1) := by decide +kernel
theorem dX6_trader_91 : decode cX6_trader 91 = .ok (.getfield 41, 3) := by decide +kernel
theorem dX6_trader_94 : decode cX6_trader 94 = .ok (.iconst 1, 1) := by decide +kernel
theorem dX6_trader_95 : decode cX6_trader 95 = .ok (.iadd, 1) := by decide +kernel
theorem dX6_trader_96 : decode cX6_trader 96 = .ok (.putfield 41, 3) := by decide +kernel
theorem dX6_trader_99 : decode cX6_trader 99 = .ok (.aload_n 0, 1) := by decide +kernel
theorem dX6_trader_100 : decode cX6_trader 100 = .ok (.iconst 1, 1) := by decide +kernel
theorem dX6_trader_101 : decode cX6_trader 101 = .ok (.putfield 44, 3) := by decide +kernel
theorem dX6_trader_104 : decode cX6_trader 104 = .ok (.aload_n 0, 1) := by decide +kernel
theorem dX6_trader_105 : decode cX6_trader 105 = .ok (.getfield 41, 3) := by decide +kernel
theorem dX6_trader_108 : decode cX6_trader 108 = .ok (.iconst 1, 1) := by decide +kernel
theorem dX6_trader_109 : decode cX6_trader 109 = .ok (.isub, 1) := by decide +kernel
theorem dX6_trader_110 : decode cX6_trader 110 = .ok (.ireturn, 1) := by decide +kernel
theorem dX6_pass_0 : decode cX6_pass 0 = .ok (.iload_n 1, 1) := by decide +kernel
theorem dX6_pass_1 : decode cX6_pass 1 = .ok (.iconst 1, 1) := by decide +kernel
theorem dX6_pass_2 : decode cX6_pass 2 = .ok (.sipush 500, 3) := by decide +kernel
theorem dX6_pass_5 : decode cX6_pass 5 = .ok (.invokestatic 51, 3) := by decide +kernel
theorem dX6_pass_8 : decode cX6_pass 8 = .ok (.iconst 0, 1) := by decide +kernel
theorem dX6_pass_9 : decode cX6_pass 9 = .ok (.istore_n 2, 1) := by decide +kernel
theorem dX6_pass_10 : decode cX6_pass 10 = .ok (.iload_n 2, 1) := by decide +kernel
theorem dX6_pass_11 : decode cX6_pass 11 = .ok (.iload_n 1, 1) := by decide +kernel
theorem dX6_pass_12 : decode cX6_pass 12 = .ok (.if_icmp .ge 13, 3) := by decide +kernel
theorem dX6_pass_15 : decode cX6_pass 15 = .ok (.aload_n 0, 1) := by decide +kernel
theorem dX6_pass_16 : decode cX6_pass 16 = .ok (.invokevirtual 139, 3) := by decide +kernel
theorem dX6_pass_19 : decode cX6_pass 19 = .ok (.iinc 2 1, 3) := by decide +kernel
end
section
theorem dX6_pass_22 : decode cX6_pass 22 = .ok (.goto (-12), 3) := by decide +kernel
theorem dX6_pass_25 : decode cX6_pass 25 = .ok (.aload_n 0, 1) := by decide +kernel
theorem dX6_pass_26 : decode cX6_pass 26 = .ok (.getfield 48, 3) := by decide +kernel
theorem dX6_pass_29 : decode cX6_pass 29 = .ok (.ireturn, 1) := by decide +kernel
theorem dX6_works_0 : decode cX6_works 0 = .ok (.iload_n 1, 1) := by decide +kernel
theorem dX6_works_1 : decode cX6_works 1 = .ok (.aload_n 0, 1) := by decide +kernel
theorem dX6_works_2 : decode cX6_works 2 = .ok (.getfield 22, 3) := by decide +kernel
theorem dX6_works_5 : decode cX6_works 5 = .ok (.getfield 67, 3) := by decide +kernel
theorem dX6_works_8 : decode cX6_works 8 = .ok (.invokestatic 61, 3) := by decide +kernel
theorem dX6_works_11 : decode cX6_works 11 = .ok (.aload_n 0, 1) := by decide +kernel
theorem dX6_works_12 : decode cX6_works 12 = .ok (.getfield 22, 3) := by decide +kernel
theorem dX6_works_15 : decode cX6_works 15 = .ok (.getfield 79, 3) := by decide +kernel
theorem dX6_works_18 : decode cX6_works 18 = .ok (.iload_n 1, 1) := by decide +kernel
theorem dX6_works_19 : decode cX6_works 19 = .ok (.aaload, 1) := by decide +kernel
theorem dX6_works_20 : decode cX6_works 20 = .ok (.invokevirtual 142, 3) := by decide +kernel
theorem dX6_works_23 : decode cX6_works 23 = .ok (.ireturn, 1) := by decide +kernel
theorem dX6_faultAt_0 : decode cX6_faultAt 0 = .ok (.iload_n 1, 1) := by decide +kernel
theorem dX6_faultAt_1 : decode cX6_faultAt 1 = .ok (.ifCond .ge 13, 3) := by decide +kernel
theorem dX6_faultAt_4 : decode cX6_faultAt 4 = .ok (.new 146, 3) := by decide +kernel
theorem dX6_faultAt_7 : decode cX6_faultAt 7 = .ok (.dup, 1) := by decide +kernel
theorem dX6_faultAt_8 : decode cX6_faultAt 8 = .ok (.ldc 148, 2) := by decide +kernel
theorem dX6_faultAt_10 : decode cX6_faultAt 10 = .ok (.invokespecial 150, 3) := by decide +kernel
theorem dX6_faultAt_13 : decode cX6_faultAt 13 = .ok (.athrow, 1) := by decide +kernel
theorem dX6_faultAt_14 : decode cX6_faultAt 14 = .ok (.aload_n 0, 1) := by decide +kernel
theorem dX6_faultAt_15 : decode cX6_faultAt 15 = .ok (.getfield 22, 3) := by decide +kernel
theorem dX6_faultAt_18 : decode cX6_faultAt 18 = .ok (.iload_n 1, 1) := by decide +kernel
theorem dX6_faultAt_19 : decode cX6_faultAt 19 = .ok (.invokevirtual 151, 3) := by decide +kernel
theorem dX6_faultAt_22 : decode cX6_faultAt 22 = .ok (.ireturn, 1) := by decide +kernel
theorem dX6_shipOf_0 : decode cX6_shipOf 0 = .ok (.iload_n 1, 1) := by decide +kernel
theorem dX6_shipOf_1 : decode cX6_shipOf 1 = .ok (.aload_n 0, 1) := by decide +kernel
theorem dX6_shipOf_2 : decode cX6_shipOf 2 = .ok (.getfield 32, 3) := by decide +kernel
theorem dX6_shipOf_5 : decode cX6_shipOf 5 = .ok (.invokestatic 61, 3) := by decide +kernel
theorem dX6_shipOf_8 : decode cX6_shipOf 8 = .ok (.iload_n 2, 1) := by decide +kernel
theorem dX6_shipOf_9 : decode cX6_shipOf 9 = .ok (.iconst 0, 1) := by decide +kernel
theorem dX6_shipOf_10 : decode cX6_shipOf 10 = .ok (.iconst 4, 1) := by decide +kernel
theorem dX6_shipOf_11 : decode cX6_shipOf 11 = .ok (.invokestatic 51, 3) := by decide +kernel
theorem dX6_shipOf_14 : decode cX6_shipOf 14 = .ok (.aload_n 0, 1) := by decide +kernel
theorem dX6_shipOf_15 : decode cX6_shipOf 15 = .ok (.getfield 28, 3) := by decide +kernel
theorem dX6_shipOf_18 : decode cX6_shipOf 18 = .ok (.iload_n 1, 1) := by decide +kernel
theorem dX6_shipOf_19 : decode cX6_shipOf 19 = .ok (.aaload, 1) := by decide +kernel
theorem dX6_shipOf_20 : decode cX6_shipOf 20 = .ok (.astore_n 3, 1) := by decide +kernel
theorem dX6_shipOf_21 : decode cX6_shipOf 21 = .ok (.iload_n 2, 1) := by decide +kernel
theorem dX6_shipOf_22 : decode cX6_shipOf 22 = .ok (.tableswitch 50 0 3 #[30, 35, 40, 45], 30) := by decide +kernel
theorem dX6_shipOf_52 : decode cX6_shipOf 52 = .ok (.aload_n 3, 1) := by decide +kernel
theorem dX6_shipOf_53 : decode cX6_shipOf 53 = .ok (.getfield 155, 3) := by decide +kernel
theorem dX6_shipOf_56 : decode cX6_shipOf 56 = .ok (.ireturn, 1) := by decide +kernel
theorem dX6_shipOf_57 : decode cX6_shipOf 57 = .ok (.aload_n 3, 1) := by decide +kernel
theorem dX6_shipOf_58 : decode cX6_shipOf 58 = .ok (.getfield 158, 3) := by decide +kernel
theorem dX6_shipOf_61 : decode cX6_shipOf 61 = .ok (.ireturn, 1) := by decide +kernel
theorem dX6_shipOf_62 : decode cX6_shipOf 62 = .ok (.aload_n 3, 1) := by decide +kernel
theorem dX6_shipOf_63 : decode cX6_shipOf 63 = .ok (.getfield 159, 3) := by decide +kernel
theorem dX6_shipOf_66 : decode cX6_shipOf 66 = .ok (.ireturn, 1) := by decide +kernel
theorem dX6_shipOf_67 : decode cX6_shipOf 67 = .ok (.aload_n 3, 1) := by decide +kernel
theorem dX6_shipOf_68 : decode cX6_shipOf 68 = .ok (.getfield 160, 3) := by decide +kernel
theorem dX6_shipOf_71 : decode cX6_shipOf 71 = .ok (.ireturn, 1) := by decide +kernel
theorem dX6_shipOf_72 : decode cX6_shipOf 72 = .ok (.aload_n 3, 1) := by decide +kernel
theorem dX6_shipOf_73 : decode cX6_shipOf 73 = .ok (.getfield 163, 3) := by decide +kernel
theorem dX6_shipOf_76 : decode cX6_shipOf 76 = .ok (.ireturn, 1) := by decide +kernel
theorem dX6_way_0 : decode cX6_way 0 = .ok (.iload_n 1, 1) := by decide +kernel
theorem dX6_way_1 : decode cX6_way 1 = .ok (.aload_n 0, 1) := by decide +kernel
theorem dX6_way_2 : decode cX6_way 2 = .ok (.getfield 41, 3) := by decide +kernel
theorem dX6_way_5 : decode cX6_way 5 = .ok (.invokestatic 61, 3) := by decide +kernel
theorem dX6_way_8 : decode cX6_way 8 = .ok (.iload_n 2, 1) := by decide +kernel
theorem dX6_way_9 : decode cX6_way 9 = .ok (.ifCond .ge 13, 3) := by decide +kernel
theorem dX6_way_12 : decode cX6_way 12 = .ok (.new 146, 3) := by decide +kernel
theorem dX6_way_15 : decode cX6_way 15 = .ok (.dup, 1) := by decide +kernel
theorem dX6_way_16 : decode cX6_way 16 = .ok (.ldc 166, 2) := by decide +kernel
theorem dX6_way_18 : decode cX6_way 18 = .ok (.invokespecial 150, 3) := by decide +kernel
theorem dX6_way_21 : decode cX6_way 21 = .ok (.athrow, 1) := by decide +kernel
theorem dX6_way_22 : decode cX6_way 22 = .ok (.aload_n 0, 1) := by decide +kernel
theorem dX6_way_23 : decode cX6_way 23 = .ok (.invokevirtual 168, 3) := by decide +kernel
theorem dX6_way_26 : decode cX6_way 26 = .ok (.aload_n 0, 1) := by decide +kernel
theorem dX6_way_27 : decode cX6_way 27 = .ok (.getfield 37, 3) := by decide +kernel
theorem dX6_way_30 : decode cX6_way 30 = .ok (.iload_n 1, 1) := by decide +kernel
theorem dX6_way_31 : decode cX6_way 31 = .ok (.aaload, 1) := by decide +kernel
theorem dX6_way_32 : decode cX6_way 32 = .ok (.getfield 171, 3) := by decide +kernel
theorem dX6_way_35 : decode cX6_way 35 = .ok (.iload_n 2, 1) := by decide +kernel
theorem dX6_way_36 : decode cX6_way 36 = .ok (.invokevirtual 175, 3) := by decide +kernel
theorem dX6_way_39 : decode cX6_way 39 = .ok (.ireturn, 1) := by decide +kernel
theorem dX6_sum_0 : decode cX6_sum 0 = .ok (.iload_n 1, 1) := by decide +kernel
theorem dX6_sum_1 : decode cX6_sum 1 = .ok (.aload_n 0, 1) := by decide +kernel
theorem dX6_sum_2 : decode cX6_sum 2 = .ok (.getfield 41, 3) := by decide +kernel
theorem dX6_sum_5 : decode cX6_sum 5 = .ok (.invokestatic 61, 3) := by decide +kernel
theorem dX6_sum_8 : decode cX6_sum 8 = .ok (.iload_n 2, 1) := by decide +kernel
theorem dX6_sum_9 : decode cX6_sum 9 = .ok (.iconst 0, 1) := by decide +kernel
theorem dX6_sum_10 : decode cX6_sum 10 = .ok (.iconst 2, 1) := by decide +kernel
theorem dX6_sum_11 : decode cX6_sum 11 = .ok (.invokestatic 51, 3) := by decide +kernel
theorem dX6_sum_14 : decode cX6_sum 14 = .ok (.aload_n 0, 1) := by decide +kernel
theorem dX6_sum_15 : decode cX6_sum 15 = .ok (.invokevirtual 168, 3) := by decide +kernel
theorem dX6_sum_18 : decode cX6_sum 18 = .ok (.aload_n 0, 1) := by decide +kernel
theorem dX6_sum_19 : decode cX6_sum 19 = .ok (.getfield 37, 3) := by decide +kernel
theorem dX6_sum_22 : decode cX6_sum 22 = .ok (.iload_n 1, 1) := by decide +kernel
theorem dX6_sum_23 : decode cX6_sum 23 = .ok (.aaload, 1) := by decide +kernel
theorem dX6_sum_24 : decode cX6_sum 24 = .ok (.getfield 171, 3) := by decide +kernel
theorem dX6_sum_27 : decode cX6_sum 27 = .ok (.astore_n 3, 1) := by decide +kernel
theorem dX6_sum_28 : decode cX6_sum 28 = .ok (.iload_n 2, 1) := by decide +kernel
theorem dX6_sum_29 : decode cX6_sum 29 = .ok (.lookupswitch 37 #[(0, 27), (1, 32)], 27) := by decide +kernel
theorem dX6_sum_56 : decode cX6_sum 56 = .ok (.aload_n 3, 1) := by decide +kernel
theorem dX6_sum_57 : decode cX6_sum 57 = .ok (.getfield 180, 3) := by decide +kernel
theorem dX6_sum_60 : decode cX6_sum 60 = .ok (.ireturn, 1) := by decide +kernel
theorem dX6_sum_61 : decode cX6_sum 61 = .ok (.aload_n 3, 1) := by decide +kernel
theorem dX6_sum_62 : decode cX6_sum 62 = .ok (.getfield 183, 3) := by decide +kernel
theorem dX6_sum_65 : decode cX6_sum 65 = .ok (.ireturn, 1) := by decide +kernel
theorem dX6_sum_66 : decode cX6_sum 66 = .ok (.aload_n 3, 1) := by decide +kernel
theorem dX6_sum_67 : decode cX6_sum 67 = .ok (.getfield 186, 3) := by decide +kernel
theorem dX6_sum_70 : decode cX6_sum 70 = .ok (.ireturn, 1) := by decide +kernel
theorem dX6_sumAnew_0 : decode cX6_sumAnew 0 = .ok (.iload_n 1, 1) := by decide +kernel
theorem dX6_sumAnew_1 : decode cX6_sumAnew 1 = .ok (.aload_n 0, 1) := by decide +kernel
theorem dX6_sumAnew_2 : decode cX6_sumAnew 2 = .ok (.getfield 41, 3) := by decide +kernel
theorem dX6_sumAnew_5 : decode cX6_sumAnew 5 = .ok (.invokestatic 61, 3) := by decide +kernel
theorem dX6_sumAnew_8 : decode cX6_sumAnew 8 = .ok (.aload_n 0, 1) := by decide +kernel
theorem dX6_sumAnew_9 : decode cX6_sumAnew 9 = .ok (.getfield 22, 3) := by decide +kernel
theorem dX6_sumAnew_12 : decode cX6_sumAnew 12 = .ok (.aload_n 0, 1) := by decide +kernel
theorem dX6_sumAnew_13 : decode cX6_sumAnew 13 = .ok (.getfield 37, 3) := by decide +kernel
theorem dX6_sumAnew_16 : decode cX6_sumAnew 16 = .ok (.iload_n 1, 1) := by decide +kernel
theorem dX6_sumAnew_17 : decode cX6_sumAnew 17 = .ok (.aaload, 1) := by decide +kernel
theorem dX6_sumAnew_18 : decode cX6_sumAnew 18 = .ok (.getfield 189, 3) := by decide +kernel
theorem dX6_sumAnew_21 : decode cX6_sumAnew 21 = .ok (.aload_n 0, 1) := by decide +kernel
theorem dX6_sumAnew_22 : decode cX6_sumAnew 22 = .ok (.getfield 37, 3) := by decide +kernel
theorem dX6_sumAnew_25 : decode cX6_sumAnew 25 = .ok (.iload_n 1, 1) := by decide +kernel
theorem dX6_sumAnew_26 : decode cX6_sumAnew 26 = .ok (.aaload, 1) := by decide +kernel
theorem dX6_sumAnew_27 : decode cX6_sumAnew 27 = .ok (.getfield 192, 3) := by decide +kernel
theorem dX6_sumAnew_30 : decode cX6_sumAnew 30 = .ok (.invokevirtual 195, 3) := by decide +kernel
theorem dX6_sumAnew_33 : decode cX6_sumAnew 33 = .ok (.ireturn, 1) := by decide +kernel
theorem dX6_account_0 : decode cX6_account 0 = .ok (.iload_n 1, 1) := by decide +kernel
theorem dX6_account_1 : decode cX6_account 1 = .ok (.aload_n 0, 1) := by decide +kernel
theorem dX6_account_2 : decode cX6_account 2 = .ok (.getfield 41, 3) := by decide +kernel
theorem dX6_account_5 : decode cX6_account 5 = .ok (.invokestatic 61, 3) := by decide +kernel
theorem dX6_account_8 : decode cX6_account 8 = .ok (.iload_n 2, 1) := by decide +kernel
theorem dX6_account_9 : decode cX6_account 9 = .ok (.iconst 0, 1) := by decide +kernel
theorem dX6_account_10 : decode cX6_account 10 = .ok (.iconst 3, 1) := by decide +kernel
theorem dX6_account_11 : decode cX6_account 11 = .ok (.invokestatic 51, 3) := by decide +kernel
theorem dX6_account_14 : decode cX6_account 14 = .ok (.aload_n 0, 1) := by decide +kernel
theorem dX6_account_15 : decode cX6_account 15 = .ok (.getfield 37, 3) := by decide +kernel
theorem dX6_account_18 : decode cX6_account 18 = .ok (.iload_n 1, 1) := by decide +kernel
theorem dX6_account_19 : decode cX6_account 19 = .ok (.aaload, 1) := by decide +kernel
theorem dX6_account_20 : decode cX6_account 20 = .ok (.astore_n 3, 1) := by decide +kernel
theorem dX6_account_21 : decode cX6_account 21 = .ok (.iload_n 2, 1) := by decide +kernel
theorem dX6_account_22 : decode cX6_account 22 = .ok (.tableswitch 43 0 2 #[26, 31, 37], 26) := by decide +kernel
theorem dX6_account_48 : decode cX6_account 48 = .ok (.aload_n 3, 1) := by decide +kernel
theorem dX6_account_49 : decode cX6_account 49 = .ok (.getfield 198, 3) := by decide +kernel
theorem dX6_account_52 : decode cX6_account 52 = .ok (.lreturn, 1) := by decide +kernel
theorem dX6_account_53 : decode cX6_account 53 = .ok (.aload_n 3, 1) := by decide +kernel
theorem dX6_account_54 : decode cX6_account 54 = .ok (.getfield 202, 3) := by decide +kernel
theorem dX6_account_57 : decode cX6_account 57 = .ok (.i2l, 1) := by decide +kernel
theorem dX6_account_58 : decode cX6_account 58 = .ok (.lreturn, 1) := by decide +kernel
theorem dX6_account_59 : decode cX6_account 59 = .ok (.aload_n 3, 1) := by decide +kernel
theorem dX6_account_60 : decode cX6_account 60 = .ok (.getfield 205, 3) := by decide +kernel
theorem dX6_account_63 : decode cX6_account 63 = .ok (.i2l, 1) := by decide +kernel
theorem dX6_account_64 : decode cX6_account 64 = .ok (.lreturn, 1) := by decide +kernel
theorem dX6_account_65 : decode cX6_account 65 = .ok (.aload_n 3, 1) := by decide +kernel
theorem dX6_account_66 : decode cX6_account 66 = .ok (.getfield 208, 3) := by decide +kernel
theorem dX6_account_69 : decode cX6_account 69 = .ok (.i2l, 1) := by decide +kernel
theorem dX6_account_70 : decode cX6_account 70 = .ok (.lreturn, 1) := by decide +kernel
theorem dX6_reach_0 : decode cX6_reach 0 = .ok (.iload_n 1, 1) := by decide +kernel
theorem dX6_reach_1 : decode cX6_reach 1 = .ok (.aload_n 0, 1) := by decide +kernel
theorem dX6_reach_2 : decode cX6_reach 2 = .ok (.getfield 15, 3) := by decide +kernel
theorem dX6_reach_5 : decode cX6_reach 5 = .ok (.invokestatic 61, 3) := by decide +kernel
theorem dX6_reach_8 : decode cX6_reach 8 = .ok (.aload_n 0, 1) := by decide +kernel
theorem dX6_reach_9 : decode cX6_reach 9 = .ok (.getfield 22, 3) := by decide +kernel
theorem dX6_reach_12 : decode cX6_reach 12 = .ok (.iload_n 1, 1) := by decide +kernel
theorem dX6_reach_13 : decode cX6_reach 13 = .ok (.invokevirtual 211, 3) := by decide +kernel
theorem dX6_reach_16 : decode cX6_reach 16 = .ok (.ireturn, 1) := by decide +kernel
theorem dX6_checkIndex_0 : decode cX6_checkIndex 0 = .ok (.iload_n 0, 1) := by decide +kernel
theorem dX6_checkIndex_1 : decode cX6_checkIndex 1 = .ok (.ifCond .lt 8, 3) := by decide +kernel
theorem dX6_checkIndex_4 : decode cX6_checkIndex 4 = .ok (.iload_n 0, 1) := by decide +kernel
theorem dX6_checkIndex_5 : decode cX6_checkIndex 5 = .ok (.iload_n 1, 1) := by decide +kernel
theorem dX6_checkIndex_6 : decode cX6_checkIndex 6 = .ok (.if_icmp .lt 13, 3) := by decide +kernel
theorem dX6_checkIndex_9 : decode cX6_checkIndex 9 = .ok (.new 146, 3) := by decide +kernel
theorem dX6_checkIndex_12 : decode cX6_checkIndex 12 = .ok (.dup, 1) := by decide +kernel
theorem dX6_checkIndex_13 : decode cX6_checkIndex 13 = .ok (.ldc 214, 2) := by decide +kernel
theorem dX6_checkIndex_15 : decode cX6_checkIndex 15 = .ok (.invokespecial 150, 3) := by decide +kernel
theorem dX6_checkIndex_18 : decode cX6_checkIndex 18 = .ok (.athrow, 1) := by decide +kernel
theorem dX6_checkIndex_19 : decode cX6_checkIndex 19 = .ok (.return_, 1) := by decide +kernel
theorem dX6_checkSpan_0 : decode cX6_checkSpan 0 = .ok (.iload_n 1, 1) := by decide +kernel
theorem dX6_checkSpan_1 : decode cX6_checkSpan 1 = .ok (.aload_n 0, 1) := by decide +kernel
theorem dX6_checkSpan_2 : decode cX6_checkSpan 2 = .ok (.getfield 22, 3) := by decide +kernel
theorem dX6_checkSpan_5 : decode cX6_checkSpan 5 = .ok (.getfield 67, 3) := by decide +kernel
theorem dX6_checkSpan_8 : decode cX6_checkSpan 8 = .ok (.invokestatic 61, 3) := by decide +kernel
theorem dX6_checkSpan_11 : decode cX6_checkSpan 11 = .ok (.iload_n 2, 1) := by decide +kernel
theorem dX6_checkSpan_12 : decode cX6_checkSpan 12 = .ok (.aload_n 0, 1) := by decide +kernel
theorem dX6_checkSpan_13 : decode cX6_checkSpan 13 = .ok (.getfield 22, 3) := by decide +kernel
theorem dX6_checkSpan_16 : decode cX6_checkSpan 16 = .ok (.getfield 79, 3) := by decide +kernel
theorem dX6_checkSpan_19 : decode cX6_checkSpan 19 = .ok (.iload_n 1, 1) := by decide +kernel
theorem dX6_checkSpan_20 : decode cX6_checkSpan 20 = .ok (.aaload, 1) := by decide +kernel
theorem dX6_checkSpan_21 : decode cX6_checkSpan 21 = .ok (.getfield 216, 3) := by decide +kernel
theorem dX6_checkSpan_24 : decode cX6_checkSpan 24 = .ok (.invokestatic 61, 3) := by decide +kernel
theorem dX6_checkSpan_27 : decode cX6_checkSpan 27 = .ok (.return_, 1) := by decide +kernel
theorem dX6_checkRange_0 : decode cX6_checkRange 0 = .ok (.iload_n 0, 1) := by decide +kernel
theorem dX6_checkRange_1 : decode cX6_checkRange 1 = .ok (.iload_n 1, 1) := by decide +kernel
theorem dX6_checkRange_2 : decode cX6_checkRange 2 = .ok (.if_icmp .lt 8, 3) := by decide +kernel
theorem dX6_checkRange_5 : decode cX6_checkRange 5 = .ok (.iload_n 0, 1) := by decide +kernel
theorem dX6_checkRange_6 : decode cX6_checkRange 6 = .ok (.iload_n 2, 1) := by decide +kernel
theorem dX6_checkRange_7 : decode cX6_checkRange 7 = .ok (.if_icmp .le 13, 3) := by decide +kernel
theorem dX6_checkRange_10 : decode cX6_checkRange 10 = .ok (.new 219, 3) := by decide +kernel
theorem dX6_checkRange_13 : decode cX6_checkRange 13 = .ok (.dup, 1) := by decide +kernel
theorem dX6_checkRange_14 : decode cX6_checkRange 14 = .ok (.ldc 221, 2) := by decide +kernel
theorem dX6_checkRange_16 : decode cX6_checkRange 16 = .ok (.invokespecial 223, 3) := by decide +kernel
theorem dX6_checkRange_19 : decode cX6_checkRange 19 = .ok (.athrow, 1) := by decide +kernel
theorem dX6_checkRange_20 : decode cX6_checkRange 20 = .ok (.return_, 1) := by decide +kernel
theorem dX6_checkUnlike_0 : decode cX6_checkUnlike 0 = .ok (.iload_n 0, 1) := by decide +kernel
theorem dX6_checkUnlike_1 : decode cX6_checkUnlike 1 = .ok (.iload_n 1, 1) := by decide +kernel
theorem dX6_checkUnlike_2 : decode cX6_checkUnlike 2 = .ok (.if_icmp .ne 13, 3) := by decide +kernel
theorem dX6_checkUnlike_5 : decode cX6_checkUnlike 5 = .ok (.new 219, 3) := by decide +kernel
theorem dX6_checkUnlike_8 : decode cX6_checkUnlike 8 = .ok (.dup, 1) := by decide +kernel
theorem dX6_checkUnlike_9 : decode cX6_checkUnlike 9 = .ok (.ldc 224, 2) := by decide +kernel
theorem dX6_checkUnlike_11 : decode cX6_checkUnlike 11 = .ok (.invokespecial 223, 3) := by decide +kernel
theorem dX6_checkUnlike_14 : decode cX6_checkUnlike 14 = .ok (.athrow, 1) := by decide +kernel
theorem dX6_checkUnlike_15 : decode cX6_checkUnlike 15 = .ok (.return_, 1) := by decide +kernel
theorem dX6_checkRoom_0 : decode cX6_checkRoom 0 = .ok (.iload_n 0, 1) := by decide +kernel
theorem dX6_checkRoom_1 : decode cX6_checkRoom 1 = .ok (.iload_n 1, 1) := by decide +kernel
theorem dX6_checkRoom_2 : decode cX6_checkRoom 2 = .ok (.if_icmp .lt 13, 3) := by decide +kernel
theorem dX6_checkRoom_5 : decode cX6_checkRoom 5 = .ok (.new 93, 3) := by decide +kernel
theorem dX6_checkRoom_8 : decode cX6_checkRoom 8 = .ok (.dup, 1) := by decide +kernel
theorem dX6_checkRoom_9 : decode cX6_checkRoom 9 = .ok (.ldc 226, 2) := by decide +kernel
theorem dX6_checkRoom_11 : decode cX6_checkRoom 11 = .ok (.invokespecial 97, 3) := by decide +kernel
theorem dX6_checkRoom_14 : decode cX6_checkRoom 14 = .ok (.athrow, 1) := by decide +kernel
theorem dX6_checkRoom_15 : decode cX6_checkRoom 15 = .ok (.return_, 1) := by decide +kernel
theorem dX6_checkIdle_0 : decode cX6_checkIdle 0 = .ok (.aload_n 0, 1) := by decide +kernel
theorem dX6_checkIdle_1 : decode cX6_checkIdle 1 = .ok (.getfield 155, 3) := by decide +kernel
theorem dX6_checkIdle_4 : decode cX6_checkIdle 4 = .ok (.ifCond .eq 13, 3) := by decide +kernel
theorem dX6_checkIdle_7 : decode cX6_checkIdle 7 = .ok (.new 93, 3) := by decide +kernel
theorem dX6_checkIdle_10 : decode cX6_checkIdle 10 = .ok (.dup, 1) := by decide +kernel
theorem dX6_checkIdle_11 : decode cX6_checkIdle 11 = .ok (.ldc 228, 2) := by decide +kernel
theorem dX6_checkIdle_13 : decode cX6_checkIdle 13 = .ok (.invokespecial 97, 3) := by decide +kernel
theorem dX6_checkIdle_16 : decode cX6_checkIdle 16 = .ok (.athrow, 1) := by decide +kernel
theorem dX6_checkIdle_17 : decode cX6_checkIdle 17 = .ok (.return_, 1) := by decide +kernel
theorem dX6_findStaleWays_0 : decode cX6_findStaleWays 0 = .ok (.aload_n 0, 1) := by decide +kernel
theorem dX6_findStaleWays_1 : decode cX6_findStaleWays 1 = .ok (.getfield 44, 3) := by decide +kernel
theorem dX6_findStaleWays_4 : decode cX6_findStaleWays 4 = .ok (.ifCond .ne 4, 3) := by decide +kernel
theorem dX6_findStaleWays_7 : decode cX6_findStaleWays 7 = .ok (.return_, 1) := by decide +kernel
theorem dX6_findStaleWays_8 : decode cX6_findStaleWays 8 = .ok (.iconst 0, 1) := by decide +kernel
theorem dX6_findStaleWays_9 : decode cX6_findStaleWays 9 = .ok (.istore_n 1, 1) := by decide +kernel
theorem dX6_findStaleWays_10 : decode cX6_findStaleWays 10 = .ok (.iload_n 1, 1) := by decide +kernel
theorem dX6_findStaleWays_11 : decode cX6_findStaleWays 11 = .ok (.aload_n 0, 1) := by decide +kernel
theorem dX6_findStaleWays_12 : decode cX6_findStaleWays 12 = .ok (.getfield 41, 3) := by decide +kernel
theorem dX6_findStaleWays_15 : decode cX6_findStaleWays 15 = .ok (.if_icmp .ge 43, 3) := by decide +kernel
theorem dX6_findStaleWays_18 : decode cX6_findStaleWays 18 = .ok (.aload_n 0, 1) := by decide +kernel
theorem dX6_findStaleWays_19 : decode cX6_findStaleWays 19 = .ok (.getfield 22, 3) := by decide +kernel
theorem dX6_findStaleWays_22 : decode cX6_findStaleWays 22 = .ok (.aload_n 0, 1) := by decide +kernel
theorem dX6_findStaleWays_23 : decode cX6_findStaleWays 23 = .ok (.getfield 37, 3) := by decide +kernel
theorem dX6_findStaleWays_26 : decode cX6_findStaleWays 26 = .ok (.iload_n 1, 1) := by decide +kernel
theorem dX6_findStaleWays_27 : decode cX6_findStaleWays 27 = .ok (.aaload, 1) := by decide +kernel
theorem dX6_findStaleWays_28 : decode cX6_findStaleWays 28 = .ok (.getfield 189, 3) := by decide +kernel
theorem dX6_findStaleWays_31 : decode cX6_findStaleWays 31 = .ok (.aload_n 0, 1) := by decide +kernel
theorem dX6_findStaleWays_32 : decode cX6_findStaleWays 32 = .ok (.getfield 37, 3) := by decide +kernel
theorem dX6_findStaleWays_35 : decode cX6_findStaleWays 35 = .ok (.iload_n 1, 1) := by decide +kernel
theorem dX6_findStaleWays_36 : decode cX6_findStaleWays 36 = .ok (.aaload, 1) := by decide +kernel
theorem dX6_findStaleWays_37 : decode cX6_findStaleWays 37 = .ok (.getfield 192, 3) := by decide +kernel
theorem dX6_findStaleWays_40 : decode cX6_findStaleWays 40 = .ok (.aload_n 0, 1) := by decide +kernel
theorem dX6_findStaleWays_41 : decode cX6_findStaleWays 41 = .ok (.getfield 37, 3) := by decide +kernel
theorem dX6_findStaleWays_44 : decode cX6_findStaleWays 44 = .ok (.iload_n 1, 1) := by decide +kernel
theorem dX6_findStaleWays_45 : decode cX6_findStaleWays 45 = .ok (.aaload, 1) := by decide +kernel
theorem dX6_findStaleWays_46 : decode cX6_findStaleWays 46 = .ok (.getfield 171, 3) := by decide +kernel
theorem dX6_findStaleWays_49 : decode cX6_findStaleWays 49 = .ok (.invokevirtual 230, 3) := by decide +kernel
theorem dX6_findStaleWays_52 : decode cX6_findStaleWays 52 = .ok (.iinc 1 1, 3) := by decide +kernel
theorem dX6_findStaleWays_55 : decode cX6_findStaleWays 55 = .ok (.goto (-45), 3) := by decide +kernel
theorem dX6_findStaleWays_58 : decode cX6_findStaleWays 58 = .ok (.aload_n 0, 1) := by decide +kernel
theorem dX6_findStaleWays_59 : decode cX6_findStaleWays 59 = .ok (.iconst 0, 1) := by decide +kernel
theorem dX6_findStaleWays_60 : decode cX6_findStaleWays 60 = .ok (.putfield 44, 3) := by decide +kernel
theorem dX6_findStaleWays_63 : decode cX6_findStaleWays 63 = .ok (.return_, 1) := by decide +kernel
theorem dX6_passHour_0 : decode cX6_passHour 0 = .ok (.aload_n 0, 1) := by decide +kernel
theorem dX6_passHour_1 : decode cX6_passHour 1 = .ok (.dup, 1) := by decide +kernel
theorem dX6_passHour_2 : decode cX6_passHour 2 = .ok (.getfield 48, 3) := by decide +kernel
theorem dX6_passHour_5 : decode cX6_passHour 5 = .ok (.iconst 1, 1) := by decide +kernel
theorem dX6_passHour_6 : decode cX6_passHour 6 = .ok (.iadd, 1) := by decide +kernel
theorem dX6_passHour_7 : decode cX6_passHour 7 = .ok (.putfield 48, 3) := by decide +kernel
theorem dX6_passHour_10 : decode cX6_passHour 10 = .ok (.iconst 0, 1) := by decide +kernel
theorem dX6_passHour_11 : decode cX6_passHour 11 = .ok (.istore_n 1, 1) := by decide +kernel
theorem dX6_passHour_12 : decode cX6_passHour 12 = .ok (.iload_n 1, 1) := by decide +kernel
theorem dX6_passHour_13 : decode cX6_passHour 13 = .ok (.aload_n 0, 1) := by decide +kernel
theorem dX6_passHour_14 : decode cX6_passHour 14 = .ok (.getfield 32, 3) := by decide +kernel
theorem dX6_passHour_17 : decode cX6_passHour 17 = .ok (.if_icmp .ge 19, 3) := by decide +kernel
theorem dX6_passHour_20 : decode cX6_passHour 20 = .ok (.aload_n 0, 1) := by decide +kernel
theorem dX6_passHour_21 : decode cX6_passHour 21 = .ok (.aload_n 0, 1) := by decide +kernel
theorem dX6_passHour_22 : decode cX6_passHour 22 = .ok (.getfield 28, 3) := by decide +kernel
theorem dX6_passHour_25 : decode cX6_passHour 25 = .ok (.iload_n 1, 1) := by decide +kernel
theorem dX6_passHour_26 : decode cX6_passHour 26 = .ok (.aaload, 1) := by decide +kernel
theorem dX6_passHour_27 : decode cX6_passHour 27 = .ok (.invokevirtual 234, 3) := by decide +kernel
theorem dX6_passHour_30 : decode cX6_passHour 30 = .ok (.iinc 1 1, 3) := by decide +kernel
theorem dX6_passHour_33 : decode cX6_passHour 33 = .ok (.goto (-21), 3) := by decide +kernel
theorem dX6_passHour_36 : decode cX6_passHour 36 = .ok (.aload_n 0, 1) := by decide +kernel
theorem dX6_passHour_37 : decode cX6_passHour 37 = .ok (.invokevirtual 168, 3) := by decide +kernel
theorem dX6_passHour_40 : decode cX6_passHour 40 = .ok (.iconst 0, 1) := by decide +kernel
theorem dX6_passHour_41 : decode cX6_passHour 41 = .ok (.istore_n 1, 1) := by decide +kernel
theorem dX6_passHour_42 : decode cX6_passHour 42 = .ok (.iload_n 1, 1) := by decide +kernel
theorem dX6_passHour_43 : decode cX6_passHour 43 = .ok (.aload_n 0, 1) := by decide +kernel
theorem dX6_passHour_44 : decode cX6_passHour 44 = .ok (.getfield 41, 3) := by decide +kernel
theorem dX6_passHour_47 : decode cX6_passHour 47 = .ok (.if_icmp .ge 18, 3) := by decide +kernel
theorem dX6_passHour_50 : decode cX6_passHour 50 = .ok (.aload_n 0, 1) := by decide +kernel
theorem dX6_passHour_51 : decode cX6_passHour 51 = .ok (.getfield 37, 3) := by decide +kernel
theorem dX6_passHour_54 : decode cX6_passHour 54 = .ok (.iload_n 1, 1) := by decide +kernel
theorem dX6_passHour_55 : decode cX6_passHour 55 = .ok (.aaload, 1) := by decide +kernel
theorem dX6_passHour_56 : decode cX6_passHour 56 = .ok (.invokevirtual 237, 3) := by decide +kernel
theorem dX6_passHour_59 : decode cX6_passHour 59 = .ok (.iinc 1 1, 3) := by decide +kernel
theorem dX6_passHour_62 : decode cX6_passHour 62 = .ok (.goto (-20), 3) := by decide +kernel
theorem dX6_passHour_65 : decode cX6_passHour 65 = .ok (.return_, 1) := by decide +kernel
theorem dX6_workHour_0 : decode cX6_workHour 0 = .ok (.aload_n 1, 1) := by decide +kernel
theorem dX6_workHour_1 : decode cX6_workHour 1 = .ok (.getfield 155, 3) := by decide +kernel
theorem dX6_workHour_4 : decode cX6_workHour 4 = .ok (.ifCond .ne 4, 3) := by decide +kernel
theorem dX6_workHour_7 : decode cX6_workHour 7 = .ok (.return_, 1) := by decide +kernel
theorem dX6_workHour_8 : decode cX6_workHour 8 = .ok (.aload_n 1, 1) := by decide +kernel
theorem dX6_workHour_9 : decode cX6_workHour 9 = .ok (.dup, 1) := by decide +kernel
theorem dX6_workHour_10 : decode cX6_workHour 10 = .ok (.getfield 160, 3) := by decide +kernel
theorem dX6_workHour_13 : decode cX6_workHour 13 = .ok (.iconst 1, 1) := by decide +kernel
theorem dX6_workHour_14 : decode cX6_workHour 14 = .ok (.isub, 1) := by decide +kernel
theorem dX6_workHour_15 : decode cX6_workHour 15 = .ok (.putfield 160, 3) := by decide +kernel
theorem dX6_workHour_18 : decode cX6_workHour 18 = .ok (.aload_n 1, 1) := by decide +kernel
theorem dX6_workHour_19 : decode cX6_workHour 19 = .ok (.getfield 160, 3) := by decide +kernel
theorem dX6_workHour_22 : decode cX6_workHour 22 = .ok (.ifCond .ne 8, 3) := by decide +kernel
theorem dX6_workHour_25 : decode cX6_workHour 25 = .ok (.aload_n 0, 1) := by decide +kernel
theorem dX6_workHour_26 : decode cX6_workHour 26 = .ok (.aload_n 1, 1) := by decide +kernel
theorem dX6_workHour_27 : decode cX6_workHour 27 = .ok (.invokevirtual 240, 3) := by decide +kernel
theorem dX6_workHour_30 : decode cX6_workHour 30 = .ok (.return_, 1) := by decide +kernel
theorem dX6_goOn_0 : decode cX6_goOn 0 = .ok (.aload_n 1, 1) := by decide +kernel
theorem dX6_goOn_1 : decode cX6_goOn 1 = .ok (.getfield 155, 3) := by decide +kernel
theorem dX6_goOn_4 : decode cX6_goOn 4 = .ok (.lookupswitch 45 #[(1, 28), (2, 36)], 28) := by decide +kernel
theorem dX6_goOn_32 : decode cX6_goOn 32 = .ok (.aload_n 0, 1) := by decide +kernel
theorem dX6_goOn_33 : decode cX6_goOn 33 = .ok (.aload_n 1, 1) := by decide +kernel
theorem dX6_goOn_34 : decode cX6_goOn 34 = .ok (.invokevirtual 243, 3) := by decide +kernel
theorem dX6_goOn_37 : decode cX6_goOn 37 = .ok (.goto 17, 3) := by decide +kernel
theorem dX6_goOn_40 : decode cX6_goOn 40 = .ok (.aload_n 1, 1) := by decide +kernel
theorem dX6_goOn_41 : decode cX6_goOn 41 = .ok (.iconst 3, 1) := by decide +kernel
theorem dX6_goOn_42 : decode cX6_goOn 42 = .ok (.iconst 2, 1) := by decide +kernel
theorem dX6_goOn_43 : decode cX6_goOn 43 = .ok (.invokevirtual 246, 3) := by decide +kernel
theorem dX6_goOn_46 : decode cX6_goOn 46 = .ok (.goto 8, 3) := by decide +kernel
theorem dX6_goOn_49 : decode cX6_goOn 49 = .ok (.aload_n 0, 1) := by decide +kernel
theorem dX6_goOn_50 : decode cX6_goOn 50 = .ok (.aload_n 1, 1) := by decide +kernel
theorem dX6_goOn_51 : decode cX6_goOn 51 = .ok (.invokevirtual 249, 3) := by decide +kernel
theorem dX6_goOn_54 : decode cX6_goOn 54 = .ok (.return_, 1) := by decide +kernel
theorem dX6_setOff_0 : decode cX6_setOff 0 = .ok (.aload_n 1, 1) := by decide +kernel
theorem dX6_setOff_1 : decode cX6_setOff 1 = .ok (.iload_n 2, 1) := by decide +kernel
theorem dX6_setOff_2 : decode cX6_setOff 2 = .ok (.iload_n 3, 1) := by decide +kernel
theorem dX6_setOff_3 : decode cX6_setOff 3 = .ok (.invokevirtual 252, 3) := by decide +kernel
theorem dX6_setOff_6 : decode cX6_setOff 6 = .ok (.istore 4, 2) := by decide +kernel
theorem dX6_setOff_8 : decode cX6_setOff 8 = .ok (.aload_n 1, 1) := by decide +kernel
theorem dX6_setOff_9 : decode cX6_setOff 9 = .ok (.iload_n 2, 1) := by decide +kernel
theorem dX6_setOff_10 : decode cX6_setOff 10 = .ok (.putfield 158, 3) := by decide +kernel
theorem dX6_setOff_13 : decode cX6_setOff 13 = .ok (.aload_n 1, 1) := by decide +kernel
theorem dX6_setOff_14 : decode cX6_setOff 14 = .ok (.iload_n 3, 1) := by decide +kernel
theorem dX6_setOff_15 : decode cX6_setOff 15 = .ok (.putfield 159, 3) := by decide +kernel
theorem dX6_setOff_18 : decode cX6_setOff 18 = .ok (.aload_n 1, 1) := by decide +kernel
theorem dX6_setOff_19 : decode cX6_setOff 19 = .ok (.iconst 1, 1) := by decide +kernel
theorem dX6_setOff_20 : decode cX6_setOff 20 = .ok (.iload 4, 2) := by decide +kernel
theorem dX6_setOff_22 : decode cX6_setOff 22 = .ok (.invokevirtual 246, 3) := by decide +kernel
theorem dX6_setOff_25 : decode cX6_setOff 25 = .ok (.iload 4, 2) := by decide +kernel
theorem dX6_setOff_27 : decode cX6_setOff 27 = .ok (.ifCond .ne 8, 3) := by decide +kernel
theorem dX6_setOff_30 : decode cX6_setOff 30 = .ok (.aload_n 0, 1) := by decide +kernel
theorem dX6_setOff_31 : decode cX6_setOff 31 = .ok (.aload_n 1, 1) := by decide +kernel
theorem dX6_setOff_32 : decode cX6_setOff 32 = .ok (.invokevirtual 243, 3) := by decide +kernel
theorem dX6_setOff_35 : decode cX6_setOff 35 = .ok (.iload 4, 2) := by decide +kernel
theorem dX6_setOff_37 : decode cX6_setOff 37 = .ok (.ireturn, 1) := by decide +kernel
theorem dX6_arrive_0 : decode cX6_arrive 0 = .ok (.aload_n 0, 1) := by decide +kernel
theorem dX6_arrive_1 : decode cX6_arrive 1 = .ok (.aload_n 1, 1) := by decide +kernel
theorem dX6_arrive_2 : decode cX6_arrive 2 = .ok (.invokevirtual 255, 3) := by decide +kernel
theorem dX6_arrive_5 : decode cX6_arrive 5 = .ok (.ifCond .eq 13, 3) := by decide +kernel
theorem dX6_arrive_8 : decode cX6_arrive 8 = .ok (.aload_n 1, 1) := by decide +kernel
theorem dX6_arrive_9 : decode cX6_arrive 9 = .ok (.iconst 2, 1) := by decide +kernel
theorem dX6_arrive_10 : decode cX6_arrive 10 = .ok (.bipush 6, 2) := by decide +kernel
theorem dX6_arrive_12 : decode cX6_arrive 12 = .ok (.invokevirtual 246, 3) := by decide +kernel
theorem dX6_arrive_15 : decode cX6_arrive 15 = .ok (.goto 9, 3) := by decide +kernel
theorem dX6_arrive_18 : decode cX6_arrive 18 = .ok (.aload_n 1, 1) := by decide +kernel
theorem dX6_arrive_19 : decode cX6_arrive 19 = .ok (.iconst 0, 1) := by decide +kernel
theorem dX6_arrive_20 : decode cX6_arrive 20 = .ok (.iconst 0, 1) := by decide +kernel
theorem dX6_arrive_21 : decode cX6_arrive 21 = .ok (.invokevirtual 246, 3) := by decide +kernel
theorem dX6_arrive_24 : decode cX6_arrive 24 = .ok (.return_, 1) := by decide +kernel
theorem dX6_mend_0 : decode cX6_mend 0 = .ok (.aload_n 0, 1) := by decide +kernel
theorem dX6_mend_1 : decode cX6_mend 1 = .ok (.aload_n 1, 1) := by decide +kernel
theorem dX6_mend_2 : decode cX6_mend 2 = .ok (.invokevirtual 255, 3) := by decide +kernel
theorem dX6_mend_5 : decode cX6_mend 5 = .ok (.ifCond .eq 33, 3) := by decide +kernel
theorem dX6_mend_8 : decode cX6_mend 8 = .ok (.aload_n 0, 1) := by decide +kernel
theorem dX6_mend_9 : decode cX6_mend 9 = .ok (.getfield 22, 3) := by decide +kernel
theorem dX6_mend_12 : decode cX6_mend 12 = .ok (.aload_n 1, 1) := by decide +kernel
theorem dX6_mend_13 : decode cX6_mend 13 = .ok (.getfield 259, 3) := by decide +kernel
theorem dX6_mend_16 : decode cX6_mend 16 = .ok (.aload_n 1, 1) := by decide +kernel
theorem dX6_mend_17 : decode cX6_mend 17 = .ok (.getfield 262, 3) := by decide +kernel
theorem dX6_mend_20 : decode cX6_mend 20 = .ok (.invokevirtual 265, 3) := by decide +kernel
theorem dX6_mend_23 : decode cX6_mend 23 = .ok (.aload_n 1, 1) := by decide +kernel
theorem dX6_mend_24 : decode cX6_mend 24 = .ok (.dup, 1) := by decide +kernel
theorem dX6_mend_25 : decode cX6_mend 25 = .ok (.getfield 163, 3) := by decide +kernel
theorem dX6_mend_28 : decode cX6_mend 28 = .ok (.iconst 1, 1) := by decide +kernel
theorem dX6_mend_29 : decode cX6_mend 29 = .ok (.iadd, 1) := by decide +kernel
theorem dX6_mend_30 : decode cX6_mend 30 = .ok (.putfield 163, 3) := by decide +kernel
theorem dX6_mend_33 : decode cX6_mend 33 = .ok (.aload_n 0, 1) := by decide +kernel
theorem dX6_mend_34 : decode cX6_mend 34 = .ok (.iconst 1, 1) := by decide +kernel
theorem dX6_mend_35 : decode cX6_mend 35 = .ok (.putfield 44, 3) := by decide +kernel
theorem dX6_mend_38 : decode cX6_mend 38 = .ok (.aload_n 1, 1) := by decide +kernel
theorem dX6_mend_39 : decode cX6_mend 39 = .ok (.iconst 0, 1) := by decide +kernel
theorem dX6_mend_40 : decode cX6_mend 40 = .ok (.iconst 0, 1) := by decide +kernel
theorem dX6_mend_41 : decode cX6_mend 41 = .ok (.invokevirtual 246, 3) := by decide +kernel
theorem dX6_mend_44 : decode cX6_mend 44 = .ok (.return_, 1) := by decide +kernel
theorem dX6_hasItsFault_0 : decode cX6_hasItsFault 0 = .ok (.aload_n 1, 1) := by decide +kernel
theorem dX6_hasItsFault_1 : decode cX6_hasItsFault 1 = .ok (.getfield 259, 3) := by decide +kernel
theorem dX6_hasItsFault_4 : decode cX6_hasItsFault 4 = .ok (.iconst (-1), 1) := by decide +kernel
theorem dX6_hasItsFault_5 : decode cX6_hasItsFault 5 = .ok (.if_icmp .eq 29, 3) := by decide +kernel
theorem dX6_hasItsFault_8 : decode cX6_hasItsFault 8 = .ok (.aload_n 0, 1) := by decide +kernel
theorem dX6_hasItsFault_9 : decode cX6_hasItsFault 9 = .ok (.getfield 22, 3) := by decide +kernel
theorem dX6_hasItsFault_12 : decode cX6_hasItsFault 12 = .ok (.getfield 79, 3) := by decide +kernel
theorem dX6_hasItsFault_15 : decode cX6_hasItsFault 15 = .ok (.aload_n 1, 1) := by decide +kernel
theorem dX6_hasItsFault_16 : decode cX6_hasItsFault 16 = .ok (.getfield 259, 3) := by decide +kernel
end
section
theorem dX6_hasItsFault_19 : decode cX6_hasItsFault 19 = .ok (.aaload, 1) := by decide +kernel
theorem dX6_hasItsFault_20 : decode cX6_hasItsFault 20 = .ok (.aload_n 1, 1) := by decide +kernel
theorem dX6_hasItsFault_21 : decode cX6_hasItsFault 21 = .ok (.getfield 262, 3) := by decide +kernel
theorem dX6_hasItsFault_24 : decode cX6_hasItsFault 24 = .ok (.invokevirtual 89, 3) := by decide +kernel
theorem dX6_hasItsFault_27 : decode cX6_hasItsFault 27 = .ok (.ifCond .eq 7, 3) := by decide +kernel
theorem dX6_hasItsFault_30 : decode cX6_hasItsFault 30 = .ok (.iconst 1, 1) := by decide +kernel
theorem dX6_hasItsFault_31 : decode cX6_hasItsFault 31 = .ok (.goto 4, 3) := by decide +kernel
theorem dX6_hasItsFault_34 : decode cX6_hasItsFault 34 = .ok (.iconst 0, 1) := by decide +kernel
theorem dX6_hasItsFault_35 : decode cX6_hasItsFault 35 = .ok (.ireturn, 1) := by decide +kernel
theorem dJ9_abs_0f7a4_0 : decode cJ9_abs_0f7a4 0 = .ok (.iload_n 0, 1) := by decide +kernel
theorem dJ9_abs_0f7a4_1 : decode cJ9_abs_0f7a4 1 = .ok (.ifCond .ge 8, 3) := by decide +kernel
theorem dJ9_abs_0f7a4_4 : decode cJ9_abs_0f7a4 4 = .ok (.iload_n 0, 1) := by decide +kernel
theorem dJ9_abs_0f7a4_5 : decode cJ9_abs_0f7a4 5 = .ok (.ineg, 1) := by decide +kernel
theorem dJ9_abs_0f7a4_6 : decode cJ9_abs_0f7a4 6 = .ok (.goto 4, 3) := by decide +kernel
theorem dJ9_abs_0f7a4_9 : decode cJ9_abs_0f7a4 9 = .ok (.iload_n 0, 1) := by decide +kernel
theorem dJ9_abs_0f7a4_10 : decode cJ9_abs_0f7a4 10 = .ok (.ireturn, 1) := by decide +kernel
theorem dJ9_min_7cf53_0 : decode cJ9_min_7cf53 0 = .ok (.iload_n 0, 1) := by decide +kernel
theorem dJ9_min_7cf53_1 : decode cJ9_min_7cf53 1 = .ok (.iload_n 1, 1) := by decide +kernel
theorem dJ9_min_7cf53_2 : decode cJ9_min_7cf53 2 = .ok (.if_icmp .gt 7, 3) := by decide +kernel
theorem dJ9_min_7cf53_5 : decode cJ9_min_7cf53 5 = .ok (.iload_n 0, 1) := by decide +kernel
theorem dJ9_min_7cf53_6 : decode cJ9_min_7cf53 6 = .ok (.goto 4, 3) := by decide +kernel
theorem dJ9_min_7cf53_9 : decode cJ9_min_7cf53 9 = .ok (.iload_n 1, 1) := by decide +kernel
theorem dJ9_min_7cf53_10 : decode cJ9_min_7cf53 10 = .ok (.ireturn, 1) := by decide +kernel
theorem dJ9_min_f86c9_0 : decode cJ9_min_f86c9 0 = .ok (.lload_n 0, 1) := by decide +kernel
theorem dJ9_min_f86c9_1 : decode cJ9_min_f86c9 1 = .ok (.lload_n 2, 1) := by decide +kernel
theorem dJ9_min_f86c9_2 : decode cJ9_min_f86c9 2 = .ok (.lcmp, 1) := by decide +kernel
theorem dJ9_min_f86c9_3 : decode cJ9_min_f86c9 3 = .ok (.ifCond .gt 7, 3) := by decide +kernel
theorem dJ9_min_f86c9_6 : decode cJ9_min_f86c9 6 = .ok (.lload_n 0, 1) := by decide +kernel
theorem dJ9_min_f86c9_7 : decode cJ9_min_f86c9 7 = .ok (.goto 4, 3) := by decide +kernel
theorem dJ9_min_f86c9_10 : decode cJ9_min_f86c9 10 = .ok (.lload_n 2, 1) := by decide +kernel
theorem dJ9_min_f86c9_11 : decode cJ9_min_f86c9 11 = .ok (.lreturn, 1) := by decide +kernel
theorem dJ7_fill_d0a16_0 : decode cJ7_fill_d0a16 0 = .ok (.iconst 0, 1) := by decide +kernel
theorem dJ7_fill_d0a16_1 : decode cJ7_fill_d0a16 1 = .ok (.istore_n 3, 1) := by decide +kernel
theorem dJ7_fill_d0a16_2 : decode cJ7_fill_d0a16 2 = .ok (.aload_n 0, 1) := by decide +kernel
theorem dJ7_fill_d0a16_3 : decode cJ7_fill_d0a16 3 = .ok (.arraylength, 1) := by decide +kernel
theorem dJ7_fill_d0a16_4 : decode cJ7_fill_d0a16 4 = .ok (.istore 4, 2) := by decide +kernel
theorem dJ7_fill_d0a16_6 : decode cJ7_fill_d0a16 6 = .ok (.iload_n 3, 1) := by decide +kernel
theorem dJ7_fill_d0a16_7 : decode cJ7_fill_d0a16 7 = .ok (.iload 4, 2) := by decide +kernel
theorem dJ7_fill_d0a16_9 : decode cJ7_fill_d0a16 9 = .ok (.if_icmp .ge 13, 3) := by decide +kernel
theorem dJ7_fill_d0a16_12 : decode cJ7_fill_d0a16 12 = .ok (.aload_n 0, 1) := by decide +kernel
theorem dJ7_fill_d0a16_13 : decode cJ7_fill_d0a16 13 = .ok (.iload_n 3, 1) := by decide +kernel
theorem dJ7_fill_d0a16_14 : decode cJ7_fill_d0a16 14 = .ok (.lload_n 1, 1) := by decide +kernel
theorem dJ7_fill_d0a16_15 : decode cJ7_fill_d0a16 15 = .ok (.lastore, 1) := by decide +kernel
theorem dJ7_fill_d0a16_16 : decode cJ7_fill_d0a16 16 = .ok (.iinc 3 1, 3) := by decide +kernel
theorem dJ7_fill_d0a16_19 : decode cJ7_fill_d0a16 19 = .ok (.goto (-13), 3) := by decide +kernel
theorem dJ7_fill_d0a16_22 : decode cJ7_fill_d0a16 22 = .ok (.return_, 1) := by decide +kernel
theorem dJ7_fill_53178_0 : decode cJ7_fill_53178 0 = .ok (.iconst 0, 1) := by decide +kernel
theorem dJ7_fill_53178_1 : decode cJ7_fill_53178 1 = .ok (.istore_n 2, 1) := by decide +kernel
theorem dJ7_fill_53178_2 : decode cJ7_fill_53178 2 = .ok (.aload_n 0, 1) := by decide +kernel
theorem dJ7_fill_53178_3 : decode cJ7_fill_53178 3 = .ok (.arraylength, 1) := by decide +kernel
theorem dJ7_fill_53178_4 : decode cJ7_fill_53178 4 = .ok (.istore_n 3, 1) := by decide +kernel
theorem dJ7_fill_53178_5 : decode cJ7_fill_53178 5 = .ok (.iload_n 2, 1) := by decide +kernel
theorem dJ7_fill_53178_6 : decode cJ7_fill_53178 6 = .ok (.iload_n 3, 1) := by decide +kernel
theorem dJ7_fill_53178_7 : decode cJ7_fill_53178 7 = .ok (.if_icmp .ge 13, 3) := by decide +kernel
theorem dJ7_fill_53178_10 : decode cJ7_fill_53178 10 = .ok (.aload_n 0, 1) := by decide +kernel
theorem dJ7_fill_53178_11 : decode cJ7_fill_53178 11 = .ok (.iload_n 2, 1) := by decide +kernel
theorem dJ7_fill_53178_12 : decode cJ7_fill_53178 12 = .ok (.iload_n 1, 1) := by decide +kernel
theorem dJ7_fill_53178_13 : decode cJ7_fill_53178 13 = .ok (.iastore, 1) := by decide +kernel
theorem dJ7_fill_53178_14 : decode cJ7_fill_53178 14 = .ok (.iinc 2 1, 3) := by decide +kernel
theorem dJ7_fill_53178_17 : decode cJ7_fill_53178 17 = .ok (.goto (-12), 3) := by decide +kernel
theorem dJ7_fill_53178_20 : decode cJ7_fill_53178 20 = .ok (.return_, 1) := by decide +kernel
end
section
theorem dX7_init_0 : decode cX7_init 0 = .ok (.aload_n 0, 1) := by decide +kernel
theorem dX7_init_1 : decode cX7_init 1 = .ok (.invokespecial 1, 3) := by decide +kernel
theorem dX7_init_4 : decode cX7_init 4 = .ok (.aload_n 0, 1) := by decide +kernel
theorem dX7_init_5 : decode cX7_init 5 = .ok (.bipush 10, 2) := by decide +kernel
theorem dX7_init_7 : decode cX7_init 7 = .ok (.newarray .int, 2) := by decide +kernel
theorem dX7_init_9 : decode cX7_init 9 = .ok (.putfield 7, 3) := by decide +kernel
theorem dX7_init_12 : decode cX7_init 12 = .ok (.aload_n 0, 1) := by decide +kernel
theorem dX7_init_13 : decode cX7_init 13 = .ok (.bipush 10, 2) := by decide +kernel
theorem dX7_init_15 : decode cX7_init 15 = .ok (.newarray .int, 2) := by decide +kernel
theorem dX7_init_17 : decode cX7_init 17 = .ok (.putfield 13, 3) := by decide +kernel
theorem dX7_init_20 : decode cX7_init 20 = .ok (.aload_n 0, 1) := by decide +kernel
theorem dX7_init_21 : decode cX7_init 21 = .ok (.bipush 16, 2) := by decide +kernel
theorem dX7_init_23 : decode cX7_init 23 = .ok (.newarray .int, 2) := by decide +kernel
theorem dX7_init_25 : decode cX7_init 25 = .ok (.putfield 16, 3) := by decide +kernel
theorem dX7_init_28 : decode cX7_init 28 = .ok (.aload_n 0, 1) := by decide +kernel
theorem dX7_init_29 : decode cX7_init 29 = .ok (.bipush 16, 2) := by decide +kernel
theorem dX7_init_31 : decode cX7_init 31 = .ok (.newarray .int, 2) := by decide +kernel
theorem dX7_init_33 : decode cX7_init 33 = .ok (.putfield 19, 3) := by decide +kernel
theorem dX7_init_36 : decode cX7_init 36 = .ok (.aload_n 0, 1) := by decide +kernel
theorem dX7_init_37 : decode cX7_init 37 = .ok (.bipush 16, 2) := by decide +kernel
theorem dX7_init_39 : decode cX7_init 39 = .ok (.newarray .int, 2) := by decide +kernel
theorem dX7_init_41 : decode cX7_init 41 = .ok (.putfield 22, 3) := by decide +kernel
theorem dX7_init_44 : decode cX7_init 44 = .ok (.aload_n 0, 1) := by decide +kernel
theorem dX7_init_45 : decode cX7_init 45 = .ok (.bipush 16, 2) := by decide +kernel
theorem dX7_init_47 : decode cX7_init 47 = .ok (.newarray .int, 2) := by decide +kernel
theorem dX7_init_49 : decode cX7_init 49 = .ok (.putfield 25, 3) := by decide +kernel
theorem dX7_init_52 : decode cX7_init 52 = .ok (.aload_n 0, 1) := by decide +kernel
theorem dX7_init_53 : decode cX7_init 53 = .ok (.bipush 16, 2) := by decide +kernel
theorem dX7_init_55 : decode cX7_init 55 = .ok (.newarray .int, 2) := by decide +kernel
theorem dX7_init_57 : decode cX7_init 57 = .ok (.putfield 28, 3) := by decide +kernel
theorem dX7_init_60 : decode cX7_init 60 = .ok (.aload_n 0, 1) := by decide +kernel
theorem dX7_init_61 : decode cX7_init 61 = .ok (.sipush 128, 3) := by decide +kernel
theorem dX7_init_64 : decode cX7_init 64 = .ok (.newarray .int, 2) := by decide +kernel
theorem dX7_init_66 : decode cX7_init 66 = .ok (.putfield 31, 3) := by decide +kernel
theorem dX7_init_69 : decode cX7_init 69 = .ok (.aload_n 0, 1) := by decide +kernel
theorem dX7_init_70 : decode cX7_init 70 = .ok (.iconst 4, 1) := by decide +kernel
theorem dX7_init_71 : decode cX7_init 71 = .ok (.newarray .int, 2) := by decide +kernel
theorem dX7_init_73 : decode cX7_init 73 = .ok (.putfield 34, 3) := by decide +kernel
theorem dX7_init_76 : decode cX7_init 76 = .ok (.aload_n 0, 1) := by decide +kernel
theorem dX7_init_77 : decode cX7_init 77 = .ok (.iconst 4, 1) := by decide +kernel
theorem dX7_init_78 : decode cX7_init 78 = .ok (.newarray .int, 2) := by decide +kernel
theorem dX7_init_80 : decode cX7_init 80 = .ok (.putfield 37, 3) := by decide +kernel
theorem dX7_init_83 : decode cX7_init 83 = .ok (.aload_n 0, 1) := by decide +kernel
theorem dX7_init_84 : decode cX7_init 84 = .ok (.iconst 4, 1) := by decide +kernel
theorem dX7_init_85 : decode cX7_init 85 = .ok (.newarray .int, 2) := by decide +kernel
theorem dX7_init_87 : decode cX7_init 87 = .ok (.putfield 40, 3) := by decide +kernel
theorem dX7_init_90 : decode cX7_init 90 = .ok (.aload_n 0, 1) := by decide +kernel
theorem dX7_init_91 : decode cX7_init 91 = .ok (.iconst 4, 1) := by decide +kernel
theorem dX7_init_92 : decode cX7_init 92 = .ok (.newarray .int, 2) := by decide +kernel
theorem dX7_init_94 : decode cX7_init 94 = .ok (.putfield 43, 3) := by decide +kernel
theorem dX7_init_97 : decode cX7_init 97 = .ok (.aload_n 0, 1) := by decide +kernel
theorem dX7_init_98 : decode cX7_init 98 = .ok (.iconst 4, 1) := by decide +kernel
theorem dX7_init_99 : decode cX7_init 99 = .ok (.newarray .int, 2) := by decide +kernel
theorem dX7_init_101 : decode cX7_init 101 = .ok (.putfield 46, 3) := by decide +kernel
theorem dX7_init_104 : decode cX7_init 104 = .ok (.aload_n 0, 1) := by decide +kernel
theorem dX7_init_105 : decode cX7_init 105 = .ok (.iconst 4, 1) := by decide +kernel
theorem dX7_init_106 : decode cX7_init 106 = .ok (.newarray .int, 2) := by decide +kernel
theorem dX7_init_108 : decode cX7_init 108 = .ok (.putfield 49, 3) := by decide +kernel
theorem dX7_init_111 : decode cX7_init 111 = .ok (.aload_n 0, 1) := by decide +kernel
theorem dX7_init_112 : decode cX7_init 112 = .ok (.iconst 4, 1) := by decide +kernel
theorem dX7_init_113 : decode cX7_init 113 = .ok (.newarray .int, 2) := by decide +kernel
theorem dX7_init_115 : decode cX7_init 115 = .ok (.putfield 52, 3) := by decide +kernel
theorem dX7_init_118 : decode cX7_init 118 = .ok (.aload_n 0, 1) := by decide +kernel
theorem dX7_init_119 : decode cX7_init 119 = .ok (.bipush 12, 2) := by decide +kernel
theorem dX7_init_121 : decode cX7_init 121 = .ok (.newarray .int, 2) := by decide +kernel
theorem dX7_init_123 : decode cX7_init 123 = .ok (.putfield 55, 3) := by decide +kernel
theorem dX7_init_126 : decode cX7_init 126 = .ok (.aload_n 0, 1) := by decide +kernel
theorem dX7_init_127 : decode cX7_init 127 = .ok (.bipush 12, 2) := by decide +kernel
theorem dX7_init_129 : decode cX7_init 129 = .ok (.newarray .int, 2) := by decide +kernel
theorem dX7_init_131 : decode cX7_init 131 = .ok (.putfield 58, 3) := by decide +kernel
theorem dX7_init_134 : decode cX7_init 134 = .ok (.aload_n 0, 1) := by decide +kernel
theorem dX7_init_135 : decode cX7_init 135 = .ok (.bipush 12, 2) := by decide +kernel
theorem dX7_init_137 : decode cX7_init 137 = .ok (.newarray .int, 2) := by decide +kernel
theorem dX7_init_139 : decode cX7_init 139 = .ok (.putfield 61, 3) := by decide +kernel
theorem dX7_init_142 : decode cX7_init 142 = .ok (.aload_n 0, 1) := by decide +kernel
theorem dX7_init_143 : decode cX7_init 143 = .ok (.bipush 12, 2) := by decide +kernel
theorem dX7_init_145 : decode cX7_init 145 = .ok (.newarray .int, 2) := by decide +kernel
theorem dX7_init_147 : decode cX7_init 147 = .ok (.putfield 64, 3) := by decide +kernel
theorem dX7_init_150 : decode cX7_init 150 = .ok (.aload_n 0, 1) := by decide +kernel
theorem dX7_init_151 : decode cX7_init 151 = .ok (.bipush 12, 2) := by decide +kernel
theorem dX7_init_153 : decode cX7_init 153 = .ok (.newarray .int, 2) := by decide +kernel
theorem dX7_init_155 : decode cX7_init 155 = .ok (.putfield 67, 3) := by decide +kernel
theorem dX7_init_158 : decode cX7_init 158 = .ok (.aload_n 0, 1) := by decide +kernel
theorem dX7_init_159 : decode cX7_init 159 = .ok (.bipush 12, 2) := by decide +kernel
theorem dX7_init_161 : decode cX7_init 161 = .ok (.newarray .int, 2) := by decide +kernel
theorem dX7_init_163 : decode cX7_init 163 = .ok (.putfield 70, 3) := by decide +kernel
theorem dX7_init_166 : decode cX7_init 166 = .ok (.aload_n 0, 1) := by decide +kernel
theorem dX7_init_167 : decode cX7_init 167 = .ok (.bipush 48, 2) := by decide +kernel
theorem dX7_init_169 : decode cX7_init 169 = .ok (.newarray .long, 2) := by decide +kernel
theorem dX7_init_171 : decode cX7_init 171 = .ok (.putfield 73, 3) := by decide +kernel
theorem dX7_init_174 : decode cX7_init 174 = .ok (.aload_n 0, 1) := by decide +kernel
theorem dX7_init_175 : decode cX7_init 175 = .ok (.bipush 10, 2) := by decide +kernel
theorem dX7_init_177 : decode cX7_init 177 = .ok (.newarray .long, 2) := by decide +kernel
theorem dX7_init_179 : decode cX7_init 179 = .ok (.putfield 77, 3) := by decide +kernel
theorem dX7_init_182 : decode cX7_init 182 = .ok (.aload_n 0, 1) := by decide +kernel
theorem dX7_init_183 : decode cX7_init 183 = .ok (.bipush 16, 2) := by decide +kernel
theorem dX7_init_185 : decode cX7_init 185 = .ok (.newarray .boolean, 2) := by decide +kernel
theorem dX7_init_187 : decode cX7_init 187 = .ok (.putfield 80, 3) := by decide +kernel
theorem dX7_init_190 : decode cX7_init 190 = .ok (.return_, 1) := by decide +kernel
theorem dX7_thrown_0 : decode cX7_thrown 0 = .ok (.aload_n 0, 1) := by decide +kernel
theorem dX7_thrown_1 : decode cX7_thrown 1 = .ok (.getfield 84, 3) := by decide +kernel
theorem dX7_thrown_4 : decode cX7_thrown 4 = .ok (.ireturn, 1) := by decide +kernel
theorem dX7_goesWell_0 : decode cX7_goesWell 0 = .ok (.aload_n 0, 1) := by decide +kernel
theorem dX7_goesWell_1 : decode cX7_goesWell 1 = .ok (.iload_n 1, 1) := by decide +kernel
theorem dX7_goesWell_2 : decode cX7_goesWell 2 = .ok (.putfield 84, 3) := by decide +kernel
theorem dX7_goesWell_5 : decode cX7_goesWell 5 = .ok (.iload_n 1, 1) := by decide +kernel
theorem dX7_goesWell_6 : decode cX7_goesWell 6 = .ok (.ifCond .ne 7, 3) := by decide +kernel
theorem dX7_goesWell_9 : decode cX7_goesWell 9 = .ok (.iconst 1, 1) := by decide +kernel
theorem dX7_goesWell_10 : decode cX7_goesWell 10 = .ok (.goto 4, 3) := by decide +kernel
theorem dX7_goesWell_13 : decode cX7_goesWell 13 = .ok (.iconst 0, 1) := by decide +kernel
theorem dX7_goesWell_14 : decode cX7_goesWell 14 = .ok (.ireturn, 1) := by decide +kernel
theorem dX7_in_0 : decode cX7_in 0 = .ok (.iload_n 0, 1) := by decide +kernel
theorem dX7_in_1 : decode cX7_in 1 = .ok (.iload_n 1, 1) := by decide +kernel
theorem dX7_in_2 : decode cX7_in 2 = .ok (.if_icmp .lt 12, 3) := by decide +kernel
theorem dX7_in_5 : decode cX7_in 5 = .ok (.iload_n 0, 1) := by decide +kernel
theorem dX7_in_6 : decode cX7_in 6 = .ok (.iload_n 2, 1) := by decide +kernel
theorem dX7_in_7 : decode cX7_in 7 = .ok (.if_icmp .gt 7, 3) := by decide +kernel
theorem dX7_in_10 : decode cX7_in 10 = .ok (.iconst 1, 1) := by decide +kernel
theorem dX7_in_11 : decode cX7_in 11 = .ok (.goto 4, 3) := by decide +kernel
theorem dX7_in_14 : decode cX7_in 14 = .ok (.iconst 0, 1) := by decide +kernel
theorem dX7_in_15 : decode cX7_in 15 = .ok (.ireturn, 1) := by decide +kernel
theorem dX7_isIsland_0 : decode cX7_isIsland 0 = .ok (.iload_n 1, 1) := by decide +kernel
theorem dX7_isIsland_1 : decode cX7_isIsland 1 = .ok (.iconst 0, 1) := by decide +kernel
theorem dX7_isIsland_2 : decode cX7_isIsland 2 = .ok (.aload_n 0, 1) := by decide +kernel
theorem dX7_isIsland_3 : decode cX7_isIsland 3 = .ok (.getfield 88, 3) := by decide +kernel
theorem dX7_isIsland_6 : decode cX7_isIsland 6 = .ok (.iconst 1, 1) := by decide +kernel
theorem dX7_isIsland_7 : decode cX7_isIsland 7 = .ok (.isub, 1) := by decide +kernel
theorem dX7_isIsland_8 : decode cX7_isIsland 8 = .ok (.invokestatic 91, 3) := by decide +kernel
theorem dX7_isIsland_11 : decode cX7_isIsland 11 = .ok (.ireturn, 1) := by decide +kernel
theorem dX7_isCable_0 : decode cX7_isCable 0 = .ok (.iload_n 1, 1) := by decide +kernel
theorem dX7_isCable_1 : decode cX7_isCable 1 = .ok (.iconst 0, 1) := by decide +kernel
theorem dX7_isCable_2 : decode cX7_isCable 2 = .ok (.aload_n 0, 1) := by decide +kernel
theorem dX7_isCable_3 : decode cX7_isCable 3 = .ok (.getfield 95, 3) := by decide +kernel
theorem dX7_isCable_6 : decode cX7_isCable 6 = .ok (.iconst 1, 1) := by decide +kernel
theorem dX7_isCable_7 : decode cX7_isCable 7 = .ok (.isub, 1) := by decide +kernel
theorem dX7_isCable_8 : decode cX7_isCable 8 = .ok (.invokestatic 91, 3) := by decide +kernel
theorem dX7_isCable_11 : decode cX7_isCable 11 = .ok (.ireturn, 1) := by decide +kernel
theorem dX7_isSpan_0 : decode cX7_isSpan 0 = .ok (.aload_n 0, 1) := by decide +kernel
theorem dX7_isSpan_1 : decode cX7_isSpan 1 = .ok (.iload_n 1, 1) := by decide +kernel
theorem dX7_isSpan_2 : decode cX7_isSpan 2 = .ok (.invokevirtual 98, 3) := by decide +kernel
theorem dX7_isSpan_5 : decode cX7_isSpan 5 = .ok (.ifCond .eq 23, 3) := by decide +kernel
theorem dX7_isSpan_8 : decode cX7_isSpan 8 = .ok (.iload_n 2, 1) := by decide +kernel
theorem dX7_isSpan_9 : decode cX7_isSpan 9 = .ok (.iconst 0, 1) := by decide +kernel
theorem dX7_isSpan_10 : decode cX7_isSpan 10 = .ok (.aload_n 0, 1) := by decide +kernel
theorem dX7_isSpan_11 : decode cX7_isSpan 11 = .ok (.getfield 22, 3) := by decide +kernel
theorem dX7_isSpan_14 : decode cX7_isSpan 14 = .ok (.iload_n 1, 1) := by decide +kernel
theorem dX7_isSpan_15 : decode cX7_isSpan 15 = .ok (.iaload, 1) := by decide +kernel
theorem dX7_isSpan_16 : decode cX7_isSpan 16 = .ok (.iconst 1, 1) := by decide +kernel
theorem dX7_isSpan_17 : decode cX7_isSpan 17 = .ok (.isub, 1) := by decide +kernel
theorem dX7_isSpan_18 : decode cX7_isSpan 18 = .ok (.invokestatic 91, 3) := by decide +kernel
theorem dX7_isSpan_21 : decode cX7_isSpan 21 = .ok (.ifCond .eq 7, 3) := by decide +kernel
theorem dX7_isSpan_24 : decode cX7_isSpan 24 = .ok (.iconst 1, 1) := by decide +kernel
theorem dX7_isSpan_25 : decode cX7_isSpan 25 = .ok (.goto 4, 3) := by decide +kernel
theorem dX7_isSpan_28 : decode cX7_isSpan 28 = .ok (.iconst 0, 1) := by decide +kernel
theorem dX7_isSpan_29 : decode cX7_isSpan 29 = .ok (.ireturn, 1) := by decide +kernel
theorem dX7_isShip_0 : decode cX7_isShip 0 = .ok (.iload_n 1, 1) := by decide +kernel
theorem dX7_isShip_1 : decode cX7_isShip 1 = .ok (.iconst 0, 1) := by decide +kernel
theorem dX7_isShip_2 : decode cX7_isShip 2 = .ok (.aload_n 0, 1) := by decide +kernel
theorem dX7_isShip_3 : decode cX7_isShip 3 = .ok (.getfield 102, 3) := by decide +kernel
theorem dX7_isShip_6 : decode cX7_isShip 6 = .ok (.iconst 1, 1) := by decide +kernel
theorem dX7_isShip_7 : decode cX7_isShip 7 = .ok (.isub, 1) := by decide +kernel
theorem dX7_isShip_8 : decode cX7_isShip 8 = .ok (.invokestatic 91, 3) := by decide +kernel
theorem dX7_isShip_11 : decode cX7_isShip 11 = .ok (.ireturn, 1) := by decide +kernel
theorem dX7_isTrader_0 : decode cX7_isTrader 0 = .ok (.iload_n 1, 1) := by decide +kernel
theorem dX7_isTrader_1 : decode cX7_isTrader 1 = .ok (.iconst 0, 1) := by decide +kernel
theorem dX7_isTrader_2 : decode cX7_isTrader 2 = .ok (.aload_n 0, 1) := by decide +kernel
theorem dX7_isTrader_3 : decode cX7_isTrader 3 = .ok (.getfield 105, 3) := by decide +kernel
theorem dX7_isTrader_6 : decode cX7_isTrader 6 = .ok (.iconst 1, 1) := by decide +kernel
theorem dX7_isTrader_7 : decode cX7_isTrader 7 = .ok (.isub, 1) := by decide +kernel
theorem dX7_isTrader_8 : decode cX7_isTrader 8 = .ok (.invokestatic 91, 3) := by decide +kernel
theorem dX7_isTrader_11 : decode cX7_isTrader 11 = .ok (.ireturn, 1) := by decide +kernel
theorem dX7_size_0 : decode cX7_size 0 = .ok (.iload_n 0, 1) := by decide +kernel
theorem dX7_size_1 : decode cX7_size 1 = .ok (.ifCond .ge 8, 3) := by decide +kernel
theorem dX7_size_4 : decode cX7_size 4 = .ok (.iload_n 0, 1) := by decide +kernel
theorem dX7_size_5 : decode cX7_size 5 = .ok (.ineg, 1) := by decide +kernel
theorem dX7_size_6 : decode cX7_size 6 = .ok (.goto 4, 3) := by decide +kernel
theorem dX7_size_9 : decode cX7_size 9 = .ok (.iload_n 0, 1) := by decide +kernel
theorem dX7_size_10 : decode cX7_size 10 = .ok (.ireturn, 1) := by decide +kernel
theorem dX7_island_0 : decode cX7_island 0 = .ok (.iload_n 1, 1) := by decide +kernel
theorem dX7_island_1 : decode cX7_island 1 = .ok (.iconst 0, 1) := by decide +kernel
theorem dX7_island_2 : decode cX7_island 2 = .ok (.bipush 99, 2) := by decide +kernel
theorem dX7_island_4 : decode cX7_island 4 = .ok (.invokestatic 91, 3) := by decide +kernel
theorem dX7_island_7 : decode cX7_island 7 = .ok (.ifCond .eq 17, 3) := by decide +kernel
theorem dX7_island_10 : decode cX7_island 10 = .ok (.iload_n 2, 1) := by decide +kernel
theorem dX7_island_11 : decode cX7_island 11 = .ok (.iconst 0, 1) := by decide +kernel
theorem dX7_island_12 : decode cX7_island 12 = .ok (.bipush 99, 2) := by decide +kernel
theorem dX7_island_14 : decode cX7_island 14 = .ok (.invokestatic 91, 3) := by decide +kernel
theorem dX7_island_17 : decode cX7_island 17 = .ok (.ifCond .eq 7, 3) := by decide +kernel
theorem dX7_island_20 : decode cX7_island 20 = .ok (.iconst 1, 1) := by decide +kernel
theorem dX7_island_21 : decode cX7_island 21 = .ok (.goto 4, 3) := by decide +kernel
theorem dX7_island_24 : decode cX7_island 24 = .ok (.iconst 0, 1) := by decide +kernel
theorem dX7_island_25 : decode cX7_island 25 = .ok (.istore_n 3, 1) := by decide +kernel
theorem dX7_island_26 : decode cX7_island 26 = .ok (.aload_n 0, 1) := by decide +kernel
theorem dX7_island_27 : decode cX7_island 27 = .ok (.iload_n 3, 1) := by decide +kernel
theorem dX7_island_28 : decode cX7_island 28 = .ok (.ifCond .ne 7, 3) := by decide +kernel
theorem dX7_island_31 : decode cX7_island 31 = .ok (.iconst 1, 1) := by decide +kernel
theorem dX7_island_32 : decode cX7_island 32 = .ok (.goto 17, 3) := by decide +kernel
theorem dX7_island_35 : decode cX7_island 35 = .ok (.aload_n 0, 1) := by decide +kernel
theorem dX7_island_36 : decode cX7_island 36 = .ok (.getfield 88, 3) := by decide +kernel
theorem dX7_island_39 : decode cX7_island 39 = .ok (.bipush 10, 2) := by decide +kernel
theorem dX7_island_41 : decode cX7_island 41 = .ok (.if_icmp .ne 7, 3) := by decide +kernel
theorem dX7_island_44 : decode cX7_island 44 = .ok (.iconst 2, 1) := by decide +kernel
theorem dX7_island_45 : decode cX7_island 45 = .ok (.goto 4, 3) := by decide +kernel
theorem dX7_island_48 : decode cX7_island 48 = .ok (.iconst 0, 1) := by decide +kernel
theorem dX7_island_49 : decode cX7_island 49 = .ok (.invokevirtual 108, 3) := by decide +kernel
theorem dX7_island_52 : decode cX7_island 52 = .ok (.ifCond .ne 5, 3) := by decide +kernel
theorem dX7_island_55 : decode cX7_island 55 = .ok (.iconst 0, 1) := by decide +kernel
theorem dX7_island_56 : decode cX7_island 56 = .ok (.ireturn, 1) := by decide +kernel
theorem dX7_island_57 : decode cX7_island 57 = .ok (.aload_n 0, 1) := by decide +kernel
theorem dX7_island_58 : decode cX7_island 58 = .ok (.getfield 7, 3) := by decide +kernel
theorem dX7_island_61 : decode cX7_island 61 = .ok (.aload_n 0, 1) := by decide +kernel
theorem dX7_island_62 : decode cX7_island 62 = .ok (.getfield 88, 3) := by decide +kernel
theorem dX7_island_65 : decode cX7_island 65 = .ok (.iload_n 1, 1) := by decide +kernel
theorem dX7_island_66 : decode cX7_island 66 = .ok (.iastore, 1) := by decide +kernel
theorem dX7_island_67 : decode cX7_island 67 = .ok (.aload_n 0, 1) := by decide +kernel
theorem dX7_island_68 : decode cX7_island 68 = .ok (.getfield 13, 3) := by decide +kernel
theorem dX7_island_71 : decode cX7_island 71 = .ok (.aload_n 0, 1) := by decide +kernel
theorem dX7_island_72 : decode cX7_island 72 = .ok (.getfield 88, 3) := by decide +kernel
theorem dX7_island_75 : decode cX7_island 75 = .ok (.iload_n 2, 1) := by decide +kernel
theorem dX7_island_76 : decode cX7_island 76 = .ok (.iastore, 1) := by decide +kernel
theorem dX7_island_77 : decode cX7_island 77 = .ok (.aload_n 0, 1) := by decide +kernel
theorem dX7_island_78 : decode cX7_island 78 = .ok (.dup, 1) := by decide +kernel
theorem dX7_island_79 : decode cX7_island 79 = .ok (.getfield 88, 3) := by decide +kernel
theorem dX7_island_82 : decode cX7_island 82 = .ok (.iconst 1, 1) := by decide +kernel
theorem dX7_island_83 : decode cX7_island 83 = .ok (.iadd, 1) := by decide +kernel
theorem dX7_island_84 : decode cX7_island 84 = .ok (.putfield 88, 3) := by decide +kernel
theorem dX7_island_87 : decode cX7_island 87 = .ok (.aload_n 0, 1) := by decide +kernel
theorem dX7_island_88 : decode cX7_island 88 = .ok (.getfield 88, 3) := by decide +kernel
theorem dX7_island_91 : decode cX7_island 91 = .ok (.iconst 1, 1) := by decide +kernel
theorem dX7_island_92 : decode cX7_island 92 = .ok (.isub, 1) := by decide +kernel
theorem dX7_island_93 : decode cX7_island 93 = .ok (.ireturn, 1) := by decide +kernel
theorem dX7_cable_0 : decode cX7_cable 0 = .ok (.aload_n 0, 1) := by decide +kernel
theorem dX7_cable_1 : decode cX7_cable 1 = .ok (.iload_n 1, 1) := by decide +kernel
theorem dX7_cable_2 : decode cX7_cable 2 = .ok (.invokevirtual 111, 3) := by decide +kernel
theorem dX7_cable_5 : decode cX7_cable 5 = .ok (.ifCond .eq 15, 3) := by decide +kernel
theorem dX7_cable_8 : decode cX7_cable 8 = .ok (.aload_n 0, 1) := by decide +kernel
theorem dX7_cable_9 : decode cX7_cable 9 = .ok (.iload_n 2, 1) := by decide +kernel
theorem dX7_cable_10 : decode cX7_cable 10 = .ok (.invokevirtual 111, 3) := by decide +kernel
theorem dX7_cable_13 : decode cX7_cable 13 = .ok (.ifCond .eq 7, 3) := by decide +kernel
theorem dX7_cable_16 : decode cX7_cable 16 = .ok (.iconst 1, 1) := by decide +kernel
theorem dX7_cable_17 : decode cX7_cable 17 = .ok (.goto 4, 3) := by decide +kernel
theorem dX7_cable_20 : decode cX7_cable 20 = .ok (.iconst 0, 1) := by decide +kernel
theorem dX7_cable_21 : decode cX7_cable 21 = .ok (.istore 6, 2) := by decide +kernel
theorem dX7_cable_23 : decode cX7_cable 23 = .ok (.iload_n 1, 1) := by decide +kernel
theorem dX7_cable_24 : decode cX7_cable 24 = .ok (.iload_n 2, 1) := by decide +kernel
theorem dX7_cable_25 : decode cX7_cable 25 = .ok (.if_icmp .eq 41, 3) := by decide +kernel
theorem dX7_cable_28 : decode cX7_cable 28 = .ok (.iload_n 3, 1) := by decide +kernel
theorem dX7_cable_29 : decode cX7_cable 29 = .ok (.iconst 1, 1) := by decide +kernel
theorem dX7_cable_30 : decode cX7_cable 30 = .ok (.bipush 8, 2) := by decide +kernel
theorem dX7_cable_32 : decode cX7_cable 32 = .ok (.invokestatic 91, 3) := by decide +kernel
theorem dX7_cable_35 : decode cX7_cable 35 = .ok (.ifCond .eq 31, 3) := by decide +kernel
theorem dX7_cable_38 : decode cX7_cable 38 = .ok (.iload 4, 2) := by decide +kernel
theorem dX7_cable_40 : decode cX7_cable 40 = .ok (.iconst 1, 1) := by decide +kernel
theorem dX7_cable_41 : decode cX7_cable 41 = .ok (.sipush 500, 3) := by decide +kernel
theorem dX7_cable_44 : decode cX7_cable 44 = .ok (.invokestatic 91, 3) := by decide +kernel
theorem dX7_cable_47 : decode cX7_cable 47 = .ok (.ifCond .eq 19, 3) := by decide +kernel
theorem dX7_cable_50 : decode cX7_cable 50 = .ok (.iload 5, 2) := by decide +kernel
theorem dX7_cable_52 : decode cX7_cable 52 = .ok (.iconst 0, 1) := by decide +kernel
theorem dX7_cable_53 : decode cX7_cable 53 = .ok (.sipush 9999, 3) := by decide +kernel
theorem dX7_cable_56 : decode cX7_cable 56 = .ok (.invokestatic 91, 3) := by decide +kernel
theorem dX7_cable_59 : decode cX7_cable 59 = .ok (.ifCond .eq 7, 3) := by decide +kernel
theorem dX7_cable_62 : decode cX7_cable 62 = .ok (.iconst 1, 1) := by decide +kernel
theorem dX7_cable_63 : decode cX7_cable 63 = .ok (.goto 4, 3) := by decide +kernel
theorem dX7_cable_66 : decode cX7_cable 66 = .ok (.iconst 0, 1) := by decide +kernel
theorem dX7_cable_67 : decode cX7_cable 67 = .ok (.istore 7, 2) := by decide +kernel
theorem dX7_cable_69 : decode cX7_cable 69 = .ok (.aload_n 0, 1) := by decide +kernel
theorem dX7_cable_70 : decode cX7_cable 70 = .ok (.iload 6, 2) := by decide +kernel
theorem dX7_cable_72 : decode cX7_cable 72 = .ok (.ifCond .ne 7, 3) := by decide +kernel
theorem dX7_cable_75 : decode cX7_cable 75 = .ok (.iconst 1, 1) := by decide +kernel
theorem dX7_cable_76 : decode cX7_cable 76 = .ok (.goto 26, 3) := by decide +kernel
theorem dX7_cable_79 : decode cX7_cable 79 = .ok (.iload 7, 2) := by decide +kernel
theorem dX7_cable_81 : decode cX7_cable 81 = .ok (.ifCond .ne 7, 3) := by decide +kernel
theorem dX7_cable_84 : decode cX7_cable 84 = .ok (.iconst 2, 1) := by decide +kernel
theorem dX7_cable_85 : decode cX7_cable 85 = .ok (.goto 17, 3) := by decide +kernel
theorem dX7_cable_88 : decode cX7_cable 88 = .ok (.aload_n 0, 1) := by decide +kernel
theorem dX7_cable_89 : decode cX7_cable 89 = .ok (.getfield 95, 3) := by decide +kernel
theorem dX7_cable_92 : decode cX7_cable 92 = .ok (.bipush 16, 2) := by decide +kernel
theorem dX7_cable_94 : decode cX7_cable 94 = .ok (.if_icmp .ne 7, 3) := by decide +kernel
theorem dX7_cable_97 : decode cX7_cable 97 = .ok (.iconst 3, 1) := by decide +kernel
theorem dX7_cable_98 : decode cX7_cable 98 = .ok (.goto 4, 3) := by decide +kernel
theorem dX7_cable_101 : decode cX7_cable 101 = .ok (.iconst 0, 1) := by decide +kernel
theorem dX7_cable_102 : decode cX7_cable 102 = .ok (.invokevirtual 108, 3) := by decide +kernel
theorem dX7_cable_105 : decode cX7_cable 105 = .ok (.ifCond .ne 5, 3) := by decide +kernel
theorem dX7_cable_108 : decode cX7_cable 108 = .ok (.iconst 0, 1) := by decide +kernel
theorem dX7_cable_109 : decode cX7_cable 109 = .ok (.ireturn, 1) := by decide +kernel
theorem dX7_cable_110 : decode cX7_cable 110 = .ok (.aload_n 0, 1) := by decide +kernel
theorem dX7_cable_111 : decode cX7_cable 111 = .ok (.getfield 16, 3) := by decide +kernel
theorem dX7_cable_114 : decode cX7_cable 114 = .ok (.aload_n 0, 1) := by decide +kernel
theorem dX7_cable_115 : decode cX7_cable 115 = .ok (.getfield 95, 3) := by decide +kernel
theorem dX7_cable_118 : decode cX7_cable 118 = .ok (.iload_n 1, 1) := by decide +kernel
theorem dX7_cable_119 : decode cX7_cable 119 = .ok (.iastore, 1) := by decide +kernel
theorem dX7_cable_120 : decode cX7_cable 120 = .ok (.aload_n 0, 1) := by decide +kernel
theorem dX7_cable_121 : decode cX7_cable 121 = .ok (.getfield 19, 3) := by decide +kernel
theorem dX7_cable_124 : decode cX7_cable 124 = .ok (.aload_n 0, 1) := by decide +kernel
theorem dX7_cable_125 : decode cX7_cable 125 = .ok (.getfield 95, 3) := by decide +kernel
theorem dX7_cable_128 : decode cX7_cable 128 = .ok (.iload_n 2, 1) := by decide +kernel
theorem dX7_cable_129 : decode cX7_cable 129 = .ok (.iastore, 1) := by decide +kernel
theorem dX7_cable_130 : decode cX7_cable 130 = .ok (.aload_n 0, 1) := by decide +kernel
theorem dX7_cable_131 : decode cX7_cable 131 = .ok (.getfield 22, 3) := by decide +kernel
theorem dX7_cable_134 : decode cX7_cable 134 = .ok (.aload_n 0, 1) := by decide +kernel
theorem dX7_cable_135 : decode cX7_cable 135 = .ok (.getfield 95, 3) := by decide +kernel
theorem dX7_cable_138 : decode cX7_cable 138 = .ok (.iload_n 3, 1) := by decide +kernel
theorem dX7_cable_139 : decode cX7_cable 139 = .ok (.iastore, 1) := by decide +kernel
theorem dX7_cable_140 : decode cX7_cable 140 = .ok (.aload_n 0, 1) := by decide +kernel
theorem dX7_cable_141 : decode cX7_cable 141 = .ok (.getfield 25, 3) := by decide +kernel
theorem dX7_cable_144 : decode cX7_cable 144 = .ok (.aload_n 0, 1) := by decide +kernel
theorem dX7_cable_145 : decode cX7_cable 145 = .ok (.getfield 95, 3) := by decide +kernel
theorem dX7_cable_148 : decode cX7_cable 148 = .ok (.iload 4, 2) := by decide +kernel
theorem dX7_cable_150 : decode cX7_cable 150 = .ok (.iastore, 1) := by decide +kernel
theorem dX7_cable_151 : decode cX7_cable 151 = .ok (.aload_n 0, 1) := by decide +kernel
theorem dX7_cable_152 : decode cX7_cable 152 = .ok (.getfield 28, 3) := by decide +kernel
theorem dX7_cable_155 : decode cX7_cable 155 = .ok (.aload_n 0, 1) := by decide +kernel
theorem dX7_cable_156 : decode cX7_cable 156 = .ok (.getfield 95, 3) := by decide +kernel
theorem dX7_cable_159 : decode cX7_cable 159 = .ok (.iload 5, 2) := by decide +kernel
theorem dX7_cable_161 : decode cX7_cable 161 = .ok (.iastore, 1) := by decide +kernel
theorem dX7_cable_162 : decode cX7_cable 162 = .ok (.aload_n 0, 1) := by decide +kernel
theorem dX7_cable_163 : decode cX7_cable 163 = .ok (.dup, 1) := by decide +kernel
theorem dX7_cable_164 : decode cX7_cable 164 = .ok (.getfield 95, 3) := by decide +kernel
theorem dX7_cable_167 : decode cX7_cable 167 = .ok (.iconst 1, 1) := by decide +kernel
theorem dX7_cable_168 : decode cX7_cable 168 = .ok (.iadd, 1) := by decide +kernel
theorem dX7_cable_169 : decode cX7_cable 169 = .ok (.putfield 95, 3) := by decide +kernel
theorem dX7_cable_172 : decode cX7_cable 172 = .ok (.aload_n 0, 1) := by decide +kernel
theorem dX7_cable_173 : decode cX7_cable 173 = .ok (.getfield 95, 3) := by decide +kernel
theorem dX7_cable_176 : decode cX7_cable 176 = .ok (.iconst 1, 1) := by decide +kernel
theorem dX7_cable_177 : decode cX7_cable 177 = .ok (.isub, 1) := by decide +kernel
theorem dX7_cable_178 : decode cX7_cable 178 = .ok (.ireturn, 1) := by decide +kernel
theorem dX7_price_0 : decode cX7_price 0 = .ok (.aload_n 0, 1) := by decide +kernel
theorem dX7_price_1 : decode cX7_price 1 = .ok (.iload_n 1, 1) := by decide +kernel
theorem dX7_price_2 : decode cX7_price 2 = .ok (.invokevirtual 98, 3) := by decide +kernel
theorem dX7_price_5 : decode cX7_price 5 = .ok (.istore_n 3, 1) := by decide +kernel
theorem dX7_price_6 : decode cX7_price 6 = .ok (.aload_n 0, 1) := by decide +kernel
theorem dX7_price_7 : decode cX7_price 7 = .ok (.iload_n 3, 1) := by decide +kernel
theorem dX7_price_8 : decode cX7_price 8 = .ok (.ifCond .ne 7, 3) := by decide +kernel
theorem dX7_price_11 : decode cX7_price 11 = .ok (.iconst 1, 1) := by decide +kernel
theorem dX7_price_12 : decode cX7_price 12 = .ok (.goto 19, 3) := by decide +kernel
theorem dX7_price_15 : decode cX7_price 15 = .ok (.iload_n 2, 1) := by decide +kernel
theorem dX7_price_16 : decode cX7_price 16 = .ok (.iconst 0, 1) := by decide +kernel
theorem dX7_price_17 : decode cX7_price 17 = .ok (.sipush 9999, 3) := by decide +kernel
theorem dX7_price_20 : decode cX7_price 20 = .ok (.invokestatic 91, 3) := by decide +kernel
theorem dX7_price_23 : decode cX7_price 23 = .ok (.ifCond .eq 7, 3) := by decide +kernel
theorem dX7_price_26 : decode cX7_price 26 = .ok (.iconst 0, 1) := by decide +kernel
theorem dX7_price_27 : decode cX7_price 27 = .ok (.goto 4, 3) := by decide +kernel
theorem dX7_price_30 : decode cX7_price 30 = .ok (.iconst 2, 1) := by decide +kernel
theorem dX7_price_31 : decode cX7_price 31 = .ok (.invokevirtual 108, 3) := by decide +kernel
theorem dX7_price_34 : decode cX7_price 34 = .ok (.ifCond .ne 5, 3) := by decide +kernel
theorem dX7_price_37 : decode cX7_price 37 = .ok (.iconst 0, 1) := by decide +kernel
theorem dX7_price_38 : decode cX7_price 38 = .ok (.ireturn, 1) := by decide +kernel
theorem dX7_price_39 : decode cX7_price 39 = .ok (.aload_n 0, 1) := by decide +kernel
theorem dX7_price_40 : decode cX7_price 40 = .ok (.getfield 28, 3) := by decide +kernel
theorem dX7_price_43 : decode cX7_price 43 = .ok (.iload_n 1, 1) := by decide +kernel
theorem dX7_price_44 : decode cX7_price 44 = .ok (.iaload, 1) := by decide +kernel
theorem dX7_price_45 : decode cX7_price 45 = .ok (.istore 4, 2) := by decide +kernel
theorem dX7_price_47 : decode cX7_price 47 = .ok (.aload_n 0, 1) := by decide +kernel
theorem dX7_price_48 : decode cX7_price 48 = .ok (.getfield 28, 3) := by decide +kernel
theorem dX7_price_51 : decode cX7_price 51 = .ok (.iload_n 1, 1) := by decide +kernel
theorem dX7_price_52 : decode cX7_price 52 = .ok (.iload_n 2, 1) := by decide +kernel
theorem dX7_price_53 : decode cX7_price 53 = .ok (.iastore, 1) := by decide +kernel
theorem dX7_price_54 : decode cX7_price 54 = .ok (.iload 4, 2) := by decide +kernel
theorem dX7_price_56 : decode cX7_price 56 = .ok (.ireturn, 1) := by decide +kernel
theorem dX7_placeOf_0 : decode cX7_placeOf 0 = .ok (.iconst 0, 1) := by decide +kernel
theorem dX7_placeOf_1 : decode cX7_placeOf 1 = .ok (.istore_n 2, 1) := by decide +kernel
theorem dX7_placeOf_2 : decode cX7_placeOf 2 = .ok (.iload_n 2, 1) := by decide +kernel
theorem dX7_placeOf_3 : decode cX7_placeOf 3 = .ok (.aload_n 0, 1) := by decide +kernel
theorem dX7_placeOf_4 : decode cX7_placeOf 4 = .ok (.getfield 114, 3) := by decide +kernel
theorem dX7_placeOf_7 : decode cX7_placeOf 7 = .ok (.if_icmp .ge 19, 3) := by decide +kernel
theorem dX7_placeOf_10 : decode cX7_placeOf 10 = .ok (.aload_n 0, 1) := by decide +kernel
theorem dX7_placeOf_11 : decode cX7_placeOf 11 = .ok (.getfield 31, 3) := by decide +kernel
theorem dX7_placeOf_14 : decode cX7_placeOf 14 = .ok (.iload_n 2, 1) := by decide +kernel
theorem dX7_placeOf_15 : decode cX7_placeOf 15 = .ok (.iaload, 1) := by decide +kernel
theorem dX7_placeOf_16 : decode cX7_placeOf 16 = .ok (.iload_n 1, 1) := by decide +kernel
theorem dX7_placeOf_17 : decode cX7_placeOf 17 = .ok (.if_icmp .eq 9, 3) := by decide +kernel
theorem dX7_placeOf_20 : decode cX7_placeOf 20 = .ok (.iinc 2 1, 3) := by decide +kernel
theorem dX7_placeOf_23 : decode cX7_placeOf 23 = .ok (.goto (-21), 3) := by decide +kernel
theorem dX7_placeOf_26 : decode cX7_placeOf 26 = .ok (.iload_n 2, 1) := by decide +kernel
theorem dX7_placeOf_27 : decode cX7_placeOf 27 = .ok (.aload_n 0, 1) := by decide +kernel
theorem dX7_placeOf_28 : decode cX7_placeOf 28 = .ok (.getfield 114, 3) := by decide +kernel
theorem dX7_placeOf_31 : decode cX7_placeOf 31 = .ok (.if_icmp .ge 7, 3) := by decide +kernel
theorem dX7_placeOf_34 : decode cX7_placeOf 34 = .ok (.iload_n 2, 1) := by decide +kernel
theorem dX7_placeOf_35 : decode cX7_placeOf 35 = .ok (.goto 4, 3) := by decide +kernel
theorem dX7_placeOf_38 : decode cX7_placeOf 38 = .ok (.iconst (-1), 1) := by decide +kernel
theorem dX7_placeOf_39 : decode cX7_placeOf 39 = .ok (.ireturn, 1) := by decide +kernel
theorem dX7_fault_0 : decode cX7_fault 0 = .ok (.aload_n 0, 1) := by decide +kernel
theorem dX7_fault_1 : decode cX7_fault 1 = .ok (.iload_n 1, 1) := by decide +kernel
theorem dX7_fault_2 : decode cX7_fault 2 = .ok (.iload_n 2, 1) := by decide +kernel
theorem dX7_fault_3 : decode cX7_fault 3 = .ok (.invokevirtual 117, 3) := by decide +kernel
theorem dX7_fault_6 : decode cX7_fault 6 = .ok (.istore_n 3, 1) := by decide +kernel
theorem dX7_fault_7 : decode cX7_fault 7 = .ok (.aload_n 0, 1) := by decide +kernel
theorem dX7_fault_8 : decode cX7_fault 8 = .ok (.iload_n 3, 1) := by decide +kernel
theorem dX7_fault_9 : decode cX7_fault 9 = .ok (.ifCond .ne 7, 3) := by decide +kernel
theorem dX7_fault_12 : decode cX7_fault 12 = .ok (.iconst 1, 1) := by decide +kernel
theorem dX7_fault_13 : decode cX7_fault 13 = .ok (.goto 22, 3) := by decide +kernel
theorem dX7_fault_16 : decode cX7_fault 16 = .ok (.aload_n 0, 1) := by decide +kernel
theorem dX7_fault_17 : decode cX7_fault 17 = .ok (.bipush 8, 2) := by decide +kernel
theorem dX7_fault_19 : decode cX7_fault 19 = .ok (.iload_n 1, 1) := by decide +kernel
theorem dX7_fault_20 : decode cX7_fault 20 = .ok (.imul, 1) := by decide +kernel
theorem dX7_fault_21 : decode cX7_fault 21 = .ok (.iload_n 2, 1) := by decide +kernel
theorem dX7_fault_22 : decode cX7_fault 22 = .ok (.iadd, 1) := by decide +kernel
theorem dX7_fault_23 : decode cX7_fault 23 = .ok (.invokevirtual 121, 3) := by decide +kernel
theorem dX7_fault_26 : decode cX7_fault 26 = .ok (.iconst (-1), 1) := by decide +kernel
theorem dX7_fault_27 : decode cX7_fault 27 = .ok (.if_icmp .eq 7, 3) := by decide +kernel
theorem dX7_fault_30 : decode cX7_fault 30 = .ok (.iconst 2, 1) := by decide +kernel
theorem dX7_fault_31 : decode cX7_fault 31 = .ok (.goto 4, 3) := by decide +kernel
theorem dX7_fault_34 : decode cX7_fault 34 = .ok (.iconst 0, 1) := by decide +kernel
theorem dX7_fault_35 : decode cX7_fault 35 = .ok (.invokevirtual 108, 3) := by decide +kernel
theorem dX7_fault_38 : decode cX7_fault 38 = .ok (.ifCond .ne 5, 3) := by decide +kernel
theorem dX7_fault_41 : decode cX7_fault 41 = .ok (.iconst 0, 1) := by decide +kernel
theorem dX7_fault_42 : decode cX7_fault 42 = .ok (.ireturn, 1) := by decide +kernel
theorem dX7_fault_43 : decode cX7_fault 43 = .ok (.aload_n 0, 1) := by decide +kernel
theorem dX7_fault_44 : decode cX7_fault 44 = .ok (.getfield 31, 3) := by decide +kernel
theorem dX7_fault_47 : decode cX7_fault 47 = .ok (.aload_n 0, 1) := by decide +kernel
theorem dX7_fault_48 : decode cX7_fault 48 = .ok (.getfield 114, 3) := by decide +kernel
theorem dX7_fault_51 : decode cX7_fault 51 = .ok (.bipush 8, 2) := by decide +kernel
theorem dX7_fault_53 : decode cX7_fault 53 = .ok (.iload_n 1, 1) := by decide +kernel
theorem dX7_fault_54 : decode cX7_fault 54 = .ok (.imul, 1) := by decide +kernel
theorem dX7_fault_55 : decode cX7_fault 55 = .ok (.iload_n 2, 1) := by decide +kernel
theorem dX7_fault_56 : decode cX7_fault 56 = .ok (.iadd, 1) := by decide +kernel
theorem dX7_fault_57 : decode cX7_fault 57 = .ok (.iastore, 1) := by decide +kernel
theorem dX7_fault_58 : decode cX7_fault 58 = .ok (.aload_n 0, 1) := by decide +kernel
theorem dX7_fault_59 : decode cX7_fault 59 = .ok (.dup, 1) := by decide +kernel
theorem dX7_fault_60 : decode cX7_fault 60 = .ok (.getfield 114, 3) := by decide +kernel
theorem dX7_fault_63 : decode cX7_fault 63 = .ok (.iconst 1, 1) := by decide +kernel
theorem dX7_fault_64 : decode cX7_fault 64 = .ok (.iadd, 1) := by decide +kernel
theorem dX7_fault_65 : decode cX7_fault 65 = .ok (.putfield 114, 3) := by decide +kernel
theorem dX7_fault_68 : decode cX7_fault 68 = .ok (.aload_n 0, 1) := by decide +kernel
theorem dX7_fault_69 : decode cX7_fault 69 = .ok (.getfield 114, 3) := by decide +kernel
theorem dX7_fault_72 : decode cX7_fault 72 = .ok (.ireturn, 1) := by decide +kernel
theorem dX7_doesWork_0 : decode cX7_doesWork 0 = .ok (.iconst 1, 1) := by decide +kernel
theorem dX7_doesWork_1 : decode cX7_doesWork 1 = .ok (.istore_n 2, 1) := by decide +kernel
theorem dX7_doesWork_2 : decode cX7_doesWork 2 = .ok (.iconst 0, 1) := by decide +kernel
theorem dX7_doesWork_3 : decode cX7_doesWork 3 = .ok (.istore_n 3, 1) := by decide +kernel
end
section
theorem dX7_doesWork_4 : decode cX7_doesWork 4 = .ok (.iload_n 3, 1) := by decide +kernel
theorem dX7_doesWork_5 : decode cX7_doesWork 5 = .ok (.aload_n 0, 1) := by decide +kernel
theorem dX7_doesWork_6 : decode cX7_doesWork 6 = .ok (.getfield 114, 3) := by decide +kernel
theorem dX7_doesWork_9 : decode cX7_doesWork 9 = .ok (.if_icmp .ge 32, 3) := by decide +kernel
theorem dX7_doesWork_12 : decode cX7_doesWork 12 = .ok (.iload_n 2, 1) := by decide +kernel
theorem dX7_doesWork_13 : decode cX7_doesWork 13 = .ok (.ifCond .eq 20, 3) := by decide +kernel
theorem dX7_doesWork_16 : decode cX7_doesWork 16 = .ok (.aload_n 0, 1) := by decide +kernel
theorem dX7_doesWork_17 : decode cX7_doesWork 17 = .ok (.getfield 31, 3) := by decide +kernel
theorem dX7_doesWork_20 : decode cX7_doesWork 20 = .ok (.iload_n 3, 1) := by decide +kernel
theorem dX7_doesWork_21 : decode cX7_doesWork 21 = .ok (.iaload, 1) := by decide +kernel
theorem dX7_doesWork_22 : decode cX7_doesWork 22 = .ok (.bipush 8, 2) := by decide +kernel
theorem dX7_doesWork_24 : decode cX7_doesWork 24 = .ok (.idiv, 1) := by decide +kernel
theorem dX7_doesWork_25 : decode cX7_doesWork 25 = .ok (.iload_n 1, 1) := by decide +kernel
theorem dX7_doesWork_26 : decode cX7_doesWork 26 = .ok (.if_icmp .eq 7, 3) := by decide +kernel
theorem dX7_doesWork_29 : decode cX7_doesWork 29 = .ok (.iconst 1, 1) := by decide +kernel
theorem dX7_doesWork_30 : decode cX7_doesWork 30 = .ok (.goto 4, 3) := by decide +kernel
theorem dX7_doesWork_33 : decode cX7_doesWork 33 = .ok (.iconst 0, 1) := by decide +kernel
theorem dX7_doesWork_34 : decode cX7_doesWork 34 = .ok (.istore_n 2, 1) := by decide +kernel
theorem dX7_doesWork_35 : decode cX7_doesWork 35 = .ok (.iinc 3 1, 3) := by decide +kernel
theorem dX7_doesWork_38 : decode cX7_doesWork 38 = .ok (.goto (-34), 3) := by decide +kernel
theorem dX7_doesWork_41 : decode cX7_doesWork 41 = .ok (.iload_n 2, 1) := by decide +kernel
theorem dX7_doesWork_42 : decode cX7_doesWork 42 = .ok (.ireturn, 1) := by decide +kernel
theorem dX7_ship_0 : decode cX7_ship 0 = .ok (.aload_n 0, 1) := by decide +kernel
theorem dX7_ship_1 : decode cX7_ship 1 = .ok (.iload_n 1, 1) := by decide +kernel
theorem dX7_ship_2 : decode cX7_ship 2 = .ok (.invokevirtual 111, 3) := by decide +kernel
theorem dX7_ship_5 : decode cX7_ship 5 = .ok (.istore_n 3, 1) := by decide +kernel
theorem dX7_ship_6 : decode cX7_ship 6 = .ok (.aload_n 0, 1) := by decide +kernel
theorem dX7_ship_7 : decode cX7_ship 7 = .ok (.iload_n 3, 1) := by decide +kernel
theorem dX7_ship_8 : decode cX7_ship 8 = .ok (.ifCond .ne 7, 3) := by decide +kernel
theorem dX7_ship_11 : decode cX7_ship 11 = .ok (.iconst 1, 1) := by decide +kernel
theorem dX7_ship_12 : decode cX7_ship 12 = .ok (.goto 30, 3) := by decide +kernel
theorem dX7_ship_15 : decode cX7_ship 15 = .ok (.iload_n 2, 1) := by decide +kernel
theorem dX7_ship_16 : decode cX7_ship 16 = .ok (.iconst 1, 1) := by decide +kernel
theorem dX7_ship_17 : decode cX7_ship 17 = .ok (.bipush 20, 2) := by decide +kernel
theorem dX7_ship_19 : decode cX7_ship 19 = .ok (.invokestatic 91, 3) := by decide +kernel
theorem dX7_ship_22 : decode cX7_ship 22 = .ok (.ifCond .ne 7, 3) := by decide +kernel
theorem dX7_ship_25 : decode cX7_ship 25 = .ok (.iconst 2, 1) := by decide +kernel
theorem dX7_ship_26 : decode cX7_ship 26 = .ok (.goto 16, 3) := by decide +kernel
theorem dX7_ship_29 : decode cX7_ship 29 = .ok (.aload_n 0, 1) := by decide +kernel
theorem dX7_ship_30 : decode cX7_ship 30 = .ok (.getfield 102, 3) := by decide +kernel
theorem dX7_ship_33 : decode cX7_ship 33 = .ok (.iconst 4, 1) := by decide +kernel
theorem dX7_ship_34 : decode cX7_ship 34 = .ok (.if_icmp .ne 7, 3) := by decide +kernel
theorem dX7_ship_37 : decode cX7_ship 37 = .ok (.iconst 3, 1) := by decide +kernel
theorem dX7_ship_38 : decode cX7_ship 38 = .ok (.goto 4, 3) := by decide +kernel
theorem dX7_ship_41 : decode cX7_ship 41 = .ok (.iconst 0, 1) := by decide +kernel
theorem dX7_ship_42 : decode cX7_ship 42 = .ok (.invokevirtual 108, 3) := by decide +kernel
theorem dX7_ship_45 : decode cX7_ship 45 = .ok (.ifCond .ne 5, 3) := by decide +kernel
theorem dX7_ship_48 : decode cX7_ship 48 = .ok (.iconst 0, 1) := by decide +kernel
theorem dX7_ship_49 : decode cX7_ship 49 = .ok (.ireturn, 1) := by decide +kernel
theorem dX7_ship_50 : decode cX7_ship 50 = .ok (.aload_n 0, 1) := by decide +kernel
theorem dX7_ship_51 : decode cX7_ship 51 = .ok (.getfield 34, 3) := by decide +kernel
theorem dX7_ship_54 : decode cX7_ship 54 = .ok (.aload_n 0, 1) := by decide +kernel
theorem dX7_ship_55 : decode cX7_ship 55 = .ok (.getfield 102, 3) := by decide +kernel
theorem dX7_ship_58 : decode cX7_ship 58 = .ok (.iload_n 2, 1) := by decide +kernel
theorem dX7_ship_59 : decode cX7_ship 59 = .ok (.iastore, 1) := by decide +kernel
theorem dX7_ship_60 : decode cX7_ship 60 = .ok (.aload_n 0, 1) := by decide +kernel
theorem dX7_ship_61 : decode cX7_ship 61 = .ok (.getfield 40, 3) := by decide +kernel
theorem dX7_ship_64 : decode cX7_ship 64 = .ok (.aload_n 0, 1) := by decide +kernel
theorem dX7_ship_65 : decode cX7_ship 65 = .ok (.getfield 102, 3) := by decide +kernel
theorem dX7_ship_68 : decode cX7_ship 68 = .ok (.aload_n 0, 1) := by decide +kernel
theorem dX7_ship_69 : decode cX7_ship 69 = .ok (.getfield 7, 3) := by decide +kernel
theorem dX7_ship_72 : decode cX7_ship 72 = .ok (.iload_n 1, 1) := by decide +kernel
theorem dX7_ship_73 : decode cX7_ship 73 = .ok (.iaload, 1) := by decide +kernel
theorem dX7_ship_74 : decode cX7_ship 74 = .ok (.iastore, 1) := by decide +kernel
theorem dX7_ship_75 : decode cX7_ship 75 = .ok (.aload_n 0, 1) := by decide +kernel
theorem dX7_ship_76 : decode cX7_ship 76 = .ok (.getfield 43, 3) := by decide +kernel
theorem dX7_ship_79 : decode cX7_ship 79 = .ok (.aload_n 0, 1) := by decide +kernel
theorem dX7_ship_80 : decode cX7_ship 80 = .ok (.getfield 102, 3) := by decide +kernel
theorem dX7_ship_83 : decode cX7_ship 83 = .ok (.aload_n 0, 1) := by decide +kernel
theorem dX7_ship_84 : decode cX7_ship 84 = .ok (.getfield 13, 3) := by decide +kernel
theorem dX7_ship_87 : decode cX7_ship 87 = .ok (.iload_n 1, 1) := by decide +kernel
theorem dX7_ship_88 : decode cX7_ship 88 = .ok (.iaload, 1) := by decide +kernel
theorem dX7_ship_89 : decode cX7_ship 89 = .ok (.iastore, 1) := by decide +kernel
theorem dX7_ship_90 : decode cX7_ship 90 = .ok (.aload_n 0, 1) := by decide +kernel
theorem dX7_ship_91 : decode cX7_ship 91 = .ok (.dup, 1) := by decide +kernel
theorem dX7_ship_92 : decode cX7_ship 92 = .ok (.getfield 102, 3) := by decide +kernel
theorem dX7_ship_95 : decode cX7_ship 95 = .ok (.iconst 1, 1) := by decide +kernel
theorem dX7_ship_96 : decode cX7_ship 96 = .ok (.iadd, 1) := by decide +kernel
theorem dX7_ship_97 : decode cX7_ship 97 = .ok (.putfield 102, 3) := by decide +kernel
theorem dX7_ship_100 : decode cX7_ship 100 = .ok (.aload_n 0, 1) := by decide +kernel
theorem dX7_ship_101 : decode cX7_ship 101 = .ok (.getfield 102, 3) := by decide +kernel
theorem dX7_ship_104 : decode cX7_ship 104 = .ok (.iconst 1, 1) := by decide +kernel
theorem dX7_ship_105 : decode cX7_ship 105 = .ok (.isub, 1) := by decide +kernel
theorem dX7_ship_106 : decode cX7_ship 106 = .ok (.ireturn, 1) := by decide +kernel
theorem dX7_come_0 : decode cX7_come 0 = .ok (.aload_n 0, 1) := by decide +kernel
theorem dX7_come_1 : decode cX7_come 1 = .ok (.getfield 49, 3) := by decide +kernel
theorem dX7_come_4 : decode cX7_come 4 = .ok (.iload_n 1, 1) := by decide +kernel
theorem dX7_come_5 : decode cX7_come 5 = .ok (.iaload, 1) := by decide +kernel
theorem dX7_come_6 : decode cX7_come 6 = .ok (.iconst (-1), 1) := by decide +kernel
theorem dX7_come_7 : decode cX7_come 7 = .ok (.if_icmp .eq 21, 3) := by decide +kernel
theorem dX7_come_10 : decode cX7_come 10 = .ok (.aload_n 0, 1) := by decide +kernel
theorem dX7_come_11 : decode cX7_come 11 = .ok (.aload_n 0, 1) := by decide +kernel
theorem dX7_come_12 : decode cX7_come 12 = .ok (.getfield 49, 3) := by decide +kernel
theorem dX7_come_15 : decode cX7_come 15 = .ok (.iload_n 1, 1) := by decide +kernel
theorem dX7_come_16 : decode cX7_come 16 = .ok (.iaload, 1) := by decide +kernel
theorem dX7_come_17 : decode cX7_come 17 = .ok (.invokevirtual 121, 3) := by decide +kernel
theorem dX7_come_20 : decode cX7_come 20 = .ok (.iconst (-1), 1) := by decide +kernel
theorem dX7_come_21 : decode cX7_come 21 = .ok (.if_icmp .eq 7, 3) := by decide +kernel
theorem dX7_come_24 : decode cX7_come 24 = .ok (.iconst 1, 1) := by decide +kernel
theorem dX7_come_25 : decode cX7_come 25 = .ok (.goto 4, 3) := by decide +kernel
theorem dX7_come_28 : decode cX7_come 28 = .ok (.iconst 0, 1) := by decide +kernel
theorem dX7_come_29 : decode cX7_come 29 = .ok (.istore_n 2, 1) := by decide +kernel
theorem dX7_come_30 : decode cX7_come 30 = .ok (.aload_n 0, 1) := by decide +kernel
theorem dX7_come_31 : decode cX7_come 31 = .ok (.getfield 37, 3) := by decide +kernel
theorem dX7_come_34 : decode cX7_come 34 = .ok (.iload_n 1, 1) := by decide +kernel
theorem dX7_come_35 : decode cX7_come 35 = .ok (.iload_n 2, 1) := by decide +kernel
theorem dX7_come_36 : decode cX7_come 36 = .ok (.ifCond .eq 7, 3) := by decide +kernel
theorem dX7_come_39 : decode cX7_come 39 = .ok (.iconst 2, 1) := by decide +kernel
theorem dX7_come_40 : decode cX7_come 40 = .ok (.goto 4, 3) := by decide +kernel
theorem dX7_come_43 : decode cX7_come 43 = .ok (.iconst 0, 1) := by decide +kernel
theorem dX7_come_44 : decode cX7_come 44 = .ok (.iastore, 1) := by decide +kernel
theorem dX7_come_45 : decode cX7_come 45 = .ok (.aload_n 0, 1) := by decide +kernel
theorem dX7_come_46 : decode cX7_come 46 = .ok (.getfield 46, 3) := by decide +kernel
theorem dX7_come_49 : decode cX7_come 49 = .ok (.iload_n 1, 1) := by decide +kernel
theorem dX7_come_50 : decode cX7_come 50 = .ok (.iload_n 2, 1) := by decide +kernel
theorem dX7_come_51 : decode cX7_come 51 = .ok (.ifCond .eq 8, 3) := by decide +kernel
theorem dX7_come_54 : decode cX7_come 54 = .ok (.bipush 6, 2) := by decide +kernel
theorem dX7_come_56 : decode cX7_come 56 = .ok (.goto 4, 3) := by decide +kernel
theorem dX7_come_59 : decode cX7_come 59 = .ok (.iconst 0, 1) := by decide +kernel
theorem dX7_come_60 : decode cX7_come 60 = .ok (.iastore, 1) := by decide +kernel
theorem dX7_come_61 : decode cX7_come 61 = .ok (.return_, 1) := by decide +kernel
theorem dX7_sail_0 : decode cX7_sail 0 = .ok (.iload_n 2, 1) := by decide +kernel
theorem dX7_sail_1 : decode cX7_sail 1 = .ok (.aload_n 0, 1) := by decide +kernel
theorem dX7_sail_2 : decode cX7_sail 2 = .ok (.getfield 40, 3) := by decide +kernel
theorem dX7_sail_5 : decode cX7_sail 5 = .ok (.iload_n 1, 1) := by decide +kernel
theorem dX7_sail_6 : decode cX7_sail 6 = .ok (.iaload, 1) := by decide +kernel
theorem dX7_sail_7 : decode cX7_sail 7 = .ok (.isub, 1) := by decide +kernel
theorem dX7_sail_8 : decode cX7_sail 8 = .ok (.invokestatic 125, 3) := by decide +kernel
theorem dX7_sail_11 : decode cX7_sail 11 = .ok (.iload_n 3, 1) := by decide +kernel
theorem dX7_sail_12 : decode cX7_sail 12 = .ok (.aload_n 0, 1) := by decide +kernel
theorem dX7_sail_13 : decode cX7_sail 13 = .ok (.getfield 43, 3) := by decide +kernel
theorem dX7_sail_16 : decode cX7_sail 16 = .ok (.iload_n 1, 1) := by decide +kernel
theorem dX7_sail_17 : decode cX7_sail 17 = .ok (.iaload, 1) := by decide +kernel
theorem dX7_sail_18 : decode cX7_sail 18 = .ok (.isub, 1) := by decide +kernel
theorem dX7_sail_19 : decode cX7_sail 19 = .ok (.invokestatic 125, 3) := by decide +kernel
theorem dX7_sail_22 : decode cX7_sail 22 = .ok (.iadd, 1) := by decide +kernel
theorem dX7_sail_23 : decode cX7_sail 23 = .ok (.istore 5, 2) := by decide +kernel
theorem dX7_sail_25 : decode cX7_sail 25 = .ok (.iload 5, 2) := by decide +kernel
theorem dX7_sail_27 : decode cX7_sail 27 = .ok (.aload_n 0, 1) := by decide +kernel
theorem dX7_sail_28 : decode cX7_sail 28 = .ok (.getfield 34, 3) := by decide +kernel
theorem dX7_sail_31 : decode cX7_sail 31 = .ok (.iload_n 1, 1) := by decide +kernel
theorem dX7_sail_32 : decode cX7_sail 32 = .ok (.iaload, 1) := by decide +kernel
theorem dX7_sail_33 : decode cX7_sail 33 = .ok (.iadd, 1) := by decide +kernel
theorem dX7_sail_34 : decode cX7_sail 34 = .ok (.iconst 1, 1) := by decide +kernel
theorem dX7_sail_35 : decode cX7_sail 35 = .ok (.isub, 1) := by decide +kernel
theorem dX7_sail_36 : decode cX7_sail 36 = .ok (.aload_n 0, 1) := by decide +kernel
theorem dX7_sail_37 : decode cX7_sail 37 = .ok (.getfield 34, 3) := by decide +kernel
theorem dX7_sail_40 : decode cX7_sail 40 = .ok (.iload_n 1, 1) := by decide +kernel
theorem dX7_sail_41 : decode cX7_sail 41 = .ok (.iaload, 1) := by decide +kernel
theorem dX7_sail_42 : decode cX7_sail 42 = .ok (.idiv, 1) := by decide +kernel
theorem dX7_sail_43 : decode cX7_sail 43 = .ok (.istore 6, 2) := by decide +kernel
theorem dX7_sail_45 : decode cX7_sail 45 = .ok (.aload_n 0, 1) := by decide +kernel
theorem dX7_sail_46 : decode cX7_sail 46 = .ok (.getfield 40, 3) := by decide +kernel
theorem dX7_sail_49 : decode cX7_sail 49 = .ok (.iload_n 1, 1) := by decide +kernel
theorem dX7_sail_50 : decode cX7_sail 50 = .ok (.iload_n 2, 1) := by decide +kernel
theorem dX7_sail_51 : decode cX7_sail 51 = .ok (.iastore, 1) := by decide +kernel
theorem dX7_sail_52 : decode cX7_sail 52 = .ok (.aload_n 0, 1) := by decide +kernel
theorem dX7_sail_53 : decode cX7_sail 53 = .ok (.getfield 43, 3) := by decide +kernel
theorem dX7_sail_56 : decode cX7_sail 56 = .ok (.iload_n 1, 1) := by decide +kernel
theorem dX7_sail_57 : decode cX7_sail 57 = .ok (.iload_n 3, 1) := by decide +kernel
theorem dX7_sail_58 : decode cX7_sail 58 = .ok (.iastore, 1) := by decide +kernel
theorem dX7_sail_59 : decode cX7_sail 59 = .ok (.aload_n 0, 1) := by decide +kernel
theorem dX7_sail_60 : decode cX7_sail 60 = .ok (.getfield 49, 3) := by decide +kernel
theorem dX7_sail_63 : decode cX7_sail 63 = .ok (.iload_n 1, 1) := by decide +kernel
theorem dX7_sail_64 : decode cX7_sail 64 = .ok (.iload 4, 2) := by decide +kernel
theorem dX7_sail_66 : decode cX7_sail 66 = .ok (.iastore, 1) := by decide +kernel
theorem dX7_sail_67 : decode cX7_sail 67 = .ok (.aload_n 0, 1) := by decide +kernel
theorem dX7_sail_68 : decode cX7_sail 68 = .ok (.getfield 37, 3) := by decide +kernel
theorem dX7_sail_71 : decode cX7_sail 71 = .ok (.iload_n 1, 1) := by decide +kernel
theorem dX7_sail_72 : decode cX7_sail 72 = .ok (.iconst 1, 1) := by decide +kernel
theorem dX7_sail_73 : decode cX7_sail 73 = .ok (.iastore, 1) := by decide +kernel
theorem dX7_sail_74 : decode cX7_sail 74 = .ok (.aload_n 0, 1) := by decide +kernel
theorem dX7_sail_75 : decode cX7_sail 75 = .ok (.getfield 46, 3) := by decide +kernel
theorem dX7_sail_78 : decode cX7_sail 78 = .ok (.iload_n 1, 1) := by decide +kernel
theorem dX7_sail_79 : decode cX7_sail 79 = .ok (.iload 6, 2) := by decide +kernel
theorem dX7_sail_81 : decode cX7_sail 81 = .ok (.iastore, 1) := by decide +kernel
theorem dX7_sail_82 : decode cX7_sail 82 = .ok (.iload 6, 2) := by decide +kernel
theorem dX7_sail_84 : decode cX7_sail 84 = .ok (.ifCond .ne 8, 3) := by decide +kernel
theorem dX7_sail_87 : decode cX7_sail 87 = .ok (.aload_n 0, 1) := by decide +kernel
theorem dX7_sail_88 : decode cX7_sail 88 = .ok (.iload_n 1, 1) := by decide +kernel
theorem dX7_sail_89 : decode cX7_sail 89 = .ok (.invokevirtual 128, 3) := by decide +kernel
theorem dX7_sail_92 : decode cX7_sail 92 = .ok (.iload 6, 2) := by decide +kernel
theorem dX7_sail_94 : decode cX7_sail 94 = .ok (.ireturn, 1) := by decide +kernel
theorem dX7_between_0 : decode cX7_between 0 = .ok (.iload_n 0, 1) := by decide +kernel
theorem dX7_between_1 : decode cX7_between 1 = .ok (.iconst 2, 1) := by decide +kernel
theorem dX7_between_2 : decode cX7_between 2 = .ok (.iload_n 2, 1) := by decide +kernel
theorem dX7_between_3 : decode cX7_between 3 = .ok (.imul, 1) := by decide +kernel
theorem dX7_between_4 : decode cX7_between 4 = .ok (.iconst 1, 1) := by decide +kernel
theorem dX7_between_5 : decode cX7_between 5 = .ok (.iadd, 1) := by decide +kernel
theorem dX7_between_6 : decode cX7_between 6 = .ok (.iload_n 1, 1) := by decide +kernel
theorem dX7_between_7 : decode cX7_between 7 = .ok (.iload_n 0, 1) := by decide +kernel
theorem dX7_between_8 : decode cX7_between 8 = .ok (.isub, 1) := by decide +kernel
theorem dX7_between_9 : decode cX7_between 9 = .ok (.imul, 1) := by decide +kernel
theorem dX7_between_10 : decode cX7_between 10 = .ok (.iconst 2, 1) := by decide +kernel
theorem dX7_between_11 : decode cX7_between 11 = .ok (.iload_n 3, 1) := by decide +kernel
theorem dX7_between_12 : decode cX7_between 12 = .ok (.imul, 1) := by decide +kernel
theorem dX7_between_13 : decode cX7_between 13 = .ok (.idiv, 1) := by decide +kernel
theorem dX7_between_14 : decode cX7_between 14 = .ok (.iadd, 1) := by decide +kernel
theorem dX7_between_15 : decode cX7_between 15 = .ok (.ireturn, 1) := by decide +kernel
theorem dX7_send_0 : decode cX7_send 0 = .ok (.aload_n 0, 1) := by decide +kernel
theorem dX7_send_1 : decode cX7_send 1 = .ok (.iload_n 1, 1) := by decide +kernel
theorem dX7_send_2 : decode cX7_send 2 = .ok (.invokevirtual 132, 3) := by decide +kernel
theorem dX7_send_5 : decode cX7_send 5 = .ok (.ifCond .eq 16, 3) := by decide +kernel
theorem dX7_send_8 : decode cX7_send 8 = .ok (.aload_n 0, 1) := by decide +kernel
theorem dX7_send_9 : decode cX7_send 9 = .ok (.iload_n 2, 1) := by decide +kernel
theorem dX7_send_10 : decode cX7_send 10 = .ok (.iload_n 3, 1) := by decide +kernel
theorem dX7_send_11 : decode cX7_send 11 = .ok (.invokevirtual 117, 3) := by decide +kernel
theorem dX7_send_14 : decode cX7_send 14 = .ok (.ifCond .eq 7, 3) := by decide +kernel
theorem dX7_send_17 : decode cX7_send 17 = .ok (.iconst 1, 1) := by decide +kernel
theorem dX7_send_18 : decode cX7_send 18 = .ok (.goto 4, 3) := by decide +kernel
theorem dX7_send_21 : decode cX7_send 21 = .ok (.iconst 0, 1) := by decide +kernel
theorem dX7_send_22 : decode cX7_send 22 = .ok (.istore 4, 2) := by decide +kernel
theorem dX7_send_24 : decode cX7_send 24 = .ok (.iload 4, 2) := by decide +kernel
theorem dX7_send_26 : decode cX7_send 26 = .ok (.ifCond .eq 30, 3) := by decide +kernel
theorem dX7_send_29 : decode cX7_send 29 = .ok (.aload_n 0, 1) := by decide +kernel
theorem dX7_send_30 : decode cX7_send 30 = .ok (.getfield 37, 3) := by decide +kernel
theorem dX7_send_33 : decode cX7_send 33 = .ok (.iload_n 1, 1) := by decide +kernel
theorem dX7_send_34 : decode cX7_send 34 = .ok (.iaload, 1) := by decide +kernel
theorem dX7_send_35 : decode cX7_send 35 = .ok (.ifCond .ne 21, 3) := by decide +kernel
theorem dX7_send_38 : decode cX7_send 38 = .ok (.aload_n 0, 1) := by decide +kernel
theorem dX7_send_39 : decode cX7_send 39 = .ok (.bipush 8, 2) := by decide +kernel
theorem dX7_send_41 : decode cX7_send 41 = .ok (.iload_n 2, 1) := by decide +kernel
theorem dX7_send_42 : decode cX7_send 42 = .ok (.imul, 1) := by decide +kernel
theorem dX7_send_43 : decode cX7_send 43 = .ok (.iload_n 3, 1) := by decide +kernel
theorem dX7_send_44 : decode cX7_send 44 = .ok (.iadd, 1) := by decide +kernel
theorem dX7_send_45 : decode cX7_send 45 = .ok (.invokevirtual 121, 3) := by decide +kernel
theorem dX7_send_48 : decode cX7_send 48 = .ok (.iconst (-1), 1) := by decide +kernel
theorem dX7_send_49 : decode cX7_send 49 = .ok (.if_icmp .eq 7, 3) := by decide +kernel
theorem dX7_send_52 : decode cX7_send 52 = .ok (.iconst 1, 1) := by decide +kernel
theorem dX7_send_53 : decode cX7_send 53 = .ok (.goto 4, 3) := by decide +kernel
theorem dX7_send_56 : decode cX7_send 56 = .ok (.iconst 0, 1) := by decide +kernel
theorem dX7_send_57 : decode cX7_send 57 = .ok (.istore 5, 2) := by decide +kernel
theorem dX7_send_59 : decode cX7_send 59 = .ok (.aload_n 0, 1) := by decide +kernel
theorem dX7_send_60 : decode cX7_send 60 = .ok (.iload 4, 2) := by decide +kernel
theorem dX7_send_62 : decode cX7_send 62 = .ok (.ifCond .ne 7, 3) := by decide +kernel
theorem dX7_send_65 : decode cX7_send 65 = .ok (.iconst 1, 1) := by decide +kernel
theorem dX7_send_66 : decode cX7_send 66 = .ok (.goto 13, 3) := by decide +kernel
theorem dX7_send_69 : decode cX7_send 69 = .ok (.iload 5, 2) := by decide +kernel
theorem dX7_send_71 : decode cX7_send 71 = .ok (.ifCond .eq 7, 3) := by decide +kernel
theorem dX7_send_74 : decode cX7_send 74 = .ok (.iconst 0, 1) := by decide +kernel
theorem dX7_send_75 : decode cX7_send 75 = .ok (.goto 4, 3) := by decide +kernel
theorem dX7_send_78 : decode cX7_send 78 = .ok (.iconst 2, 1) := by decide +kernel
theorem dX7_send_79 : decode cX7_send 79 = .ok (.invokevirtual 108, 3) := by decide +kernel
theorem dX7_send_82 : decode cX7_send 82 = .ok (.ifCond .ne 5, 3) := by decide +kernel
theorem dX7_send_85 : decode cX7_send 85 = .ok (.iconst 0, 1) := by decide +kernel
theorem dX7_send_86 : decode cX7_send 86 = .ok (.ireturn, 1) := by decide +kernel
theorem dX7_send_87 : decode cX7_send 87 = .ok (.aload_n 0, 1) := by decide +kernel
theorem dX7_send_88 : decode cX7_send 88 = .ok (.iload_n 1, 1) := by decide +kernel
theorem dX7_send_89 : decode cX7_send 89 = .ok (.aload_n 0, 1) := by decide +kernel
theorem dX7_send_90 : decode cX7_send 90 = .ok (.getfield 7, 3) := by decide +kernel
theorem dX7_send_93 : decode cX7_send 93 = .ok (.aload_n 0, 1) := by decide +kernel
theorem dX7_send_94 : decode cX7_send 94 = .ok (.getfield 16, 3) := by decide +kernel
theorem dX7_send_97 : decode cX7_send 97 = .ok (.iload_n 2, 1) := by decide +kernel
theorem dX7_send_98 : decode cX7_send 98 = .ok (.iaload, 1) := by decide +kernel
theorem dX7_send_99 : decode cX7_send 99 = .ok (.iaload, 1) := by decide +kernel
theorem dX7_send_100 : decode cX7_send 100 = .ok (.aload_n 0, 1) := by decide +kernel
theorem dX7_send_101 : decode cX7_send 101 = .ok (.getfield 7, 3) := by decide +kernel
theorem dX7_send_104 : decode cX7_send 104 = .ok (.aload_n 0, 1) := by decide +kernel
theorem dX7_send_105 : decode cX7_send 105 = .ok (.getfield 19, 3) := by decide +kernel
theorem dX7_send_108 : decode cX7_send 108 = .ok (.iload_n 2, 1) := by decide +kernel
theorem dX7_send_109 : decode cX7_send 109 = .ok (.iaload, 1) := by decide +kernel
theorem dX7_send_110 : decode cX7_send 110 = .ok (.iaload, 1) := by decide +kernel
theorem dX7_send_111 : decode cX7_send 111 = .ok (.iload_n 3, 1) := by decide +kernel
theorem dX7_send_112 : decode cX7_send 112 = .ok (.aload_n 0, 1) := by decide +kernel
theorem dX7_send_113 : decode cX7_send 113 = .ok (.getfield 22, 3) := by decide +kernel
theorem dX7_send_116 : decode cX7_send 116 = .ok (.iload_n 2, 1) := by decide +kernel
theorem dX7_send_117 : decode cX7_send 117 = .ok (.iaload, 1) := by decide +kernel
theorem dX7_send_118 : decode cX7_send 118 = .ok (.invokestatic 135, 3) := by decide +kernel
theorem dX7_send_121 : decode cX7_send 121 = .ok (.aload_n 0, 1) := by decide +kernel
theorem dX7_send_122 : decode cX7_send 122 = .ok (.getfield 13, 3) := by decide +kernel
theorem dX7_send_125 : decode cX7_send 125 = .ok (.aload_n 0, 1) := by decide +kernel
theorem dX7_send_126 : decode cX7_send 126 = .ok (.getfield 16, 3) := by decide +kernel
theorem dX7_send_129 : decode cX7_send 129 = .ok (.iload_n 2, 1) := by decide +kernel
theorem dX7_send_130 : decode cX7_send 130 = .ok (.iaload, 1) := by decide +kernel
theorem dX7_send_131 : decode cX7_send 131 = .ok (.iaload, 1) := by decide +kernel
theorem dX7_send_132 : decode cX7_send 132 = .ok (.aload_n 0, 1) := by decide +kernel
theorem dX7_send_133 : decode cX7_send 133 = .ok (.getfield 13, 3) := by decide +kernel
theorem dX7_send_136 : decode cX7_send 136 = .ok (.aload_n 0, 1) := by decide +kernel
theorem dX7_send_137 : decode cX7_send 137 = .ok (.getfield 19, 3) := by decide +kernel
theorem dX7_send_140 : decode cX7_send 140 = .ok (.iload_n 2, 1) := by decide +kernel
theorem dX7_send_141 : decode cX7_send 141 = .ok (.iaload, 1) := by decide +kernel
theorem dX7_send_142 : decode cX7_send 142 = .ok (.iaload, 1) := by decide +kernel
theorem dX7_send_143 : decode cX7_send 143 = .ok (.iload_n 3, 1) := by decide +kernel
theorem dX7_send_144 : decode cX7_send 144 = .ok (.aload_n 0, 1) := by decide +kernel
theorem dX7_send_145 : decode cX7_send 145 = .ok (.getfield 22, 3) := by decide +kernel
theorem dX7_send_148 : decode cX7_send 148 = .ok (.iload_n 2, 1) := by decide +kernel
theorem dX7_send_149 : decode cX7_send 149 = .ok (.iaload, 1) := by decide +kernel
theorem dX7_send_150 : decode cX7_send 150 = .ok (.invokestatic 135, 3) := by decide +kernel
theorem dX7_send_153 : decode cX7_send 153 = .ok (.bipush 8, 2) := by decide +kernel
theorem dX7_send_155 : decode cX7_send 155 = .ok (.iload_n 2, 1) := by decide +kernel
theorem dX7_send_156 : decode cX7_send 156 = .ok (.imul, 1) := by decide +kernel
theorem dX7_send_157 : decode cX7_send 157 = .ok (.iload_n 3, 1) := by decide +kernel
theorem dX7_send_158 : decode cX7_send 158 = .ok (.iadd, 1) := by decide +kernel
theorem dX7_send_159 : decode cX7_send 159 = .ok (.invokevirtual 139, 3) := by decide +kernel
theorem dX7_send_162 : decode cX7_send 162 = .ok (.ireturn, 1) := by decide +kernel
theorem dX7_home_0 : decode cX7_home 0 = .ok (.aload_n 0, 1) := by decide +kernel
theorem dX7_home_1 : decode cX7_home 1 = .ok (.iload_n 1, 1) := by decide +kernel
theorem dX7_home_2 : decode cX7_home 2 = .ok (.invokevirtual 132, 3) := by decide +kernel
theorem dX7_home_5 : decode cX7_home 5 = .ok (.ifCond .eq 15, 3) := by decide +kernel
theorem dX7_home_8 : decode cX7_home 8 = .ok (.aload_n 0, 1) := by decide +kernel
theorem dX7_home_9 : decode cX7_home 9 = .ok (.iload_n 2, 1) := by decide +kernel
theorem dX7_home_10 : decode cX7_home 10 = .ok (.invokevirtual 111, 3) := by decide +kernel
theorem dX7_home_13 : decode cX7_home 13 = .ok (.ifCond .eq 7, 3) := by decide +kernel
theorem dX7_home_16 : decode cX7_home 16 = .ok (.iconst 1, 1) := by decide +kernel
theorem dX7_home_17 : decode cX7_home 17 = .ok (.goto 4, 3) := by decide +kernel
theorem dX7_home_20 : decode cX7_home 20 = .ok (.iconst 0, 1) := by decide +kernel
theorem dX7_home_21 : decode cX7_home 21 = .ok (.istore_n 3, 1) := by decide +kernel
theorem dX7_home_22 : decode cX7_home 22 = .ok (.aload_n 0, 1) := by decide +kernel
theorem dX7_home_23 : decode cX7_home 23 = .ok (.iload_n 3, 1) := by decide +kernel
theorem dX7_home_24 : decode cX7_home 24 = .ok (.ifCond .ne 7, 3) := by decide +kernel
theorem dX7_home_27 : decode cX7_home 27 = .ok (.iconst 1, 1) := by decide +kernel
theorem dX7_home_28 : decode cX7_home 28 = .ok (.goto 17, 3) := by decide +kernel
theorem dX7_home_31 : decode cX7_home 31 = .ok (.aload_n 0, 1) := by decide +kernel
theorem dX7_home_32 : decode cX7_home 32 = .ok (.getfield 37, 3) := by decide +kernel
theorem dX7_home_35 : decode cX7_home 35 = .ok (.iload_n 1, 1) := by decide +kernel
theorem dX7_home_36 : decode cX7_home 36 = .ok (.iaload, 1) := by decide +kernel
theorem dX7_home_37 : decode cX7_home 37 = .ok (.ifCond .ne 7, 3) := by decide +kernel
theorem dX7_home_40 : decode cX7_home 40 = .ok (.iconst 0, 1) := by decide +kernel
theorem dX7_home_41 : decode cX7_home 41 = .ok (.goto 4, 3) := by decide +kernel
theorem dX7_home_44 : decode cX7_home 44 = .ok (.iconst 2, 1) := by decide +kernel
theorem dX7_home_45 : decode cX7_home 45 = .ok (.invokevirtual 108, 3) := by decide +kernel
theorem dX7_home_48 : decode cX7_home 48 = .ok (.ifCond .ne 5, 3) := by decide +kernel
theorem dX7_home_51 : decode cX7_home 51 = .ok (.iconst 0, 1) := by decide +kernel
theorem dX7_home_52 : decode cX7_home 52 = .ok (.ireturn, 1) := by decide +kernel
theorem dX7_home_53 : decode cX7_home 53 = .ok (.aload_n 0, 1) := by decide +kernel
theorem dX7_home_54 : decode cX7_home 54 = .ok (.iload_n 1, 1) := by decide +kernel
theorem dX7_home_55 : decode cX7_home 55 = .ok (.aload_n 0, 1) := by decide +kernel
theorem dX7_home_56 : decode cX7_home 56 = .ok (.getfield 7, 3) := by decide +kernel
theorem dX7_home_59 : decode cX7_home 59 = .ok (.iload_n 2, 1) := by decide +kernel
theorem dX7_home_60 : decode cX7_home 60 = .ok (.iaload, 1) := by decide +kernel
theorem dX7_home_61 : decode cX7_home 61 = .ok (.aload_n 0, 1) := by decide +kernel
theorem dX7_home_62 : decode cX7_home 62 = .ok (.getfield 13, 3) := by decide +kernel
theorem dX7_home_65 : decode cX7_home 65 = .ok (.iload_n 2, 1) := by decide +kernel
theorem dX7_home_66 : decode cX7_home 66 = .ok (.iaload, 1) := by decide +kernel
theorem dX7_home_67 : decode cX7_home 67 = .ok (.iconst (-1), 1) := by decide +kernel
theorem dX7_home_68 : decode cX7_home 68 = .ok (.invokevirtual 139, 3) := by decide +kernel
theorem dX7_home_71 : decode cX7_home 71 = .ok (.ireturn, 1) := by decide +kernel
theorem dX7_mend_0 : decode cX7_mend 0 = .ok (.aload_n 0, 1) := by decide +kernel
theorem dX7_mend_1 : decode cX7_mend 1 = .ok (.aload_n 0, 1) := by decide +kernel
theorem dX7_mend_2 : decode cX7_mend 2 = .ok (.getfield 49, 3) := by decide +kernel
theorem dX7_mend_5 : decode cX7_mend 5 = .ok (.iload_n 1, 1) := by decide +kernel
theorem dX7_mend_6 : decode cX7_mend 6 = .ok (.iaload, 1) := by decide +kernel
theorem dX7_mend_7 : decode cX7_mend 7 = .ok (.invokevirtual 121, 3) := by decide +kernel
theorem dX7_mend_10 : decode cX7_mend 10 = .ok (.istore_n 2, 1) := by decide +kernel
theorem dX7_mend_11 : decode cX7_mend 11 = .ok (.iload_n 2, 1) := by decide +kernel
theorem dX7_mend_12 : decode cX7_mend 12 = .ok (.iconst (-1), 1) := by decide +kernel
theorem dX7_mend_13 : decode cX7_mend 13 = .ok (.if_icmp .eq 53, 3) := by decide +kernel
theorem dX7_mend_16 : decode cX7_mend 16 = .ok (.aload_n 0, 1) := by decide +kernel
theorem dX7_mend_17 : decode cX7_mend 17 = .ok (.dup, 1) := by decide +kernel
theorem dX7_mend_18 : decode cX7_mend 18 = .ok (.getfield 114, 3) := by decide +kernel
theorem dX7_mend_21 : decode cX7_mend 21 = .ok (.iconst 1, 1) := by decide +kernel
theorem dX7_mend_22 : decode cX7_mend 22 = .ok (.isub, 1) := by decide +kernel
theorem dX7_mend_23 : decode cX7_mend 23 = .ok (.putfield 114, 3) := by decide +kernel
theorem dX7_mend_26 : decode cX7_mend 26 = .ok (.iload_n 2, 1) := by decide +kernel
theorem dX7_mend_27 : decode cX7_mend 27 = .ok (.istore_n 3, 1) := by decide +kernel
theorem dX7_mend_28 : decode cX7_mend 28 = .ok (.iload_n 3, 1) := by decide +kernel
theorem dX7_mend_29 : decode cX7_mend 29 = .ok (.aload_n 0, 1) := by decide +kernel
theorem dX7_mend_30 : decode cX7_mend 30 = .ok (.getfield 114, 3) := by decide +kernel
theorem dX7_mend_33 : decode cX7_mend 33 = .ok (.if_icmp .ge 23, 3) := by decide +kernel
theorem dX7_mend_36 : decode cX7_mend 36 = .ok (.aload_n 0, 1) := by decide +kernel
theorem dX7_mend_37 : decode cX7_mend 37 = .ok (.getfield 31, 3) := by decide +kernel
theorem dX7_mend_40 : decode cX7_mend 40 = .ok (.iload_n 3, 1) := by decide +kernel
theorem dX7_mend_41 : decode cX7_mend 41 = .ok (.aload_n 0, 1) := by decide +kernel
theorem dX7_mend_42 : decode cX7_mend 42 = .ok (.getfield 31, 3) := by decide +kernel
theorem dX7_mend_45 : decode cX7_mend 45 = .ok (.iload_n 3, 1) := by decide +kernel
theorem dX7_mend_46 : decode cX7_mend 46 = .ok (.iconst 1, 1) := by decide +kernel
theorem dX7_mend_47 : decode cX7_mend 47 = .ok (.iadd, 1) := by decide +kernel
theorem dX7_mend_48 : decode cX7_mend 48 = .ok (.iaload, 1) := by decide +kernel
theorem dX7_mend_49 : decode cX7_mend 49 = .ok (.iastore, 1) := by decide +kernel
theorem dX7_mend_50 : decode cX7_mend 50 = .ok (.iinc 3 1, 3) := by decide +kernel
theorem dX7_mend_53 : decode cX7_mend 53 = .ok (.goto (-25), 3) := by decide +kernel
theorem dX7_mend_56 : decode cX7_mend 56 = .ok (.aload_n 0, 1) := by decide +kernel
theorem dX7_mend_57 : decode cX7_mend 57 = .ok (.getfield 52, 3) := by decide +kernel
theorem dX7_mend_60 : decode cX7_mend 60 = .ok (.iload_n 1, 1) := by decide +kernel
theorem dX7_mend_61 : decode cX7_mend 61 = .ok (.dup2, 1) := by decide +kernel
theorem dX7_mend_62 : decode cX7_mend 62 = .ok (.iaload, 1) := by decide +kernel
theorem dX7_mend_63 : decode cX7_mend 63 = .ok (.iconst 1, 1) := by decide +kernel
theorem dX7_mend_64 : decode cX7_mend 64 = .ok (.iadd, 1) := by decide +kernel
theorem dX7_mend_65 : decode cX7_mend 65 = .ok (.iastore, 1) := by decide +kernel
theorem dX7_mend_66 : decode cX7_mend 66 = .ok (.aload_n 0, 1) := by decide +kernel
theorem dX7_mend_67 : decode cX7_mend 67 = .ok (.getfield 37, 3) := by decide +kernel
theorem dX7_mend_70 : decode cX7_mend 70 = .ok (.iload_n 1, 1) := by decide +kernel
theorem dX7_mend_71 : decode cX7_mend 71 = .ok (.iconst 0, 1) := by decide +kernel
theorem dX7_mend_72 : decode cX7_mend 72 = .ok (.iastore, 1) := by decide +kernel
theorem dX7_mend_73 : decode cX7_mend 73 = .ok (.return_, 1) := by decide +kernel
theorem dX7_goOn_0 : decode cX7_goOn 0 = .ok (.aload_n 0, 1) := by decide +kernel
theorem dX7_goOn_1 : decode cX7_goOn 1 = .ok (.getfield 46, 3) := by decide +kernel
theorem dX7_goOn_4 : decode cX7_goOn 4 = .ok (.iload_n 1, 1) := by decide +kernel
theorem dX7_goOn_5 : decode cX7_goOn 5 = .ok (.dup2, 1) := by decide +kernel
theorem dX7_goOn_6 : decode cX7_goOn 6 = .ok (.iaload, 1) := by decide +kernel
theorem dX7_goOn_7 : decode cX7_goOn 7 = .ok (.iconst 1, 1) := by decide +kernel
theorem dX7_goOn_8 : decode cX7_goOn 8 = .ok (.isub, 1) := by decide +kernel
theorem dX7_goOn_9 : decode cX7_goOn 9 = .ok (.iastore, 1) := by decide +kernel
theorem dX7_goOn_10 : decode cX7_goOn 10 = .ok (.aload_n 0, 1) := by decide +kernel
theorem dX7_goOn_11 : decode cX7_goOn 11 = .ok (.getfield 46, 3) := by decide +kernel
theorem dX7_goOn_14 : decode cX7_goOn 14 = .ok (.iload_n 1, 1) := by decide +kernel
theorem dX7_goOn_15 : decode cX7_goOn 15 = .ok (.iaload, 1) := by decide +kernel
theorem dX7_goOn_16 : decode cX7_goOn 16 = .ok (.ifCond .le 4, 3) := by decide +kernel
theorem dX7_goOn_19 : decode cX7_goOn 19 = .ok (.return_, 1) := by decide +kernel
theorem dX7_goOn_20 : decode cX7_goOn 20 = .ok (.aload_n 0, 1) := by decide +kernel
theorem dX7_goOn_21 : decode cX7_goOn 21 = .ok (.getfield 37, 3) := by decide +kernel
theorem dX7_goOn_24 : decode cX7_goOn 24 = .ok (.iload_n 1, 1) := by decide +kernel
theorem dX7_goOn_25 : decode cX7_goOn 25 = .ok (.iaload, 1) := by decide +kernel
theorem dX7_goOn_26 : decode cX7_goOn 26 = .ok (.iconst 1, 1) := by decide +kernel
theorem dX7_goOn_27 : decode cX7_goOn 27 = .ok (.if_icmp .ne 11, 3) := by decide +kernel
theorem dX7_goOn_30 : decode cX7_goOn 30 = .ok (.aload_n 0, 1) := by decide +kernel
theorem dX7_goOn_31 : decode cX7_goOn 31 = .ok (.iload_n 1, 1) := by decide +kernel
theorem dX7_goOn_32 : decode cX7_goOn 32 = .ok (.invokevirtual 128, 3) := by decide +kernel
theorem dX7_goOn_35 : decode cX7_goOn 35 = .ok (.goto 35, 3) := by decide +kernel
theorem dX7_goOn_38 : decode cX7_goOn 38 = .ok (.aload_n 0, 1) := by decide +kernel
theorem dX7_goOn_39 : decode cX7_goOn 39 = .ok (.getfield 37, 3) := by decide +kernel
theorem dX7_goOn_42 : decode cX7_goOn 42 = .ok (.iload_n 1, 1) := by decide +kernel
theorem dX7_goOn_43 : decode cX7_goOn 43 = .ok (.iaload, 1) := by decide +kernel
theorem dX7_goOn_44 : decode cX7_goOn 44 = .ok (.iconst 2, 1) := by decide +kernel
theorem dX7_goOn_45 : decode cX7_goOn 45 = .ok (.if_icmp .ne 20, 3) := by decide +kernel
theorem dX7_goOn_48 : decode cX7_goOn 48 = .ok (.aload_n 0, 1) := by decide +kernel
theorem dX7_goOn_49 : decode cX7_goOn 49 = .ok (.getfield 37, 3) := by decide +kernel
theorem dX7_goOn_52 : decode cX7_goOn 52 = .ok (.iload_n 1, 1) := by decide +kernel
theorem dX7_goOn_53 : decode cX7_goOn 53 = .ok (.iconst 3, 1) := by decide +kernel
theorem dX7_goOn_54 : decode cX7_goOn 54 = .ok (.iastore, 1) := by decide +kernel
theorem dX7_goOn_55 : decode cX7_goOn 55 = .ok (.aload_n 0, 1) := by decide +kernel
theorem dX7_goOn_56 : decode cX7_goOn 56 = .ok (.getfield 46, 3) := by decide +kernel
theorem dX7_goOn_59 : decode cX7_goOn 59 = .ok (.iload_n 1, 1) := by decide +kernel
theorem dX7_goOn_60 : decode cX7_goOn 60 = .ok (.iconst 2, 1) := by decide +kernel
theorem dX7_goOn_61 : decode cX7_goOn 61 = .ok (.iastore, 1) := by decide +kernel
theorem dX7_goOn_62 : decode cX7_goOn 62 = .ok (.goto 8, 3) := by decide +kernel
theorem dX7_goOn_65 : decode cX7_goOn 65 = .ok (.aload_n 0, 1) := by decide +kernel
theorem dX7_goOn_66 : decode cX7_goOn 66 = .ok (.iload_n 1, 1) := by decide +kernel
theorem dX7_goOn_67 : decode cX7_goOn 67 = .ok (.invokevirtual 142, 3) := by decide +kernel
theorem dX7_goOn_70 : decode cX7_goOn 70 = .ok (.return_, 1) := by decide +kernel
end
section
theorem dX7_trader_0 : decode cX7_trader 0 = .ok (.aload_n 0, 1) := by decide +kernel
theorem dX7_trader_1 : decode cX7_trader 1 = .ok (.iload_n 1, 1) := by decide +kernel
theorem dX7_trader_2 : decode cX7_trader 2 = .ok (.invokevirtual 111, 3) := by decide +kernel
theorem dX7_trader_5 : decode cX7_trader 5 = .ok (.ifCond .eq 15, 3) := by decide +kernel
theorem dX7_trader_8 : decode cX7_trader 8 = .ok (.aload_n 0, 1) := by decide +kernel
theorem dX7_trader_9 : decode cX7_trader 9 = .ok (.iload_n 2, 1) := by decide +kernel
theorem dX7_trader_10 : decode cX7_trader 10 = .ok (.invokevirtual 111, 3) := by decide +kernel
theorem dX7_trader_13 : decode cX7_trader 13 = .ok (.ifCond .eq 7, 3) := by decide +kernel
theorem dX7_trader_16 : decode cX7_trader 16 = .ok (.iconst 1, 1) := by decide +kernel
theorem dX7_trader_17 : decode cX7_trader 17 = .ok (.goto 4, 3) := by decide +kernel
theorem dX7_trader_20 : decode cX7_trader 20 = .ok (.iconst 0, 1) := by decide +kernel
theorem dX7_trader_21 : decode cX7_trader 21 = .ok (.istore 7, 2) := by decide +kernel
theorem dX7_trader_23 : decode cX7_trader 23 = .ok (.iload_n 1, 1) := by decide +kernel
theorem dX7_trader_24 : decode cX7_trader 24 = .ok (.iload_n 2, 1) := by decide +kernel
theorem dX7_trader_25 : decode cX7_trader 25 = .ok (.if_icmp .eq 53, 3) := by decide +kernel
theorem dX7_trader_28 : decode cX7_trader 28 = .ok (.iload_n 3, 1) := by decide +kernel
theorem dX7_trader_29 : decode cX7_trader 29 = .ok (.iconst 1, 1) := by decide +kernel
theorem dX7_trader_30 : decode cX7_trader 30 = .ok (.sipush 5000, 3) := by decide +kernel
theorem dX7_trader_33 : decode cX7_trader 33 = .ok (.invokestatic 91, 3) := by decide +kernel
theorem dX7_trader_36 : decode cX7_trader 36 = .ok (.ifCond .eq 42, 3) := by decide +kernel
theorem dX7_trader_39 : decode cX7_trader 39 = .ok (.iload 4, 2) := by decide +kernel
theorem dX7_trader_41 : decode cX7_trader 41 = .ok (.iconst 0, 1) := by decide +kernel
theorem dX7_trader_42 : decode cX7_trader 42 = .ok (.sipush 9999, 3) := by decide +kernel
theorem dX7_trader_45 : decode cX7_trader 45 = .ok (.invokestatic 91, 3) := by decide +kernel
theorem dX7_trader_48 : decode cX7_trader 48 = .ok (.ifCond .eq 30, 3) := by decide +kernel
theorem dX7_trader_51 : decode cX7_trader 51 = .ok (.iload 5, 2) := by decide +kernel
theorem dX7_trader_53 : decode cX7_trader 53 = .ok (.iconst 0, 1) := by decide +kernel
theorem dX7_trader_54 : decode cX7_trader 54 = .ok (.sipush 9999, 3) := by decide +kernel
theorem dX7_trader_57 : decode cX7_trader 57 = .ok (.invokestatic 91, 3) := by decide +kernel
theorem dX7_trader_60 : decode cX7_trader 60 = .ok (.ifCond .eq 18, 3) := by decide +kernel
theorem dX7_trader_63 : decode cX7_trader 63 = .ok (.iload 6, 2) := by decide +kernel
theorem dX7_trader_65 : decode cX7_trader 65 = .ok (.iconst 0, 1) := by decide +kernel
theorem dX7_trader_66 : decode cX7_trader 66 = .ok (.ldc 145, 2) := by decide +kernel
theorem dX7_trader_68 : decode cX7_trader 68 = .ok (.invokestatic 91, 3) := by decide +kernel
theorem dX7_trader_71 : decode cX7_trader 71 = .ok (.ifCond .eq 7, 3) := by decide +kernel
theorem dX7_trader_74 : decode cX7_trader 74 = .ok (.iconst 1, 1) := by decide +kernel
theorem dX7_trader_75 : decode cX7_trader 75 = .ok (.goto 4, 3) := by decide +kernel
theorem dX7_trader_78 : decode cX7_trader 78 = .ok (.iconst 0, 1) := by decide +kernel
theorem dX7_trader_79 : decode cX7_trader 79 = .ok (.istore 8, 2) := by decide +kernel
theorem dX7_trader_81 : decode cX7_trader 81 = .ok (.aload_n 0, 1) := by decide +kernel
theorem dX7_trader_82 : decode cX7_trader 82 = .ok (.iload 7, 2) := by decide +kernel
theorem dX7_trader_84 : decode cX7_trader 84 = .ok (.ifCond .ne 7, 3) := by decide +kernel
theorem dX7_trader_87 : decode cX7_trader 87 = .ok (.iconst 1, 1) := by decide +kernel
theorem dX7_trader_88 : decode cX7_trader 88 = .ok (.goto 26, 3) := by decide +kernel
theorem dX7_trader_91 : decode cX7_trader 91 = .ok (.iload 8, 2) := by decide +kernel
theorem dX7_trader_93 : decode cX7_trader 93 = .ok (.ifCond .ne 7, 3) := by decide +kernel
theorem dX7_trader_96 : decode cX7_trader 96 = .ok (.iconst 2, 1) := by decide +kernel
theorem dX7_trader_97 : decode cX7_trader 97 = .ok (.goto 17, 3) := by decide +kernel
theorem dX7_trader_100 : decode cX7_trader 100 = .ok (.aload_n 0, 1) := by decide +kernel
theorem dX7_trader_101 : decode cX7_trader 101 = .ok (.getfield 105, 3) := by decide +kernel
theorem dX7_trader_104 : decode cX7_trader 104 = .ok (.bipush 12, 2) := by decide +kernel
theorem dX7_trader_106 : decode cX7_trader 106 = .ok (.if_icmp .ne 7, 3) := by decide +kernel
theorem dX7_trader_109 : decode cX7_trader 109 = .ok (.iconst 3, 1) := by decide +kernel
theorem dX7_trader_110 : decode cX7_trader 110 = .ok (.goto 4, 3) := by decide +kernel
theorem dX7_trader_113 : decode cX7_trader 113 = .ok (.iconst 0, 1) := by decide +kernel
theorem dX7_trader_114 : decode cX7_trader 114 = .ok (.invokevirtual 108, 3) := by decide +kernel
theorem dX7_trader_117 : decode cX7_trader 117 = .ok (.ifCond .ne 5, 3) := by decide +kernel
theorem dX7_trader_120 : decode cX7_trader 120 = .ok (.iconst 0, 1) := by decide +kernel
theorem dX7_trader_121 : decode cX7_trader 121 = .ok (.ireturn, 1) := by decide +kernel
theorem dX7_trader_122 : decode cX7_trader 122 = .ok (.aload_n 0, 1) := by decide +kernel
theorem dX7_trader_123 : decode cX7_trader 123 = .ok (.getfield 55, 3) := by decide +kernel
theorem dX7_trader_126 : decode cX7_trader 126 = .ok (.aload_n 0, 1) := by decide +kernel
theorem dX7_trader_127 : decode cX7_trader 127 = .ok (.getfield 105, 3) := by decide +kernel
theorem dX7_trader_130 : decode cX7_trader 130 = .ok (.iload_n 1, 1) := by decide +kernel
theorem dX7_trader_131 : decode cX7_trader 131 = .ok (.iastore, 1) := by decide +kernel
theorem dX7_trader_132 : decode cX7_trader 132 = .ok (.aload_n 0, 1) := by decide +kernel
theorem dX7_trader_133 : decode cX7_trader 133 = .ok (.getfield 58, 3) := by decide +kernel
theorem dX7_trader_136 : decode cX7_trader 136 = .ok (.aload_n 0, 1) := by decide +kernel
theorem dX7_trader_137 : decode cX7_trader 137 = .ok (.getfield 105, 3) := by decide +kernel
theorem dX7_trader_140 : decode cX7_trader 140 = .ok (.iload_n 2, 1) := by decide +kernel
theorem dX7_trader_141 : decode cX7_trader 141 = .ok (.iastore, 1) := by decide +kernel
theorem dX7_trader_142 : decode cX7_trader 142 = .ok (.aload_n 0, 1) := by decide +kernel
theorem dX7_trader_143 : decode cX7_trader 143 = .ok (.getfield 61, 3) := by decide +kernel
theorem dX7_trader_146 : decode cX7_trader 146 = .ok (.aload_n 0, 1) := by decide +kernel
theorem dX7_trader_147 : decode cX7_trader 147 = .ok (.getfield 105, 3) := by decide +kernel
theorem dX7_trader_150 : decode cX7_trader 150 = .ok (.iload_n 3, 1) := by decide +kernel
theorem dX7_trader_151 : decode cX7_trader 151 = .ok (.iastore, 1) := by decide +kernel
theorem dX7_trader_152 : decode cX7_trader 152 = .ok (.aload_n 0, 1) := by decide +kernel
theorem dX7_trader_153 : decode cX7_trader 153 = .ok (.getfield 64, 3) := by decide +kernel
theorem dX7_trader_156 : decode cX7_trader 156 = .ok (.aload_n 0, 1) := by decide +kernel
theorem dX7_trader_157 : decode cX7_trader 157 = .ok (.getfield 105, 3) := by decide +kernel
theorem dX7_trader_160 : decode cX7_trader 160 = .ok (.iload 4, 2) := by decide +kernel
theorem dX7_trader_162 : decode cX7_trader 162 = .ok (.iastore, 1) := by decide +kernel
theorem dX7_trader_163 : decode cX7_trader 163 = .ok (.aload_n 0, 1) := by decide +kernel
theorem dX7_trader_164 : decode cX7_trader 164 = .ok (.getfield 67, 3) := by decide +kernel
theorem dX7_trader_167 : decode cX7_trader 167 = .ok (.aload_n 0, 1) := by decide +kernel
theorem dX7_trader_168 : decode cX7_trader 168 = .ok (.getfield 105, 3) := by decide +kernel
theorem dX7_trader_171 : decode cX7_trader 171 = .ok (.iload 5, 2) := by decide +kernel
theorem dX7_trader_173 : decode cX7_trader 173 = .ok (.iastore, 1) := by decide +kernel
theorem dX7_trader_174 : decode cX7_trader 174 = .ok (.aload_n 0, 1) := by decide +kernel
theorem dX7_trader_175 : decode cX7_trader 175 = .ok (.getfield 70, 3) := by decide +kernel
theorem dX7_trader_178 : decode cX7_trader 178 = .ok (.aload_n 0, 1) := by decide +kernel
theorem dX7_trader_179 : decode cX7_trader 179 = .ok (.getfield 105, 3) := by decide +kernel
theorem dX7_trader_182 : decode cX7_trader 182 = .ok (.iload 6, 2) := by decide +kernel
theorem dX7_trader_184 : decode cX7_trader 184 = .ok (.iastore, 1) := by decide +kernel
theorem dX7_trader_185 : decode cX7_trader 185 = .ok (.aload_n 0, 1) := by decide +kernel
theorem dX7_trader_186 : decode cX7_trader 186 = .ok (.dup, 1) := by decide +kernel
theorem dX7_trader_187 : decode cX7_trader 187 = .ok (.getfield 105, 3) := by decide +kernel
theorem dX7_trader_190 : decode cX7_trader 190 = .ok (.iconst 1, 1) := by decide +kernel
theorem dX7_trader_191 : decode cX7_trader 191 = .ok (.iadd, 1) := by decide +kernel
theorem dX7_trader_192 : decode cX7_trader 192 = .ok (.putfield 105, 3) := by decide +kernel
theorem dX7_trader_195 : decode cX7_trader 195 = .ok (.aload_n 0, 1) := by decide +kernel
theorem dX7_trader_196 : decode cX7_trader 196 = .ok (.getfield 105, 3) := by decide +kernel
theorem dX7_trader_199 : decode cX7_trader 199 = .ok (.iconst 1, 1) := by decide +kernel
theorem dX7_trader_200 : decode cX7_trader 200 = .ok (.isub, 1) := by decide +kernel
theorem dX7_trader_201 : decode cX7_trader 201 = .ok (.ireturn, 1) := by decide +kernel
theorem dX7_costs_0 : decode cX7_costs 0 = .ok (.ldc2_w 146, 3) := by decide +kernel
theorem dX7_costs_3 : decode cX7_costs 3 = .ok (.aload_n 0, 1) := by decide +kernel
theorem dX7_costs_4 : decode cX7_costs 4 = .ok (.getfield 28, 3) := by decide +kernel
theorem dX7_costs_7 : decode cX7_costs 7 = .ok (.iload_n 1, 1) := by decide +kernel
theorem dX7_costs_8 : decode cX7_costs 8 = .ok (.iaload, 1) := by decide +kernel
theorem dX7_costs_9 : decode cX7_costs 9 = .ok (.i2l, 1) := by decide +kernel
theorem dX7_costs_10 : decode cX7_costs 10 = .ok (.lmul, 1) := by decide +kernel
theorem dX7_costs_11 : decode cX7_costs 11 = .ok (.ldc2_w 148, 3) := by decide +kernel
theorem dX7_costs_14 : decode cX7_costs 14 = .ok (.aload_n 0, 1) := by decide +kernel
theorem dX7_costs_15 : decode cX7_costs 15 = .ok (.getfield 25, 3) := by decide +kernel
theorem dX7_costs_18 : decode cX7_costs 18 = .ok (.iload_n 1, 1) := by decide +kernel
theorem dX7_costs_19 : decode cX7_costs 19 = .ok (.iaload, 1) := by decide +kernel
theorem dX7_costs_20 : decode cX7_costs 20 = .ok (.i2l, 1) := by decide +kernel
theorem dX7_costs_21 : decode cX7_costs 21 = .ok (.lmul, 1) := by decide +kernel
theorem dX7_costs_22 : decode cX7_costs 22 = .ok (.ladd, 1) := by decide +kernel
theorem dX7_costs_23 : decode cX7_costs 23 = .ok (.lconst 1, 1) := by decide +kernel
theorem dX7_costs_24 : decode cX7_costs 24 = .ok (.ladd, 1) := by decide +kernel
theorem dX7_costs_25 : decode cX7_costs 25 = .ok (.lreturn, 1) := by decide +kernel
theorem dX7_across_0 : decode cX7_across 0 = .ok (.aload_n 0, 1) := by decide +kernel
theorem dX7_across_1 : decode cX7_across 1 = .ok (.getfield 16, 3) := by decide +kernel
theorem dX7_across_4 : decode cX7_across 4 = .ok (.iload_n 1, 1) := by decide +kernel
theorem dX7_across_5 : decode cX7_across 5 = .ok (.iaload, 1) := by decide +kernel
theorem dX7_across_6 : decode cX7_across 6 = .ok (.iload_n 2, 1) := by decide +kernel
theorem dX7_across_7 : decode cX7_across 7 = .ok (.if_icmp .ne 12, 3) := by decide +kernel
theorem dX7_across_10 : decode cX7_across 10 = .ok (.aload_n 0, 1) := by decide +kernel
theorem dX7_across_11 : decode cX7_across 11 = .ok (.getfield 19, 3) := by decide +kernel
theorem dX7_across_14 : decode cX7_across 14 = .ok (.iload_n 1, 1) := by decide +kernel
theorem dX7_across_15 : decode cX7_across 15 = .ok (.iaload, 1) := by decide +kernel
theorem dX7_across_16 : decode cX7_across 16 = .ok (.goto 9, 3) := by decide +kernel
theorem dX7_across_19 : decode cX7_across 19 = .ok (.aload_n 0, 1) := by decide +kernel
theorem dX7_across_20 : decode cX7_across 20 = .ok (.getfield 16, 3) := by decide +kernel
theorem dX7_across_23 : decode cX7_across 23 = .ok (.iload_n 1, 1) := by decide +kernel
theorem dX7_across_24 : decode cX7_across 24 = .ok (.iaload, 1) := by decide +kernel
theorem dX7_across_25 : decode cX7_across 25 = .ok (.ireturn, 1) := by decide +kernel
theorem dX7_findWays_0 : decode cX7_findWays 0 = .ok (.iconst 0, 1) := by decide +kernel
theorem dX7_findWays_1 : decode cX7_findWays 1 = .ok (.istore_n 2, 1) := by decide +kernel
theorem dX7_findWays_2 : decode cX7_findWays 2 = .ok (.iload_n 2, 1) := by decide +kernel
theorem dX7_findWays_3 : decode cX7_findWays 3 = .ok (.aload_n 0, 1) := by decide +kernel
theorem dX7_findWays_4 : decode cX7_findWays 4 = .ok (.getfield 88, 3) := by decide +kernel
theorem dX7_findWays_7 : decode cX7_findWays 7 = .ok (.if_icmp .ge 27, 3) := by decide +kernel
theorem dX7_findWays_10 : decode cX7_findWays 10 = .ok (.aload_n 0, 1) := by decide +kernel
theorem dX7_findWays_11 : decode cX7_findWays 11 = .ok (.getfield 77, 3) := by decide +kernel
theorem dX7_findWays_14 : decode cX7_findWays 14 = .ok (.iload_n 2, 1) := by decide +kernel
theorem dX7_findWays_15 : decode cX7_findWays 15 = .ok (.iload_n 2, 1) := by decide +kernel
theorem dX7_findWays_16 : decode cX7_findWays 16 = .ok (.iload_n 1, 1) := by decide +kernel
theorem dX7_findWays_17 : decode cX7_findWays 17 = .ok (.if_icmp .ne 7, 3) := by decide +kernel
theorem dX7_findWays_20 : decode cX7_findWays 20 = .ok (.lconst 0, 1) := by decide +kernel
theorem dX7_findWays_21 : decode cX7_findWays 21 = .ok (.goto 6, 3) := by decide +kernel
theorem dX7_findWays_24 : decode cX7_findWays 24 = .ok (.ldc2_w 150, 3) := by decide +kernel
theorem dX7_findWays_27 : decode cX7_findWays 27 = .ok (.lastore, 1) := by decide +kernel
theorem dX7_findWays_28 : decode cX7_findWays 28 = .ok (.iinc 2 1, 3) := by decide +kernel
theorem dX7_findWays_31 : decode cX7_findWays 31 = .ok (.goto (-29), 3) := by decide +kernel
theorem dX7_findWays_34 : decode cX7_findWays 34 = .ok (.iconst 0, 1) := by decide +kernel
theorem dX7_findWays_35 : decode cX7_findWays 35 = .ok (.istore_n 2, 1) := by decide +kernel
theorem dX7_findWays_36 : decode cX7_findWays 36 = .ok (.iload_n 2, 1) := by decide +kernel
theorem dX7_findWays_37 : decode cX7_findWays 37 = .ok (.aload_n 0, 1) := by decide +kernel
theorem dX7_findWays_38 : decode cX7_findWays 38 = .ok (.getfield 95, 3) := by decide +kernel
theorem dX7_findWays_41 : decode cX7_findWays 41 = .ok (.if_icmp .ge 20, 3) := by decide +kernel
theorem dX7_findWays_44 : decode cX7_findWays 44 = .ok (.aload_n 0, 1) := by decide +kernel
theorem dX7_findWays_45 : decode cX7_findWays 45 = .ok (.getfield 80, 3) := by decide +kernel
theorem dX7_findWays_48 : decode cX7_findWays 48 = .ok (.iload_n 2, 1) := by decide +kernel
theorem dX7_findWays_49 : decode cX7_findWays 49 = .ok (.aload_n 0, 1) := by decide +kernel
theorem dX7_findWays_50 : decode cX7_findWays 50 = .ok (.iload_n 2, 1) := by decide +kernel
theorem dX7_findWays_51 : decode cX7_findWays 51 = .ok (.invokevirtual 152, 3) := by decide +kernel
theorem dX7_findWays_54 : decode cX7_findWays 54 = .ok (.bastore, 1) := by decide +kernel
theorem dX7_findWays_55 : decode cX7_findWays 55 = .ok (.iinc 2 1, 3) := by decide +kernel
theorem dX7_findWays_58 : decode cX7_findWays 58 = .ok (.goto (-22), 3) := by decide +kernel
theorem dX7_findWays_61 : decode cX7_findWays 61 = .ok (.iconst 0, 1) := by decide +kernel
theorem dX7_findWays_62 : decode cX7_findWays 62 = .ok (.istore_n 2, 1) := by decide +kernel
theorem dX7_findWays_63 : decode cX7_findWays 63 = .ok (.iload_n 2, 1) := by decide +kernel
theorem dX7_findWays_64 : decode cX7_findWays 64 = .ok (.aload_n 0, 1) := by decide +kernel
theorem dX7_findWays_65 : decode cX7_findWays 65 = .ok (.getfield 88, 3) := by decide +kernel
theorem dX7_findWays_68 : decode cX7_findWays 68 = .ok (.if_icmp .ge 136, 3) := by decide +kernel
theorem dX7_findWays_71 : decode cX7_findWays 71 = .ok (.iconst 0, 1) := by decide +kernel
theorem dX7_findWays_72 : decode cX7_findWays 72 = .ok (.istore_n 3, 1) := by decide +kernel
theorem dX7_findWays_73 : decode cX7_findWays 73 = .ok (.iload_n 3, 1) := by decide +kernel
theorem dX7_findWays_74 : decode cX7_findWays 74 = .ok (.aload_n 0, 1) := by decide +kernel
theorem dX7_findWays_75 : decode cX7_findWays 75 = .ok (.getfield 95, 3) := by decide +kernel
theorem dX7_findWays_78 : decode cX7_findWays 78 = .ok (.if_icmp .ge 120, 3) := by decide +kernel
theorem dX7_findWays_81 : decode cX7_findWays 81 = .ok (.aload_n 0, 1) := by decide +kernel
theorem dX7_findWays_82 : decode cX7_findWays 82 = .ok (.getfield 80, 3) := by decide +kernel
theorem dX7_findWays_85 : decode cX7_findWays 85 = .ok (.iload_n 3, 1) := by decide +kernel
theorem dX7_findWays_86 : decode cX7_findWays 86 = .ok (.baload, 1) := by decide +kernel
theorem dX7_findWays_87 : decode cX7_findWays 87 = .ok (.ifCond .eq 105, 3) := by decide +kernel
theorem dX7_findWays_90 : decode cX7_findWays 90 = .ok (.aload_n 0, 1) := by decide +kernel
theorem dX7_findWays_91 : decode cX7_findWays 91 = .ok (.getfield 77, 3) := by decide +kernel
theorem dX7_findWays_94 : decode cX7_findWays 94 = .ok (.aload_n 0, 1) := by decide +kernel
theorem dX7_findWays_95 : decode cX7_findWays 95 = .ok (.getfield 16, 3) := by decide +kernel
theorem dX7_findWays_98 : decode cX7_findWays 98 = .ok (.iload_n 3, 1) := by decide +kernel
theorem dX7_findWays_99 : decode cX7_findWays 99 = .ok (.iaload, 1) := by decide +kernel
theorem dX7_findWays_100 : decode cX7_findWays 100 = .ok (.laload, 1) := by decide +kernel
theorem dX7_findWays_101 : decode cX7_findWays 101 = .ok (.lstore 4, 2) := by decide +kernel
theorem dX7_findWays_103 : decode cX7_findWays 103 = .ok (.aload_n 0, 1) := by decide +kernel
theorem dX7_findWays_104 : decode cX7_findWays 104 = .ok (.getfield 77, 3) := by decide +kernel
theorem dX7_findWays_107 : decode cX7_findWays 107 = .ok (.aload_n 0, 1) := by decide +kernel
theorem dX7_findWays_108 : decode cX7_findWays 108 = .ok (.getfield 19, 3) := by decide +kernel
theorem dX7_findWays_111 : decode cX7_findWays 111 = .ok (.iload_n 3, 1) := by decide +kernel
theorem dX7_findWays_112 : decode cX7_findWays 112 = .ok (.iaload, 1) := by decide +kernel
theorem dX7_findWays_113 : decode cX7_findWays 113 = .ok (.laload, 1) := by decide +kernel
theorem dX7_findWays_114 : decode cX7_findWays 114 = .ok (.lstore 6, 2) := by decide +kernel
theorem dX7_findWays_116 : decode cX7_findWays 116 = .ok (.aload_n 0, 1) := by decide +kernel
theorem dX7_findWays_117 : decode cX7_findWays 117 = .ok (.getfield 77, 3) := by decide +kernel
theorem dX7_findWays_120 : decode cX7_findWays 120 = .ok (.aload_n 0, 1) := by decide +kernel
theorem dX7_findWays_121 : decode cX7_findWays 121 = .ok (.getfield 16, 3) := by decide +kernel
theorem dX7_findWays_124 : decode cX7_findWays 124 = .ok (.iload_n 3, 1) := by decide +kernel
theorem dX7_findWays_125 : decode cX7_findWays 125 = .ok (.iaload, 1) := by decide +kernel
theorem dX7_findWays_126 : decode cX7_findWays 126 = .ok (.lload 6, 2) := by decide +kernel
theorem dX7_findWays_128 : decode cX7_findWays 128 = .ok (.aload_n 0, 1) := by decide +kernel
theorem dX7_findWays_129 : decode cX7_findWays 129 = .ok (.iload_n 3, 1) := by decide +kernel
theorem dX7_findWays_130 : decode cX7_findWays 130 = .ok (.invokevirtual 155, 3) := by decide +kernel
theorem dX7_findWays_133 : decode cX7_findWays 133 = .ok (.ladd, 1) := by decide +kernel
theorem dX7_findWays_134 : decode cX7_findWays 134 = .ok (.lload 4, 2) := by decide +kernel
theorem dX7_findWays_136 : decode cX7_findWays 136 = .ok (.lcmp, 1) := by decide +kernel
theorem dX7_findWays_137 : decode cX7_findWays 137 = .ok (.ifCond .ge 14, 3) := by decide +kernel
theorem dX7_findWays_140 : decode cX7_findWays 140 = .ok (.lload 6, 2) := by decide +kernel
theorem dX7_findWays_142 : decode cX7_findWays 142 = .ok (.aload_n 0, 1) := by decide +kernel
theorem dX7_findWays_143 : decode cX7_findWays 143 = .ok (.iload_n 3, 1) := by decide +kernel
theorem dX7_findWays_144 : decode cX7_findWays 144 = .ok (.invokevirtual 155, 3) := by decide +kernel
theorem dX7_findWays_147 : decode cX7_findWays 147 = .ok (.ladd, 1) := by decide +kernel
theorem dX7_findWays_148 : decode cX7_findWays 148 = .ok (.goto 5, 3) := by decide +kernel
theorem dX7_findWays_151 : decode cX7_findWays 151 = .ok (.lload 4, 2) := by decide +kernel
theorem dX7_findWays_153 : decode cX7_findWays 153 = .ok (.lastore, 1) := by decide +kernel
theorem dX7_findWays_154 : decode cX7_findWays 154 = .ok (.aload_n 0, 1) := by decide +kernel
theorem dX7_findWays_155 : decode cX7_findWays 155 = .ok (.getfield 77, 3) := by decide +kernel
theorem dX7_findWays_158 : decode cX7_findWays 158 = .ok (.aload_n 0, 1) := by decide +kernel
theorem dX7_findWays_159 : decode cX7_findWays 159 = .ok (.getfield 19, 3) := by decide +kernel
theorem dX7_findWays_162 : decode cX7_findWays 162 = .ok (.iload_n 3, 1) := by decide +kernel
theorem dX7_findWays_163 : decode cX7_findWays 163 = .ok (.iaload, 1) := by decide +kernel
theorem dX7_findWays_164 : decode cX7_findWays 164 = .ok (.lload 4, 2) := by decide +kernel
theorem dX7_findWays_166 : decode cX7_findWays 166 = .ok (.aload_n 0, 1) := by decide +kernel
theorem dX7_findWays_167 : decode cX7_findWays 167 = .ok (.iload_n 3, 1) := by decide +kernel
theorem dX7_findWays_168 : decode cX7_findWays 168 = .ok (.invokevirtual 155, 3) := by decide +kernel
theorem dX7_findWays_171 : decode cX7_findWays 171 = .ok (.ladd, 1) := by decide +kernel
theorem dX7_findWays_172 : decode cX7_findWays 172 = .ok (.lload 6, 2) := by decide +kernel
theorem dX7_findWays_174 : decode cX7_findWays 174 = .ok (.lcmp, 1) := by decide +kernel
theorem dX7_findWays_175 : decode cX7_findWays 175 = .ok (.ifCond .ge 14, 3) := by decide +kernel
theorem dX7_findWays_178 : decode cX7_findWays 178 = .ok (.lload 4, 2) := by decide +kernel
theorem dX7_findWays_180 : decode cX7_findWays 180 = .ok (.aload_n 0, 1) := by decide +kernel
theorem dX7_findWays_181 : decode cX7_findWays 181 = .ok (.iload_n 3, 1) := by decide +kernel
theorem dX7_findWays_182 : decode cX7_findWays 182 = .ok (.invokevirtual 155, 3) := by decide +kernel
theorem dX7_findWays_185 : decode cX7_findWays 185 = .ok (.ladd, 1) := by decide +kernel
theorem dX7_findWays_186 : decode cX7_findWays 186 = .ok (.goto 5, 3) := by decide +kernel
theorem dX7_findWays_189 : decode cX7_findWays 189 = .ok (.lload 6, 2) := by decide +kernel
theorem dX7_findWays_191 : decode cX7_findWays 191 = .ok (.lastore, 1) := by decide +kernel
theorem dX7_findWays_192 : decode cX7_findWays 192 = .ok (.iinc 3 1, 3) := by decide +kernel
theorem dX7_findWays_195 : decode cX7_findWays 195 = .ok (.goto (-122), 3) := by decide +kernel
theorem dX7_findWays_198 : decode cX7_findWays 198 = .ok (.iinc 2 1, 3) := by decide +kernel
theorem dX7_findWays_201 : decode cX7_findWays 201 = .ok (.goto (-138), 3) := by decide +kernel
theorem dX7_findWays_204 : decode cX7_findWays 204 = .ok (.return_, 1) := by decide +kernel
theorem dX7_next_0 : decode cX7_next 0 = .ok (.iconst 0, 1) := by decide +kernel
theorem dX7_next_1 : decode cX7_next 1 = .ok (.istore_n 2, 1) := by decide +kernel
theorem dX7_next_2 : decode cX7_next 2 = .ok (.iload_n 2, 1) := by decide +kernel
theorem dX7_next_3 : decode cX7_next 3 = .ok (.aload_n 0, 1) := by decide +kernel
theorem dX7_next_4 : decode cX7_next 4 = .ok (.getfield 95, 3) := by decide +kernel
theorem dX7_next_7 : decode cX7_next 7 = .ok (.if_icmp .ge 88, 3) := by decide +kernel
theorem dX7_next_10 : decode cX7_next 10 = .ok (.aload_n 0, 1) := by decide +kernel
theorem dX7_next_11 : decode cX7_next 11 = .ok (.getfield 16, 3) := by decide +kernel
theorem dX7_next_14 : decode cX7_next 14 = .ok (.iload_n 2, 1) := by decide +kernel
theorem dX7_next_15 : decode cX7_next 15 = .ok (.iaload, 1) := by decide +kernel
theorem dX7_next_16 : decode cX7_next 16 = .ok (.iload_n 1, 1) := by decide +kernel
theorem dX7_next_17 : decode cX7_next 17 = .ok (.if_icmp .eq 13, 3) := by decide +kernel
theorem dX7_next_20 : decode cX7_next 20 = .ok (.aload_n 0, 1) := by decide +kernel
theorem dX7_next_21 : decode cX7_next 21 = .ok (.getfield 19, 3) := by decide +kernel
theorem dX7_next_24 : decode cX7_next 24 = .ok (.iload_n 2, 1) := by decide +kernel
theorem dX7_next_25 : decode cX7_next 25 = .ok (.iaload, 1) := by decide +kernel
theorem dX7_next_26 : decode cX7_next 26 = .ok (.iload_n 1, 1) := by decide +kernel
theorem dX7_next_27 : decode cX7_next 27 = .ok (.if_icmp .ne 7, 3) := by decide +kernel
theorem dX7_next_30 : decode cX7_next 30 = .ok (.iconst 1, 1) := by decide +kernel
theorem dX7_next_31 : decode cX7_next 31 = .ok (.goto 4, 3) := by decide +kernel
theorem dX7_next_34 : decode cX7_next 34 = .ok (.iconst 0, 1) := by decide +kernel
theorem dX7_next_35 : decode cX7_next 35 = .ok (.istore_n 3, 1) := by decide +kernel
theorem dX7_next_36 : decode cX7_next 36 = .ok (.aload_n 0, 1) := by decide +kernel
theorem dX7_next_37 : decode cX7_next 37 = .ok (.getfield 80, 3) := by decide +kernel
theorem dX7_next_40 : decode cX7_next 40 = .ok (.iload_n 2, 1) := by decide +kernel
theorem dX7_next_41 : decode cX7_next 41 = .ok (.baload, 1) := by decide +kernel
theorem dX7_next_42 : decode cX7_next 42 = .ok (.ifCond .eq 47, 3) := by decide +kernel
theorem dX7_next_45 : decode cX7_next 45 = .ok (.iload_n 3, 1) := by decide +kernel
theorem dX7_next_46 : decode cX7_next 46 = .ok (.ifCond .eq 43, 3) := by decide +kernel
theorem dX7_next_49 : decode cX7_next 49 = .ok (.aload_n 0, 1) := by decide +kernel
theorem dX7_next_50 : decode cX7_next 50 = .ok (.getfield 77, 3) := by decide +kernel
theorem dX7_next_53 : decode cX7_next 53 = .ok (.iload_n 1, 1) := by decide +kernel
theorem dX7_next_54 : decode cX7_next 54 = .ok (.laload, 1) := by decide +kernel
theorem dX7_next_55 : decode cX7_next 55 = .ok (.lconst 0, 1) := by decide +kernel
theorem dX7_next_56 : decode cX7_next 56 = .ok (.lcmp, 1) := by decide +kernel
theorem dX7_next_57 : decode cX7_next 57 = .ok (.ifCond .le 32, 3) := by decide +kernel
theorem dX7_next_60 : decode cX7_next 60 = .ok (.aload_n 0, 1) := by decide +kernel
theorem dX7_next_61 : decode cX7_next 61 = .ok (.getfield 77, 3) := by decide +kernel
theorem dX7_next_64 : decode cX7_next 64 = .ok (.aload_n 0, 1) := by decide +kernel
theorem dX7_next_65 : decode cX7_next 65 = .ok (.iload_n 2, 1) := by decide +kernel
theorem dX7_next_66 : decode cX7_next 66 = .ok (.iload_n 1, 1) := by decide +kernel
theorem dX7_next_67 : decode cX7_next 67 = .ok (.invokevirtual 159, 3) := by decide +kernel
theorem dX7_next_70 : decode cX7_next 70 = .ok (.laload, 1) := by decide +kernel
theorem dX7_next_71 : decode cX7_next 71 = .ok (.aload_n 0, 1) := by decide +kernel
theorem dX7_next_72 : decode cX7_next 72 = .ok (.iload_n 2, 1) := by decide +kernel
theorem dX7_next_73 : decode cX7_next 73 = .ok (.invokevirtual 155, 3) := by decide +kernel
theorem dX7_next_76 : decode cX7_next 76 = .ok (.ladd, 1) := by decide +kernel
theorem dX7_next_77 : decode cX7_next 77 = .ok (.aload_n 0, 1) := by decide +kernel
theorem dX7_next_78 : decode cX7_next 78 = .ok (.getfield 77, 3) := by decide +kernel
theorem dX7_next_81 : decode cX7_next 81 = .ok (.iload_n 1, 1) := by decide +kernel
theorem dX7_next_82 : decode cX7_next 82 = .ok (.laload, 1) := by decide +kernel
theorem dX7_next_83 : decode cX7_next 83 = .ok (.lcmp, 1) := by decide +kernel
theorem dX7_next_84 : decode cX7_next 84 = .ok (.ifCond .ne 5, 3) := by decide +kernel
theorem dX7_next_87 : decode cX7_next 87 = .ok (.iload_n 2, 1) := by decide +kernel
theorem dX7_next_88 : decode cX7_next 88 = .ok (.ireturn, 1) := by decide +kernel
theorem dX7_next_89 : decode cX7_next 89 = .ok (.iinc 2 1, 3) := by decide +kernel
theorem dX7_next_92 : decode cX7_next 92 = .ok (.goto (-90), 3) := by decide +kernel
theorem dX7_next_95 : decode cX7_next 95 = .ok (.iconst (-1), 1) := by decide +kernel
theorem dX7_next_96 : decode cX7_next 96 = .ok (.ireturn, 1) := by decide +kernel
theorem dX7_hourOf_0 : decode cX7_hourOf 0 = .ok (.aload_n 0, 1) := by decide +kernel
theorem dX7_hourOf_1 : decode cX7_hourOf 1 = .ok (.aload_n 0, 1) := by decide +kernel
theorem dX7_hourOf_2 : decode cX7_hourOf 2 = .ok (.getfield 58, 3) := by decide +kernel
theorem dX7_hourOf_5 : decode cX7_hourOf 5 = .ok (.iload_n 1, 1) := by decide +kernel
theorem dX7_hourOf_6 : decode cX7_hourOf 6 = .ok (.iaload, 1) := by decide +kernel
theorem dX7_hourOf_7 : decode cX7_hourOf 7 = .ok (.invokevirtual 163, 3) := by decide +kernel
theorem dX7_hourOf_10 : decode cX7_hourOf 10 = .ok (.aload_n 0, 1) := by decide +kernel
theorem dX7_hourOf_11 : decode cX7_hourOf 11 = .ok (.getfield 77, 3) := by decide +kernel
theorem dX7_hourOf_14 : decode cX7_hourOf 14 = .ok (.aload_n 0, 1) := by decide +kernel
theorem dX7_hourOf_15 : decode cX7_hourOf 15 = .ok (.getfield 55, 3) := by decide +kernel
theorem dX7_hourOf_18 : decode cX7_hourOf 18 = .ok (.iload_n 1, 1) := by decide +kernel
theorem dX7_hourOf_19 : decode cX7_hourOf 19 = .ok (.iaload, 1) := by decide +kernel
theorem dX7_hourOf_20 : decode cX7_hourOf 20 = .ok (.laload, 1) := by decide +kernel
theorem dX7_hourOf_21 : decode cX7_hourOf 21 = .ok (.lstore_n 2, 1) := by decide +kernel
theorem dX7_hourOf_22 : decode cX7_hourOf 22 = .ok (.lload_n 2, 1) := by decide +kernel
theorem dX7_hourOf_23 : decode cX7_hourOf 23 = .ok (.ldc2_w 150, 3) := by decide +kernel
theorem dX7_hourOf_26 : decode cX7_hourOf 26 = .ok (.lcmp, 1) := by decide +kernel
theorem dX7_hourOf_27 : decode cX7_hourOf 27 = .ok (.ifCond .lt 7, 3) := by decide +kernel
theorem dX7_hourOf_30 : decode cX7_hourOf 30 = .ok (.iconst 1, 1) := by decide +kernel
theorem dX7_hourOf_31 : decode cX7_hourOf 31 = .ok (.goto 4, 3) := by decide +kernel
theorem dX7_hourOf_34 : decode cX7_hourOf 34 = .ok (.iconst 0, 1) := by decide +kernel
theorem dX7_hourOf_35 : decode cX7_hourOf 35 = .ok (.istore 4, 2) := by decide +kernel
theorem dX7_hourOf_37 : decode cX7_hourOf 37 = .ok (.iload 4, 2) := by decide +kernel
theorem dX7_hourOf_39 : decode cX7_hourOf 39 = .ok (.ifCond .ne 27, 3) := by decide +kernel
theorem dX7_hourOf_42 : decode cX7_hourOf 42 = .ok (.lload_n 2, 1) := by decide +kernel
theorem dX7_hourOf_43 : decode cX7_hourOf 43 = .ok (.ldc2_w 146, 3) := by decide +kernel
theorem dX7_hourOf_46 : decode cX7_hourOf 46 = .ok (.lrem, 1) := by decide +kernel
theorem dX7_hourOf_47 : decode cX7_hourOf 47 = .ok (.ldc2_w 148, 3) := by decide +kernel
theorem dX7_hourOf_50 : decode cX7_hourOf 50 = .ok (.ldiv, 1) := by decide +kernel
theorem dX7_hourOf_51 : decode cX7_hourOf 51 = .ok (.aload_n 0, 1) := by decide +kernel
theorem dX7_hourOf_52 : decode cX7_hourOf 52 = .ok (.getfield 61, 3) := by decide +kernel
theorem dX7_hourOf_55 : decode cX7_hourOf 55 = .ok (.iload_n 1, 1) := by decide +kernel
theorem dX7_hourOf_56 : decode cX7_hourOf 56 = .ok (.iaload, 1) := by decide +kernel
theorem dX7_hourOf_57 : decode cX7_hourOf 57 = .ok (.i2l, 1) := by decide +kernel
theorem dX7_hourOf_58 : decode cX7_hourOf 58 = .ok (.lcmp, 1) := by decide +kernel
theorem dX7_hourOf_59 : decode cX7_hourOf 59 = .ok (.ifCond .le 7, 3) := by decide +kernel
theorem dX7_hourOf_62 : decode cX7_hourOf 62 = .ok (.iconst 1, 1) := by decide +kernel
theorem dX7_hourOf_63 : decode cX7_hourOf 63 = .ok (.goto 4, 3) := by decide +kernel
theorem dX7_hourOf_66 : decode cX7_hourOf 66 = .ok (.iconst 0, 1) := by decide +kernel
theorem dX7_hourOf_67 : decode cX7_hourOf 67 = .ok (.istore 5, 2) := by decide +kernel
theorem dX7_hourOf_69 : decode cX7_hourOf 69 = .ok (.aload_n 0, 1) := by decide +kernel
theorem dX7_hourOf_70 : decode cX7_hourOf 70 = .ok (.getfield 73, 3) := by decide +kernel
theorem dX7_hourOf_73 : decode cX7_hourOf 73 = .ok (.iconst 4, 1) := by decide +kernel
theorem dX7_hourOf_74 : decode cX7_hourOf 74 = .ok (.iload_n 1, 1) := by decide +kernel
theorem dX7_hourOf_75 : decode cX7_hourOf 75 = .ok (.imul, 1) := by decide +kernel
theorem dX7_hourOf_76 : decode cX7_hourOf 76 = .ok (.dup2, 1) := by decide +kernel
theorem dX7_hourOf_77 : decode cX7_hourOf 77 = .ok (.laload, 1) := by decide +kernel
theorem dX7_hourOf_78 : decode cX7_hourOf 78 = .ok (.iload 4, 2) := by decide +kernel
theorem dX7_hourOf_80 : decode cX7_hourOf 80 = .ok (.ifCond .eq 7, 3) := by decide +kernel
theorem dX7_hourOf_83 : decode cX7_hourOf 83 = .ok (.lconst 0, 1) := by decide +kernel
theorem dX7_hourOf_84 : decode cX7_hourOf 84 = .ok (.goto 8, 3) := by decide +kernel
theorem dX7_hourOf_87 : decode cX7_hourOf 87 = .ok (.lload_n 2, 1) := by decide +kernel
theorem dX7_hourOf_88 : decode cX7_hourOf 88 = .ok (.ldc2_w 146, 3) := by decide +kernel
theorem dX7_hourOf_91 : decode cX7_hourOf 91 = .ok (.ldiv, 1) := by decide +kernel
theorem dX7_hourOf_92 : decode cX7_hourOf 92 = .ok (.ladd, 1) := by decide +kernel
theorem dX7_hourOf_93 : decode cX7_hourOf 93 = .ok (.lastore, 1) := by decide +kernel
theorem dX7_hourOf_94 : decode cX7_hourOf 94 = .ok (.iload 4, 2) := by decide +kernel
theorem dX7_hourOf_96 : decode cX7_hourOf 96 = .ok (.ifCond .eq 12, 3) := by decide +kernel
theorem dX7_hourOf_99 : decode cX7_hourOf 99 = .ok (.aload_n 0, 1) := by decide +kernel
theorem dX7_hourOf_100 : decode cX7_hourOf 100 = .ok (.getfield 64, 3) := by decide +kernel
theorem dX7_hourOf_103 : decode cX7_hourOf 103 = .ok (.iload_n 1, 1) := by decide +kernel
theorem dX7_hourOf_104 : decode cX7_hourOf 104 = .ok (.iaload, 1) := by decide +kernel
theorem dX7_hourOf_105 : decode cX7_hourOf 105 = .ok (.goto 18, 3) := by decide +kernel
theorem dX7_hourOf_108 : decode cX7_hourOf 108 = .ok (.iload 5, 2) := by decide +kernel
theorem dX7_hourOf_110 : decode cX7_hourOf 110 = .ok (.ifCond .eq 12, 3) := by decide +kernel
theorem dX7_hourOf_113 : decode cX7_hourOf 113 = .ok (.aload_n 0, 1) := by decide +kernel
theorem dX7_hourOf_114 : decode cX7_hourOf 114 = .ok (.getfield 67, 3) := by decide +kernel
theorem dX7_hourOf_117 : decode cX7_hourOf 117 = .ok (.iload_n 1, 1) := by decide +kernel
theorem dX7_hourOf_118 : decode cX7_hourOf 118 = .ok (.iaload, 1) := by decide +kernel
theorem dX7_hourOf_119 : decode cX7_hourOf 119 = .ok (.goto 4, 3) := by decide +kernel
theorem dX7_hourOf_122 : decode cX7_hourOf 122 = .ok (.iconst 0, 1) := by decide +kernel
theorem dX7_hourOf_123 : decode cX7_hourOf 123 = .ok (.istore 6, 2) := by decide +kernel
theorem dX7_hourOf_125 : decode cX7_hourOf 125 = .ok (.aload_n 0, 1) := by decide +kernel
theorem dX7_hourOf_126 : decode cX7_hourOf 126 = .ok (.getfield 73, 3) := by decide +kernel
theorem dX7_hourOf_129 : decode cX7_hourOf 129 = .ok (.iconst 4, 1) := by decide +kernel
theorem dX7_hourOf_130 : decode cX7_hourOf 130 = .ok (.iload_n 1, 1) := by decide +kernel
theorem dX7_hourOf_131 : decode cX7_hourOf 131 = .ok (.imul, 1) := by decide +kernel
theorem dX7_hourOf_132 : decode cX7_hourOf 132 = .ok (.iconst 1, 1) := by decide +kernel
theorem dX7_hourOf_133 : decode cX7_hourOf 133 = .ok (.iadd, 1) := by decide +kernel
theorem dX7_hourOf_134 : decode cX7_hourOf 134 = .ok (.aload_n 0, 1) := by decide +kernel
theorem dX7_hourOf_135 : decode cX7_hourOf 135 = .ok (.getfield 73, 3) := by decide +kernel
theorem dX7_hourOf_138 : decode cX7_hourOf 138 = .ok (.iconst 4, 1) := by decide +kernel
theorem dX7_hourOf_139 : decode cX7_hourOf 139 = .ok (.iload_n 1, 1) := by decide +kernel
theorem dX7_hourOf_140 : decode cX7_hourOf 140 = .ok (.imul, 1) := by decide +kernel
theorem dX7_hourOf_141 : decode cX7_hourOf 141 = .ok (.iconst 1, 1) := by decide +kernel
theorem dX7_hourOf_142 : decode cX7_hourOf 142 = .ok (.iadd, 1) := by decide +kernel
theorem dX7_hourOf_143 : decode cX7_hourOf 143 = .ok (.laload, 1) := by decide +kernel
theorem dX7_hourOf_144 : decode cX7_hourOf 144 = .ok (.iload 6, 2) := by decide +kernel
theorem dX7_hourOf_146 : decode cX7_hourOf 146 = .ok (.i2l, 1) := by decide +kernel
theorem dX7_hourOf_147 : decode cX7_hourOf 147 = .ok (.ladd, 1) := by decide +kernel
theorem dX7_hourOf_148 : decode cX7_hourOf 148 = .ok (.aload_n 0, 1) := by decide +kernel
theorem dX7_hourOf_149 : decode cX7_hourOf 149 = .ok (.getfield 70, 3) := by decide +kernel
theorem dX7_hourOf_152 : decode cX7_hourOf 152 = .ok (.iload_n 1, 1) := by decide +kernel
theorem dX7_hourOf_153 : decode cX7_hourOf 153 = .ok (.iaload, 1) := by decide +kernel
theorem dX7_hourOf_154 : decode cX7_hourOf 154 = .ok (.i2l, 1) := by decide +kernel
theorem dX7_hourOf_155 : decode cX7_hourOf 155 = .ok (.lcmp, 1) := by decide +kernel
theorem dX7_hourOf_156 : decode cX7_hourOf 156 = .ok (.ifCond .le 13, 3) := by decide +kernel
theorem dX7_hourOf_159 : decode cX7_hourOf 159 = .ok (.aload_n 0, 1) := by decide +kernel
theorem dX7_hourOf_160 : decode cX7_hourOf 160 = .ok (.getfield 70, 3) := by decide +kernel
theorem dX7_hourOf_163 : decode cX7_hourOf 163 = .ok (.iload_n 1, 1) := by decide +kernel
theorem dX7_hourOf_164 : decode cX7_hourOf 164 = .ok (.iaload, 1) := by decide +kernel
theorem dX7_hourOf_165 : decode cX7_hourOf 165 = .ok (.i2l, 1) := by decide +kernel
theorem dX7_hourOf_166 : decode cX7_hourOf 166 = .ok (.goto 17, 3) := by decide +kernel
theorem dX7_hourOf_169 : decode cX7_hourOf 169 = .ok (.aload_n 0, 1) := by decide +kernel
theorem dX7_hourOf_170 : decode cX7_hourOf 170 = .ok (.getfield 73, 3) := by decide +kernel
theorem dX7_hourOf_173 : decode cX7_hourOf 173 = .ok (.iconst 4, 1) := by decide +kernel
theorem dX7_hourOf_174 : decode cX7_hourOf 174 = .ok (.iload_n 1, 1) := by decide +kernel
theorem dX7_hourOf_175 : decode cX7_hourOf 175 = .ok (.imul, 1) := by decide +kernel
theorem dX7_hourOf_176 : decode cX7_hourOf 176 = .ok (.iconst 1, 1) := by decide +kernel
theorem dX7_hourOf_177 : decode cX7_hourOf 177 = .ok (.iadd, 1) := by decide +kernel
theorem dX7_hourOf_178 : decode cX7_hourOf 178 = .ok (.laload, 1) := by decide +kernel
theorem dX7_hourOf_179 : decode cX7_hourOf 179 = .ok (.iload 6, 2) := by decide +kernel
theorem dX7_hourOf_181 : decode cX7_hourOf 181 = .ok (.i2l, 1) := by decide +kernel
theorem dX7_hourOf_182 : decode cX7_hourOf 182 = .ok (.ladd, 1) := by decide +kernel
theorem dX7_hourOf_183 : decode cX7_hourOf 183 = .ok (.lastore, 1) := by decide +kernel
theorem dX7_hourOf_184 : decode cX7_hourOf 184 = .ok (.aload_n 0, 1) := by decide +kernel
end
section
theorem dX7_hourOf_185 : decode cX7_hourOf 185 = .ok (.getfield 73, 3) := by decide +kernel
theorem dX7_hourOf_188 : decode cX7_hourOf 188 = .ok (.iconst 4, 1) := by decide +kernel
theorem dX7_hourOf_189 : decode cX7_hourOf 189 = .ok (.iload_n 1, 1) := by decide +kernel
theorem dX7_hourOf_190 : decode cX7_hourOf 190 = .ok (.imul, 1) := by decide +kernel
theorem dX7_hourOf_191 : decode cX7_hourOf 191 = .ok (.iconst 2, 1) := by decide +kernel
theorem dX7_hourOf_192 : decode cX7_hourOf 192 = .ok (.iadd, 1) := by decide +kernel
theorem dX7_hourOf_193 : decode cX7_hourOf 193 = .ok (.dup2, 1) := by decide +kernel
theorem dX7_hourOf_194 : decode cX7_hourOf 194 = .ok (.laload, 1) := by decide +kernel
theorem dX7_hourOf_195 : decode cX7_hourOf 195 = .ok (.iload 4, 2) := by decide +kernel
theorem dX7_hourOf_197 : decode cX7_hourOf 197 = .ok (.ifCond .eq 7, 3) := by decide +kernel
theorem dX7_hourOf_200 : decode cX7_hourOf 200 = .ok (.lconst 1, 1) := by decide +kernel
theorem dX7_hourOf_201 : decode cX7_hourOf 201 = .ok (.goto 4, 3) := by decide +kernel
theorem dX7_hourOf_204 : decode cX7_hourOf 204 = .ok (.lconst 0, 1) := by decide +kernel
theorem dX7_hourOf_205 : decode cX7_hourOf 205 = .ok (.ladd, 1) := by decide +kernel
theorem dX7_hourOf_206 : decode cX7_hourOf 206 = .ok (.lastore, 1) := by decide +kernel
theorem dX7_hourOf_207 : decode cX7_hourOf 207 = .ok (.aload_n 0, 1) := by decide +kernel
theorem dX7_hourOf_208 : decode cX7_hourOf 208 = .ok (.getfield 73, 3) := by decide +kernel
theorem dX7_hourOf_211 : decode cX7_hourOf 211 = .ok (.iconst 4, 1) := by decide +kernel
theorem dX7_hourOf_212 : decode cX7_hourOf 212 = .ok (.iload_n 1, 1) := by decide +kernel
theorem dX7_hourOf_213 : decode cX7_hourOf 213 = .ok (.imul, 1) := by decide +kernel
theorem dX7_hourOf_214 : decode cX7_hourOf 214 = .ok (.iconst 3, 1) := by decide +kernel
theorem dX7_hourOf_215 : decode cX7_hourOf 215 = .ok (.iadd, 1) := by decide +kernel
theorem dX7_hourOf_216 : decode cX7_hourOf 216 = .ok (.dup2, 1) := by decide +kernel
theorem dX7_hourOf_217 : decode cX7_hourOf 217 = .ok (.laload, 1) := by decide +kernel
theorem dX7_hourOf_218 : decode cX7_hourOf 218 = .ok (.iload 5, 2) := by decide +kernel
theorem dX7_hourOf_220 : decode cX7_hourOf 220 = .ok (.ifCond .eq 7, 3) := by decide +kernel
theorem dX7_hourOf_223 : decode cX7_hourOf 223 = .ok (.lconst 1, 1) := by decide +kernel
theorem dX7_hourOf_224 : decode cX7_hourOf 224 = .ok (.goto 4, 3) := by decide +kernel
theorem dX7_hourOf_227 : decode cX7_hourOf 227 = .ok (.lconst 0, 1) := by decide +kernel
theorem dX7_hourOf_228 : decode cX7_hourOf 228 = .ok (.ladd, 1) := by decide +kernel
theorem dX7_hourOf_229 : decode cX7_hourOf 229 = .ok (.lastore, 1) := by decide +kernel
theorem dX7_hourOf_230 : decode cX7_hourOf 230 = .ok (.return_, 1) := by decide +kernel
theorem dX7_pass_0 : decode cX7_pass 0 = .ok (.aload_n 0, 1) := by decide +kernel
theorem dX7_pass_1 : decode cX7_pass 1 = .ok (.iload_n 1, 1) := by decide +kernel
theorem dX7_pass_2 : decode cX7_pass 2 = .ok (.iconst 1, 1) := by decide +kernel
theorem dX7_pass_3 : decode cX7_pass 3 = .ok (.sipush 500, 3) := by decide +kernel
theorem dX7_pass_6 : decode cX7_pass 6 = .ok (.invokestatic 91, 3) := by decide +kernel
theorem dX7_pass_9 : decode cX7_pass 9 = .ok (.ifCond .eq 7, 3) := by decide +kernel
theorem dX7_pass_12 : decode cX7_pass 12 = .ok (.iconst 0, 1) := by decide +kernel
theorem dX7_pass_13 : decode cX7_pass 13 = .ok (.goto 4, 3) := by decide +kernel
theorem dX7_pass_16 : decode cX7_pass 16 = .ok (.iconst 1, 1) := by decide +kernel
theorem dX7_pass_17 : decode cX7_pass 17 = .ok (.invokevirtual 108, 3) := by decide +kernel
theorem dX7_pass_20 : decode cX7_pass 20 = .ok (.ifCond .ne 5, 3) := by decide +kernel
theorem dX7_pass_23 : decode cX7_pass 23 = .ok (.iconst 0, 1) := by decide +kernel
theorem dX7_pass_24 : decode cX7_pass 24 = .ok (.ireturn, 1) := by decide +kernel
theorem dX7_pass_25 : decode cX7_pass 25 = .ok (.iconst 0, 1) := by decide +kernel
theorem dX7_pass_26 : decode cX7_pass 26 = .ok (.istore_n 2, 1) := by decide +kernel
theorem dX7_pass_27 : decode cX7_pass 27 = .ok (.iload_n 2, 1) := by decide +kernel
theorem dX7_pass_28 : decode cX7_pass 28 = .ok (.iload_n 1, 1) := by decide +kernel
theorem dX7_pass_29 : decode cX7_pass 29 = .ok (.if_icmp .ge 70, 3) := by decide +kernel
theorem dX7_pass_32 : decode cX7_pass 32 = .ok (.aload_n 0, 1) := by decide +kernel
theorem dX7_pass_33 : decode cX7_pass 33 = .ok (.dup, 1) := by decide +kernel
theorem dX7_pass_34 : decode cX7_pass 34 = .ok (.getfield 166, 3) := by decide +kernel
theorem dX7_pass_37 : decode cX7_pass 37 = .ok (.iconst 1, 1) := by decide +kernel
theorem dX7_pass_38 : decode cX7_pass 38 = .ok (.iadd, 1) := by decide +kernel
theorem dX7_pass_39 : decode cX7_pass 39 = .ok (.putfield 166, 3) := by decide +kernel
theorem dX7_pass_42 : decode cX7_pass 42 = .ok (.iconst 0, 1) := by decide +kernel
theorem dX7_pass_43 : decode cX7_pass 43 = .ok (.istore_n 3, 1) := by decide +kernel
theorem dX7_pass_44 : decode cX7_pass 44 = .ok (.iload_n 3, 1) := by decide +kernel
theorem dX7_pass_45 : decode cX7_pass 45 = .ok (.aload_n 0, 1) := by decide +kernel
theorem dX7_pass_46 : decode cX7_pass 46 = .ok (.getfield 102, 3) := by decide +kernel
theorem dX7_pass_49 : decode cX7_pass 49 = .ok (.if_icmp .ge 23, 3) := by decide +kernel
theorem dX7_pass_52 : decode cX7_pass 52 = .ok (.aload_n 0, 1) := by decide +kernel
theorem dX7_pass_53 : decode cX7_pass 53 = .ok (.getfield 37, 3) := by decide +kernel
theorem dX7_pass_56 : decode cX7_pass 56 = .ok (.iload_n 3, 1) := by decide +kernel
theorem dX7_pass_57 : decode cX7_pass 57 = .ok (.iaload, 1) := by decide +kernel
theorem dX7_pass_58 : decode cX7_pass 58 = .ok (.ifCond .eq 8, 3) := by decide +kernel
theorem dX7_pass_61 : decode cX7_pass 61 = .ok (.aload_n 0, 1) := by decide +kernel
theorem dX7_pass_62 : decode cX7_pass 62 = .ok (.iload_n 3, 1) := by decide +kernel
theorem dX7_pass_63 : decode cX7_pass 63 = .ok (.invokevirtual 169, 3) := by decide +kernel
theorem dX7_pass_66 : decode cX7_pass 66 = .ok (.iinc 3 1, 3) := by decide +kernel
theorem dX7_pass_69 : decode cX7_pass 69 = .ok (.goto (-25), 3) := by decide +kernel
theorem dX7_pass_72 : decode cX7_pass 72 = .ok (.iconst 0, 1) := by decide +kernel
theorem dX7_pass_73 : decode cX7_pass 73 = .ok (.istore_n 3, 1) := by decide +kernel
theorem dX7_pass_74 : decode cX7_pass 74 = .ok (.iload_n 3, 1) := by decide +kernel
theorem dX7_pass_75 : decode cX7_pass 75 = .ok (.aload_n 0, 1) := by decide +kernel
theorem dX7_pass_76 : decode cX7_pass 76 = .ok (.getfield 105, 3) := by decide +kernel
theorem dX7_pass_79 : decode cX7_pass 79 = .ok (.if_icmp .ge 14, 3) := by decide +kernel
theorem dX7_pass_82 : decode cX7_pass 82 = .ok (.aload_n 0, 1) := by decide +kernel
theorem dX7_pass_83 : decode cX7_pass 83 = .ok (.iload_n 3, 1) := by decide +kernel
theorem dX7_pass_84 : decode cX7_pass 84 = .ok (.invokevirtual 172, 3) := by decide +kernel
theorem dX7_pass_87 : decode cX7_pass 87 = .ok (.iinc 3 1, 3) := by decide +kernel
theorem dX7_pass_90 : decode cX7_pass 90 = .ok (.goto (-16), 3) := by decide +kernel
theorem dX7_pass_93 : decode cX7_pass 93 = .ok (.iinc 2 1, 3) := by decide +kernel
theorem dX7_pass_96 : decode cX7_pass 96 = .ok (.goto (-69), 3) := by decide +kernel
theorem dX7_pass_99 : decode cX7_pass 99 = .ok (.aload_n 0, 1) := by decide +kernel
theorem dX7_pass_100 : decode cX7_pass 100 = .ok (.getfield 166, 3) := by decide +kernel
theorem dX7_pass_103 : decode cX7_pass 103 = .ok (.ireturn, 1) := by decide +kernel
theorem dX7_works_0 : decode cX7_works 0 = .ok (.aload_n 0, 1) := by decide +kernel
theorem dX7_works_1 : decode cX7_works 1 = .ok (.aload_n 0, 1) := by decide +kernel
theorem dX7_works_2 : decode cX7_works 2 = .ok (.iload_n 1, 1) := by decide +kernel
theorem dX7_works_3 : decode cX7_works 3 = .ok (.invokevirtual 98, 3) := by decide +kernel
theorem dX7_works_6 : decode cX7_works 6 = .ok (.ifCond .eq 7, 3) := by decide +kernel
theorem dX7_works_9 : decode cX7_works 9 = .ok (.iconst 0, 1) := by decide +kernel
theorem dX7_works_10 : decode cX7_works 10 = .ok (.goto 4, 3) := by decide +kernel
theorem dX7_works_13 : decode cX7_works 13 = .ok (.iconst 1, 1) := by decide +kernel
theorem dX7_works_14 : decode cX7_works 14 = .ok (.invokevirtual 108, 3) := by decide +kernel
theorem dX7_works_17 : decode cX7_works 17 = .ok (.ifCond .eq 15, 3) := by decide +kernel
theorem dX7_works_20 : decode cX7_works 20 = .ok (.aload_n 0, 1) := by decide +kernel
theorem dX7_works_21 : decode cX7_works 21 = .ok (.iload_n 1, 1) := by decide +kernel
theorem dX7_works_22 : decode cX7_works 22 = .ok (.invokevirtual 152, 3) := by decide +kernel
theorem dX7_works_25 : decode cX7_works 25 = .ok (.ifCond .eq 7, 3) := by decide +kernel
theorem dX7_works_28 : decode cX7_works 28 = .ok (.iconst 1, 1) := by decide +kernel
theorem dX7_works_29 : decode cX7_works 29 = .ok (.goto 4, 3) := by decide +kernel
theorem dX7_works_32 : decode cX7_works 32 = .ok (.iconst 0, 1) := by decide +kernel
theorem dX7_works_33 : decode cX7_works 33 = .ok (.ireturn, 1) := by decide +kernel
theorem dX7_faultAt_0 : decode cX7_faultAt 0 = .ok (.aload_n 0, 1) := by decide +kernel
theorem dX7_faultAt_1 : decode cX7_faultAt 1 = .ok (.iload_n 1, 1) := by decide +kernel
theorem dX7_faultAt_2 : decode cX7_faultAt 2 = .ok (.ifCond .lt 7, 3) := by decide +kernel
theorem dX7_faultAt_5 : decode cX7_faultAt 5 = .ok (.iconst 0, 1) := by decide +kernel
theorem dX7_faultAt_6 : decode cX7_faultAt 6 = .ok (.goto 4, 3) := by decide +kernel
theorem dX7_faultAt_9 : decode cX7_faultAt 9 = .ok (.iconst 1, 1) := by decide +kernel
theorem dX7_faultAt_10 : decode cX7_faultAt 10 = .ok (.invokevirtual 108, 3) := by decide +kernel
theorem dX7_faultAt_13 : decode cX7_faultAt 13 = .ok (.ifCond .ne 5, 3) := by decide +kernel
theorem dX7_faultAt_16 : decode cX7_faultAt 16 = .ok (.iconst 0, 1) := by decide +kernel
theorem dX7_faultAt_17 : decode cX7_faultAt 17 = .ok (.ireturn, 1) := by decide +kernel
theorem dX7_faultAt_18 : decode cX7_faultAt 18 = .ok (.iload_n 1, 1) := by decide +kernel
theorem dX7_faultAt_19 : decode cX7_faultAt 19 = .ok (.aload_n 0, 1) := by decide +kernel
theorem dX7_faultAt_20 : decode cX7_faultAt 20 = .ok (.getfield 114, 3) := by decide +kernel
theorem dX7_faultAt_23 : decode cX7_faultAt 23 = .ok (.if_icmp .ge 12, 3) := by decide +kernel
theorem dX7_faultAt_26 : decode cX7_faultAt 26 = .ok (.aload_n 0, 1) := by decide +kernel
theorem dX7_faultAt_27 : decode cX7_faultAt 27 = .ok (.getfield 31, 3) := by decide +kernel
theorem dX7_faultAt_30 : decode cX7_faultAt 30 = .ok (.iload_n 1, 1) := by decide +kernel
theorem dX7_faultAt_31 : decode cX7_faultAt 31 = .ok (.iaload, 1) := by decide +kernel
theorem dX7_faultAt_32 : decode cX7_faultAt 32 = .ok (.goto 4, 3) := by decide +kernel
theorem dX7_faultAt_35 : decode cX7_faultAt 35 = .ok (.iconst (-1), 1) := by decide +kernel
theorem dX7_faultAt_36 : decode cX7_faultAt 36 = .ok (.ireturn, 1) := by decide +kernel
theorem dX7_shipOf_0 : decode cX7_shipOf 0 = .ok (.aload_n 0, 1) := by decide +kernel
theorem dX7_shipOf_1 : decode cX7_shipOf 1 = .ok (.iload_n 1, 1) := by decide +kernel
theorem dX7_shipOf_2 : decode cX7_shipOf 2 = .ok (.invokevirtual 132, 3) := by decide +kernel
theorem dX7_shipOf_5 : decode cX7_shipOf 5 = .ok (.istore_n 3, 1) := by decide +kernel
theorem dX7_shipOf_6 : decode cX7_shipOf 6 = .ok (.aload_n 0, 1) := by decide +kernel
theorem dX7_shipOf_7 : decode cX7_shipOf 7 = .ok (.iload_n 3, 1) := by decide +kernel
theorem dX7_shipOf_8 : decode cX7_shipOf 8 = .ok (.ifCond .ne 7, 3) := by decide +kernel
theorem dX7_shipOf_11 : decode cX7_shipOf 11 = .ok (.iconst 1, 1) := by decide +kernel
theorem dX7_shipOf_12 : decode cX7_shipOf 12 = .ok (.goto 17, 3) := by decide +kernel
theorem dX7_shipOf_15 : decode cX7_shipOf 15 = .ok (.iload_n 2, 1) := by decide +kernel
theorem dX7_shipOf_16 : decode cX7_shipOf 16 = .ok (.iconst 0, 1) := by decide +kernel
theorem dX7_shipOf_17 : decode cX7_shipOf 17 = .ok (.iconst 4, 1) := by decide +kernel
theorem dX7_shipOf_18 : decode cX7_shipOf 18 = .ok (.invokestatic 91, 3) := by decide +kernel
theorem dX7_shipOf_21 : decode cX7_shipOf 21 = .ok (.ifCond .eq 7, 3) := by decide +kernel
theorem dX7_shipOf_24 : decode cX7_shipOf 24 = .ok (.iconst 0, 1) := by decide +kernel
theorem dX7_shipOf_25 : decode cX7_shipOf 25 = .ok (.goto 4, 3) := by decide +kernel
theorem dX7_shipOf_28 : decode cX7_shipOf 28 = .ok (.iconst 2, 1) := by decide +kernel
theorem dX7_shipOf_29 : decode cX7_shipOf 29 = .ok (.invokevirtual 108, 3) := by decide +kernel
theorem dX7_shipOf_32 : decode cX7_shipOf 32 = .ok (.ifCond .ne 5, 3) := by decide +kernel
theorem dX7_shipOf_35 : decode cX7_shipOf 35 = .ok (.iconst 0, 1) := by decide +kernel
theorem dX7_shipOf_36 : decode cX7_shipOf 36 = .ok (.ireturn, 1) := by decide +kernel
theorem dX7_shipOf_37 : decode cX7_shipOf 37 = .ok (.iload_n 2, 1) := by decide +kernel
theorem dX7_shipOf_38 : decode cX7_shipOf 38 = .ok (.ifCond .ne 12, 3) := by decide +kernel
theorem dX7_shipOf_41 : decode cX7_shipOf 41 = .ok (.aload_n 0, 1) := by decide +kernel
theorem dX7_shipOf_42 : decode cX7_shipOf 42 = .ok (.getfield 37, 3) := by decide +kernel
theorem dX7_shipOf_45 : decode cX7_shipOf 45 = .ok (.iload_n 1, 1) := by decide +kernel
theorem dX7_shipOf_46 : decode cX7_shipOf 46 = .ok (.iaload, 1) := by decide +kernel
theorem dX7_shipOf_47 : decode cX7_shipOf 47 = .ok (.goto 51, 3) := by decide +kernel
theorem dX7_shipOf_50 : decode cX7_shipOf 50 = .ok (.iload_n 2, 1) := by decide +kernel
theorem dX7_shipOf_51 : decode cX7_shipOf 51 = .ok (.iconst 1, 1) := by decide +kernel
theorem dX7_shipOf_52 : decode cX7_shipOf 52 = .ok (.if_icmp .ne 12, 3) := by decide +kernel
theorem dX7_shipOf_55 : decode cX7_shipOf 55 = .ok (.aload_n 0, 1) := by decide +kernel
theorem dX7_shipOf_56 : decode cX7_shipOf 56 = .ok (.getfield 40, 3) := by decide +kernel
theorem dX7_shipOf_59 : decode cX7_shipOf 59 = .ok (.iload_n 1, 1) := by decide +kernel
theorem dX7_shipOf_60 : decode cX7_shipOf 60 = .ok (.iaload, 1) := by decide +kernel
theorem dX7_shipOf_61 : decode cX7_shipOf 61 = .ok (.goto 37, 3) := by decide +kernel
theorem dX7_shipOf_64 : decode cX7_shipOf 64 = .ok (.iload_n 2, 1) := by decide +kernel
theorem dX7_shipOf_65 : decode cX7_shipOf 65 = .ok (.iconst 2, 1) := by decide +kernel
theorem dX7_shipOf_66 : decode cX7_shipOf 66 = .ok (.if_icmp .ne 12, 3) := by decide +kernel
theorem dX7_shipOf_69 : decode cX7_shipOf 69 = .ok (.aload_n 0, 1) := by decide +kernel
theorem dX7_shipOf_70 : decode cX7_shipOf 70 = .ok (.getfield 43, 3) := by decide +kernel
theorem dX7_shipOf_73 : decode cX7_shipOf 73 = .ok (.iload_n 1, 1) := by decide +kernel
theorem dX7_shipOf_74 : decode cX7_shipOf 74 = .ok (.iaload, 1) := by decide +kernel
theorem dX7_shipOf_75 : decode cX7_shipOf 75 = .ok (.goto 23, 3) := by decide +kernel
theorem dX7_shipOf_78 : decode cX7_shipOf 78 = .ok (.iload_n 2, 1) := by decide +kernel
theorem dX7_shipOf_79 : decode cX7_shipOf 79 = .ok (.iconst 3, 1) := by decide +kernel
theorem dX7_shipOf_80 : decode cX7_shipOf 80 = .ok (.if_icmp .ne 12, 3) := by decide +kernel
theorem dX7_shipOf_83 : decode cX7_shipOf 83 = .ok (.aload_n 0, 1) := by decide +kernel
theorem dX7_shipOf_84 : decode cX7_shipOf 84 = .ok (.getfield 46, 3) := by decide +kernel
theorem dX7_shipOf_87 : decode cX7_shipOf 87 = .ok (.iload_n 1, 1) := by decide +kernel
theorem dX7_shipOf_88 : decode cX7_shipOf 88 = .ok (.iaload, 1) := by decide +kernel
theorem dX7_shipOf_89 : decode cX7_shipOf 89 = .ok (.goto 9, 3) := by decide +kernel
theorem dX7_shipOf_92 : decode cX7_shipOf 92 = .ok (.aload_n 0, 1) := by decide +kernel
theorem dX7_shipOf_93 : decode cX7_shipOf 93 = .ok (.getfield 52, 3) := by decide +kernel
theorem dX7_shipOf_96 : decode cX7_shipOf 96 = .ok (.iload_n 1, 1) := by decide +kernel
theorem dX7_shipOf_97 : decode cX7_shipOf 97 = .ok (.iaload, 1) := by decide +kernel
theorem dX7_shipOf_98 : decode cX7_shipOf 98 = .ok (.ireturn, 1) := by decide +kernel
theorem dX7_way_0 : decode cX7_way 0 = .ok (.aload_n 0, 1) := by decide +kernel
theorem dX7_way_1 : decode cX7_way 1 = .ok (.aload_n 0, 1) := by decide +kernel
theorem dX7_way_2 : decode cX7_way 2 = .ok (.iload_n 1, 1) := by decide +kernel
theorem dX7_way_3 : decode cX7_way 3 = .ok (.invokevirtual 175, 3) := by decide +kernel
theorem dX7_way_6 : decode cX7_way 6 = .ok (.ifCond .eq 11, 3) := by decide +kernel
theorem dX7_way_9 : decode cX7_way 9 = .ok (.iload_n 2, 1) := by decide +kernel
theorem dX7_way_10 : decode cX7_way 10 = .ok (.ifCond .lt 7, 3) := by decide +kernel
theorem dX7_way_13 : decode cX7_way 13 = .ok (.iconst 0, 1) := by decide +kernel
theorem dX7_way_14 : decode cX7_way 14 = .ok (.goto 4, 3) := by decide +kernel
theorem dX7_way_17 : decode cX7_way 17 = .ok (.iconst 1, 1) := by decide +kernel
theorem dX7_way_18 : decode cX7_way 18 = .ok (.invokevirtual 108, 3) := by decide +kernel
theorem dX7_way_21 : decode cX7_way 21 = .ok (.ifCond .ne 5, 3) := by decide +kernel
theorem dX7_way_24 : decode cX7_way 24 = .ok (.iconst 0, 1) := by decide +kernel
theorem dX7_way_25 : decode cX7_way 25 = .ok (.ireturn, 1) := by decide +kernel
theorem dX7_way_26 : decode cX7_way 26 = .ok (.aload_n 0, 1) := by decide +kernel
theorem dX7_way_27 : decode cX7_way 27 = .ok (.aload_n 0, 1) := by decide +kernel
theorem dX7_way_28 : decode cX7_way 28 = .ok (.getfield 58, 3) := by decide +kernel
theorem dX7_way_31 : decode cX7_way 31 = .ok (.iload_n 1, 1) := by decide +kernel
theorem dX7_way_32 : decode cX7_way 32 = .ok (.iaload, 1) := by decide +kernel
theorem dX7_way_33 : decode cX7_way 33 = .ok (.invokevirtual 163, 3) := by decide +kernel
theorem dX7_way_36 : decode cX7_way 36 = .ok (.aload_n 0, 1) := by decide +kernel
theorem dX7_way_37 : decode cX7_way 37 = .ok (.getfield 55, 3) := by decide +kernel
theorem dX7_way_40 : decode cX7_way 40 = .ok (.iload_n 1, 1) := by decide +kernel
theorem dX7_way_41 : decode cX7_way 41 = .ok (.iaload, 1) := by decide +kernel
theorem dX7_way_42 : decode cX7_way 42 = .ok (.istore_n 3, 1) := by decide +kernel
theorem dX7_way_43 : decode cX7_way 43 = .ok (.aload_n 0, 1) := by decide +kernel
theorem dX7_way_44 : decode cX7_way 44 = .ok (.getfield 77, 3) := by decide +kernel
theorem dX7_way_47 : decode cX7_way 47 = .ok (.iload_n 3, 1) := by decide +kernel
theorem dX7_way_48 : decode cX7_way 48 = .ok (.laload, 1) := by decide +kernel
theorem dX7_way_49 : decode cX7_way 49 = .ok (.ldc2_w 150, 3) := by decide +kernel
theorem dX7_way_52 : decode cX7_way 52 = .ok (.lcmp, 1) := by decide +kernel
theorem dX7_way_53 : decode cX7_way 53 = .ok (.ifCond .lt 7, 3) := by decide +kernel
theorem dX7_way_56 : decode cX7_way 56 = .ok (.iconst (-1), 1) := by decide +kernel
theorem dX7_way_57 : decode cX7_way 57 = .ok (.goto 8, 3) := by decide +kernel
theorem dX7_way_60 : decode cX7_way 60 = .ok (.aload_n 0, 1) := by decide +kernel
theorem dX7_way_61 : decode cX7_way 61 = .ok (.iload_n 3, 1) := by decide +kernel
theorem dX7_way_62 : decode cX7_way 62 = .ok (.invokevirtual 178, 3) := by decide +kernel
theorem dX7_way_65 : decode cX7_way 65 = .ok (.istore 4, 2) := by decide +kernel
theorem dX7_way_67 : decode cX7_way 67 = .ok (.iconst 0, 1) := by decide +kernel
theorem dX7_way_68 : decode cX7_way 68 = .ok (.istore 5, 2) := by decide +kernel
theorem dX7_way_70 : decode cX7_way 70 = .ok (.iload 5, 2) := by decide +kernel
theorem dX7_way_72 : decode cX7_way 72 = .ok (.iload_n 2, 1) := by decide +kernel
theorem dX7_way_73 : decode cX7_way 73 = .ok (.if_icmp .ge 30, 3) := by decide +kernel
theorem dX7_way_76 : decode cX7_way 76 = .ok (.iload 4, 2) := by decide +kernel
theorem dX7_way_78 : decode cX7_way 78 = .ok (.iconst (-1), 1) := by decide +kernel
theorem dX7_way_79 : decode cX7_way 79 = .ok (.if_icmp .eq 24, 3) := by decide +kernel
theorem dX7_way_82 : decode cX7_way 82 = .ok (.aload_n 0, 1) := by decide +kernel
theorem dX7_way_83 : decode cX7_way 83 = .ok (.iload 4, 2) := by decide +kernel
theorem dX7_way_85 : decode cX7_way 85 = .ok (.iload_n 3, 1) := by decide +kernel
theorem dX7_way_86 : decode cX7_way 86 = .ok (.invokevirtual 159, 3) := by decide +kernel
theorem dX7_way_89 : decode cX7_way 89 = .ok (.istore_n 3, 1) := by decide +kernel
theorem dX7_way_90 : decode cX7_way 90 = .ok (.aload_n 0, 1) := by decide +kernel
theorem dX7_way_91 : decode cX7_way 91 = .ok (.iload_n 3, 1) := by decide +kernel
theorem dX7_way_92 : decode cX7_way 92 = .ok (.invokevirtual 178, 3) := by decide +kernel
theorem dX7_way_95 : decode cX7_way 95 = .ok (.istore 4, 2) := by decide +kernel
theorem dX7_way_97 : decode cX7_way 97 = .ok (.iinc 5 1, 3) := by decide +kernel
theorem dX7_way_100 : decode cX7_way 100 = .ok (.goto (-30), 3) := by decide +kernel
theorem dX7_way_103 : decode cX7_way 103 = .ok (.iload 4, 2) := by decide +kernel
theorem dX7_way_105 : decode cX7_way 105 = .ok (.ireturn, 1) := by decide +kernel
theorem dX7_sum_0 : decode cX7_sum 0 = .ok (.aload_n 0, 1) := by decide +kernel
theorem dX7_sum_1 : decode cX7_sum 1 = .ok (.iload_n 1, 1) := by decide +kernel
theorem dX7_sum_2 : decode cX7_sum 2 = .ok (.invokevirtual 175, 3) := by decide +kernel
theorem dX7_sum_5 : decode cX7_sum 5 = .ok (.istore_n 3, 1) := by decide +kernel
theorem dX7_sum_6 : decode cX7_sum 6 = .ok (.aload_n 0, 1) := by decide +kernel
theorem dX7_sum_7 : decode cX7_sum 7 = .ok (.iload_n 3, 1) := by decide +kernel
theorem dX7_sum_8 : decode cX7_sum 8 = .ok (.ifCond .ne 7, 3) := by decide +kernel
theorem dX7_sum_11 : decode cX7_sum 11 = .ok (.iconst 1, 1) := by decide +kernel
theorem dX7_sum_12 : decode cX7_sum 12 = .ok (.goto 17, 3) := by decide +kernel
theorem dX7_sum_15 : decode cX7_sum 15 = .ok (.iload_n 2, 1) := by decide +kernel
theorem dX7_sum_16 : decode cX7_sum 16 = .ok (.iconst 0, 1) := by decide +kernel
theorem dX7_sum_17 : decode cX7_sum 17 = .ok (.iconst 2, 1) := by decide +kernel
theorem dX7_sum_18 : decode cX7_sum 18 = .ok (.invokestatic 91, 3) := by decide +kernel
theorem dX7_sum_21 : decode cX7_sum 21 = .ok (.ifCond .eq 7, 3) := by decide +kernel
theorem dX7_sum_24 : decode cX7_sum 24 = .ok (.iconst 0, 1) := by decide +kernel
theorem dX7_sum_25 : decode cX7_sum 25 = .ok (.goto 4, 3) := by decide +kernel
theorem dX7_sum_28 : decode cX7_sum 28 = .ok (.iconst 2, 1) := by decide +kernel
theorem dX7_sum_29 : decode cX7_sum 29 = .ok (.invokevirtual 108, 3) := by decide +kernel
theorem dX7_sum_32 : decode cX7_sum 32 = .ok (.ifCond .ne 5, 3) := by decide +kernel
theorem dX7_sum_35 : decode cX7_sum 35 = .ok (.iconst 0, 1) := by decide +kernel
theorem dX7_sum_36 : decode cX7_sum 36 = .ok (.ireturn, 1) := by decide +kernel
theorem dX7_sum_37 : decode cX7_sum 37 = .ok (.aload_n 0, 1) := by decide +kernel
theorem dX7_sum_38 : decode cX7_sum 38 = .ok (.aload_n 0, 1) := by decide +kernel
theorem dX7_sum_39 : decode cX7_sum 39 = .ok (.getfield 58, 3) := by decide +kernel
theorem dX7_sum_42 : decode cX7_sum 42 = .ok (.iload_n 1, 1) := by decide +kernel
theorem dX7_sum_43 : decode cX7_sum 43 = .ok (.iaload, 1) := by decide +kernel
theorem dX7_sum_44 : decode cX7_sum 44 = .ok (.invokevirtual 163, 3) := by decide +kernel
theorem dX7_sum_47 : decode cX7_sum 47 = .ok (.aload_n 0, 1) := by decide +kernel
theorem dX7_sum_48 : decode cX7_sum 48 = .ok (.getfield 77, 3) := by decide +kernel
theorem dX7_sum_51 : decode cX7_sum 51 = .ok (.aload_n 0, 1) := by decide +kernel
theorem dX7_sum_52 : decode cX7_sum 52 = .ok (.getfield 55, 3) := by decide +kernel
theorem dX7_sum_55 : decode cX7_sum 55 = .ok (.iload_n 1, 1) := by decide +kernel
theorem dX7_sum_56 : decode cX7_sum 56 = .ok (.iaload, 1) := by decide +kernel
theorem dX7_sum_57 : decode cX7_sum 57 = .ok (.laload, 1) := by decide +kernel
theorem dX7_sum_58 : decode cX7_sum 58 = .ok (.lstore 4, 2) := by decide +kernel
theorem dX7_sum_60 : decode cX7_sum 60 = .ok (.lload 4, 2) := by decide +kernel
theorem dX7_sum_62 : decode cX7_sum 62 = .ok (.ldc2_w 150, 3) := by decide +kernel
theorem dX7_sum_65 : decode cX7_sum 65 = .ok (.lcmp, 1) := by decide +kernel
theorem dX7_sum_66 : decode cX7_sum 66 = .ok (.ifCond .lt 7, 3) := by decide +kernel
theorem dX7_sum_69 : decode cX7_sum 69 = .ok (.iconst (-1), 1) := by decide +kernel
theorem dX7_sum_70 : decode cX7_sum 70 = .ok (.goto 41, 3) := by decide +kernel
theorem dX7_sum_73 : decode cX7_sum 73 = .ok (.iload_n 2, 1) := by decide +kernel
theorem dX7_sum_74 : decode cX7_sum 74 = .ok (.ifCond .ne 12, 3) := by decide +kernel
theorem dX7_sum_77 : decode cX7_sum 77 = .ok (.lload 4, 2) := by decide +kernel
theorem dX7_sum_79 : decode cX7_sum 79 = .ok (.ldc2_w 146, 3) := by decide +kernel
theorem dX7_sum_82 : decode cX7_sum 82 = .ok (.ldiv, 1) := by decide +kernel
theorem dX7_sum_83 : decode cX7_sum 83 = .ok (.goto 27, 3) := by decide +kernel
theorem dX7_sum_86 : decode cX7_sum 86 = .ok (.iload_n 2, 1) := by decide +kernel
theorem dX7_sum_87 : decode cX7_sum 87 = .ok (.iconst 1, 1) := by decide +kernel
theorem dX7_sum_88 : decode cX7_sum 88 = .ok (.if_icmp .ne 16, 3) := by decide +kernel
theorem dX7_sum_91 : decode cX7_sum 91 = .ok (.lload 4, 2) := by decide +kernel
theorem dX7_sum_93 : decode cX7_sum 93 = .ok (.ldc2_w 146, 3) := by decide +kernel
theorem dX7_sum_96 : decode cX7_sum 96 = .ok (.lrem, 1) := by decide +kernel
theorem dX7_sum_97 : decode cX7_sum 97 = .ok (.ldc2_w 148, 3) := by decide +kernel
theorem dX7_sum_100 : decode cX7_sum 100 = .ok (.ldiv, 1) := by decide +kernel
theorem dX7_sum_101 : decode cX7_sum 101 = .ok (.goto 9, 3) := by decide +kernel
theorem dX7_sum_104 : decode cX7_sum 104 = .ok (.lload 4, 2) := by decide +kernel
theorem dX7_sum_106 : decode cX7_sum 106 = .ok (.ldc2_w 148, 3) := by decide +kernel
theorem dX7_sum_109 : decode cX7_sum 109 = .ok (.lrem, 1) := by decide +kernel
theorem dX7_sum_110 : decode cX7_sum 110 = .ok (.l2i, 1) := by decide +kernel
theorem dX7_sum_111 : decode cX7_sum 111 = .ok (.ireturn, 1) := by decide +kernel
theorem dX7_sumAnew_0 : decode cX7_sumAnew 0 = .ok (.aload_n 0, 1) := by decide +kernel
theorem dX7_sumAnew_1 : decode cX7_sumAnew 1 = .ok (.aload_n 0, 1) := by decide +kernel
theorem dX7_sumAnew_2 : decode cX7_sumAnew 2 = .ok (.iload_n 1, 1) := by decide +kernel
theorem dX7_sumAnew_3 : decode cX7_sumAnew 3 = .ok (.invokevirtual 175, 3) := by decide +kernel
theorem dX7_sumAnew_6 : decode cX7_sumAnew 6 = .ok (.ifCond .eq 7, 3) := by decide +kernel
theorem dX7_sumAnew_9 : decode cX7_sumAnew 9 = .ok (.iconst 0, 1) := by decide +kernel
theorem dX7_sumAnew_10 : decode cX7_sumAnew 10 = .ok (.goto 4, 3) := by decide +kernel
theorem dX7_sumAnew_13 : decode cX7_sumAnew 13 = .ok (.iconst 1, 1) := by decide +kernel
theorem dX7_sumAnew_14 : decode cX7_sumAnew 14 = .ok (.invokevirtual 108, 3) := by decide +kernel
theorem dX7_sumAnew_17 : decode cX7_sumAnew 17 = .ok (.ifCond .ne 5, 3) := by decide +kernel
theorem dX7_sumAnew_20 : decode cX7_sumAnew 20 = .ok (.iconst 0, 1) := by decide +kernel
theorem dX7_sumAnew_21 : decode cX7_sumAnew 21 = .ok (.ireturn, 1) := by decide +kernel
theorem dX7_sumAnew_22 : decode cX7_sumAnew 22 = .ok (.aload_n 0, 1) := by decide +kernel
theorem dX7_sumAnew_23 : decode cX7_sumAnew 23 = .ok (.aload_n 0, 1) := by decide +kernel
theorem dX7_sumAnew_24 : decode cX7_sumAnew 24 = .ok (.getfield 58, 3) := by decide +kernel
theorem dX7_sumAnew_27 : decode cX7_sumAnew 27 = .ok (.iload_n 1, 1) := by decide +kernel
theorem dX7_sumAnew_28 : decode cX7_sumAnew 28 = .ok (.iaload, 1) := by decide +kernel
theorem dX7_sumAnew_29 : decode cX7_sumAnew 29 = .ok (.invokevirtual 163, 3) := by decide +kernel
theorem dX7_sumAnew_32 : decode cX7_sumAnew 32 = .ok (.aload_n 0, 1) := by decide +kernel
theorem dX7_sumAnew_33 : decode cX7_sumAnew 33 = .ok (.getfield 77, 3) := by decide +kernel
theorem dX7_sumAnew_36 : decode cX7_sumAnew 36 = .ok (.aload_n 0, 1) := by decide +kernel
theorem dX7_sumAnew_37 : decode cX7_sumAnew 37 = .ok (.getfield 55, 3) := by decide +kernel
theorem dX7_sumAnew_40 : decode cX7_sumAnew 40 = .ok (.iload_n 1, 1) := by decide +kernel
theorem dX7_sumAnew_41 : decode cX7_sumAnew 41 = .ok (.iaload, 1) := by decide +kernel
theorem dX7_sumAnew_42 : decode cX7_sumAnew 42 = .ok (.laload, 1) := by decide +kernel
theorem dX7_sumAnew_43 : decode cX7_sumAnew 43 = .ok (.ldc2_w 150, 3) := by decide +kernel
theorem dX7_sumAnew_46 : decode cX7_sumAnew 46 = .ok (.lcmp, 1) := by decide +kernel
theorem dX7_sumAnew_47 : decode cX7_sumAnew 47 = .ok (.ifCond .lt 7, 3) := by decide +kernel
theorem dX7_sumAnew_50 : decode cX7_sumAnew 50 = .ok (.iconst (-1), 1) := by decide +kernel
theorem dX7_sumAnew_51 : decode cX7_sumAnew 51 = .ok (.goto 19, 3) := by decide +kernel
theorem dX7_sumAnew_54 : decode cX7_sumAnew 54 = .ok (.aload_n 0, 1) := by decide +kernel
theorem dX7_sumAnew_55 : decode cX7_sumAnew 55 = .ok (.getfield 77, 3) := by decide +kernel
theorem dX7_sumAnew_58 : decode cX7_sumAnew 58 = .ok (.aload_n 0, 1) := by decide +kernel
theorem dX7_sumAnew_59 : decode cX7_sumAnew 59 = .ok (.getfield 55, 3) := by decide +kernel
theorem dX7_sumAnew_62 : decode cX7_sumAnew 62 = .ok (.iload_n 1, 1) := by decide +kernel
theorem dX7_sumAnew_63 : decode cX7_sumAnew 63 = .ok (.iaload, 1) := by decide +kernel
theorem dX7_sumAnew_64 : decode cX7_sumAnew 64 = .ok (.laload, 1) := by decide +kernel
theorem dX7_sumAnew_65 : decode cX7_sumAnew 65 = .ok (.ldc2_w 146, 3) := by decide +kernel
theorem dX7_sumAnew_68 : decode cX7_sumAnew 68 = .ok (.ldiv, 1) := by decide +kernel
theorem dX7_sumAnew_69 : decode cX7_sumAnew 69 = .ok (.l2i, 1) := by decide +kernel
theorem dX7_sumAnew_70 : decode cX7_sumAnew 70 = .ok (.ireturn, 1) := by decide +kernel
theorem dX7_account_0 : decode cX7_account 0 = .ok (.aload_n 0, 1) := by decide +kernel
theorem dX7_account_1 : decode cX7_account 1 = .ok (.iload_n 1, 1) := by decide +kernel
theorem dX7_account_2 : decode cX7_account 2 = .ok (.invokevirtual 175, 3) := by decide +kernel
theorem dX7_account_5 : decode cX7_account 5 = .ok (.istore_n 3, 1) := by decide +kernel
theorem dX7_account_6 : decode cX7_account 6 = .ok (.aload_n 0, 1) := by decide +kernel
theorem dX7_account_7 : decode cX7_account 7 = .ok (.iload_n 3, 1) := by decide +kernel
theorem dX7_account_8 : decode cX7_account 8 = .ok (.ifCond .ne 7, 3) := by decide +kernel
theorem dX7_account_11 : decode cX7_account 11 = .ok (.iconst 1, 1) := by decide +kernel
theorem dX7_account_12 : decode cX7_account 12 = .ok (.goto 17, 3) := by decide +kernel
theorem dX7_account_15 : decode cX7_account 15 = .ok (.iload_n 2, 1) := by decide +kernel
theorem dX7_account_16 : decode cX7_account 16 = .ok (.iconst 0, 1) := by decide +kernel
theorem dX7_account_17 : decode cX7_account 17 = .ok (.iconst 3, 1) := by decide +kernel
theorem dX7_account_18 : decode cX7_account 18 = .ok (.invokestatic 91, 3) := by decide +kernel
theorem dX7_account_21 : decode cX7_account 21 = .ok (.ifCond .eq 7, 3) := by decide +kernel
theorem dX7_account_24 : decode cX7_account 24 = .ok (.iconst 0, 1) := by decide +kernel
theorem dX7_account_25 : decode cX7_account 25 = .ok (.goto 4, 3) := by decide +kernel
theorem dX7_account_28 : decode cX7_account 28 = .ok (.iconst 2, 1) := by decide +kernel
theorem dX7_account_29 : decode cX7_account 29 = .ok (.invokevirtual 108, 3) := by decide +kernel
theorem dX7_account_32 : decode cX7_account 32 = .ok (.ifCond .eq 16, 3) := by decide +kernel
theorem dX7_account_35 : decode cX7_account 35 = .ok (.aload_n 0, 1) := by decide +kernel
theorem dX7_account_36 : decode cX7_account 36 = .ok (.getfield 73, 3) := by decide +kernel
theorem dX7_account_39 : decode cX7_account 39 = .ok (.iconst 4, 1) := by decide +kernel
theorem dX7_account_40 : decode cX7_account 40 = .ok (.iload_n 1, 1) := by decide +kernel
theorem dX7_account_41 : decode cX7_account 41 = .ok (.imul, 1) := by decide +kernel
theorem dX7_account_42 : decode cX7_account 42 = .ok (.iload_n 2, 1) := by decide +kernel
theorem dX7_account_43 : decode cX7_account 43 = .ok (.iadd, 1) := by decide +kernel
theorem dX7_account_44 : decode cX7_account 44 = .ok (.laload, 1) := by decide +kernel
theorem dX7_account_45 : decode cX7_account 45 = .ok (.goto 4, 3) := by decide +kernel
theorem dX7_account_48 : decode cX7_account 48 = .ok (.lconst 0, 1) := by decide +kernel
theorem dX7_account_49 : decode cX7_account 49 = .ok (.lreturn, 1) := by decide +kernel
theorem dX7_reach_0 : decode cX7_reach 0 = .ok (.aload_n 0, 1) := by decide +kernel
theorem dX7_reach_1 : decode cX7_reach 1 = .ok (.aload_n 0, 1) := by decide +kernel
theorem dX7_reach_2 : decode cX7_reach 2 = .ok (.iload_n 1, 1) := by decide +kernel
theorem dX7_reach_3 : decode cX7_reach 3 = .ok (.invokevirtual 111, 3) := by decide +kernel
theorem dX7_reach_6 : decode cX7_reach 6 = .ok (.ifCond .eq 7, 3) := by decide +kernel
theorem dX7_reach_9 : decode cX7_reach 9 = .ok (.iconst 0, 1) := by decide +kernel
theorem dX7_reach_10 : decode cX7_reach 10 = .ok (.goto 4, 3) := by decide +kernel
theorem dX7_reach_13 : decode cX7_reach 13 = .ok (.iconst 1, 1) := by decide +kernel
theorem dX7_reach_14 : decode cX7_reach 14 = .ok (.invokevirtual 108, 3) := by decide +kernel
theorem dX7_reach_17 : decode cX7_reach 17 = .ok (.ifCond .ne 5, 3) := by decide +kernel
theorem dX7_reach_20 : decode cX7_reach 20 = .ok (.iconst 0, 1) := by decide +kernel
theorem dX7_reach_21 : decode cX7_reach 21 = .ok (.ireturn, 1) := by decide +kernel
theorem dX7_reach_22 : decode cX7_reach 22 = .ok (.aload_n 0, 1) := by decide +kernel
theorem dX7_reach_23 : decode cX7_reach 23 = .ok (.iload_n 1, 1) := by decide +kernel
theorem dX7_reach_24 : decode cX7_reach 24 = .ok (.invokevirtual 163, 3) := by decide +kernel
theorem dX7_reach_27 : decode cX7_reach 27 = .ok (.iconst 0, 1) := by decide +kernel
theorem dX7_reach_28 : decode cX7_reach 28 = .ok (.istore_n 2, 1) := by decide +kernel
theorem dX7_reach_29 : decode cX7_reach 29 = .ok (.iconst 0, 1) := by decide +kernel
theorem dX7_reach_30 : decode cX7_reach 30 = .ok (.istore_n 3, 1) := by decide +kernel
theorem dX7_reach_31 : decode cX7_reach 31 = .ok (.iload_n 3, 1) := by decide +kernel
theorem dX7_reach_32 : decode cX7_reach 32 = .ok (.aload_n 0, 1) := by decide +kernel
theorem dX7_reach_33 : decode cX7_reach 33 = .ok (.getfield 88, 3) := by decide +kernel
theorem dX7_reach_36 : decode cX7_reach 36 = .ok (.if_icmp .ge 32, 3) := by decide +kernel
theorem dX7_reach_39 : decode cX7_reach 39 = .ok (.iload_n 2, 1) := by decide +kernel
theorem dX7_reach_40 : decode cX7_reach 40 = .ok (.aload_n 0, 1) := by decide +kernel
theorem dX7_reach_41 : decode cX7_reach 41 = .ok (.getfield 77, 3) := by decide +kernel
theorem dX7_reach_44 : decode cX7_reach 44 = .ok (.iload_n 3, 1) := by decide +kernel
theorem dX7_reach_45 : decode cX7_reach 45 = .ok (.laload, 1) := by decide +kernel
theorem dX7_reach_46 : decode cX7_reach 46 = .ok (.ldc2_w 150, 3) := by decide +kernel
theorem dX7_reach_49 : decode cX7_reach 49 = .ok (.lcmp, 1) := by decide +kernel
theorem dX7_reach_50 : decode cX7_reach 50 = .ok (.ifCond .ge 9, 3) := by decide +kernel
theorem dX7_reach_53 : decode cX7_reach 53 = .ok (.iconst 1, 1) := by decide +kernel
theorem dX7_reach_54 : decode cX7_reach 54 = .ok (.iload_n 3, 1) := by decide +kernel
theorem dX7_reach_55 : decode cX7_reach 55 = .ok (.ishl, 1) := by decide +kernel
theorem dX7_reach_56 : decode cX7_reach 56 = .ok (.goto 4, 3) := by decide +kernel
theorem dX7_reach_59 : decode cX7_reach 59 = .ok (.iconst 0, 1) := by decide +kernel
theorem dX7_reach_60 : decode cX7_reach 60 = .ok (.ior, 1) := by decide +kernel
theorem dX7_reach_61 : decode cX7_reach 61 = .ok (.istore_n 2, 1) := by decide +kernel
theorem dX7_reach_62 : decode cX7_reach 62 = .ok (.iinc 3 1, 3) := by decide +kernel
theorem dX7_reach_65 : decode cX7_reach 65 = .ok (.goto (-34), 3) := by decide +kernel
theorem dX7_reach_68 : decode cX7_reach 68 = .ok (.iload_n 2, 1) := by decide +kernel
theorem dX7_reach_69 : decode cX7_reach 69 = .ok (.ireturn, 1) := by decide +kernel
end
section
theorem dL_island_0 : decode cL_island 0 = .ok (.aload_n 3, 1) := by decide +kernel
theorem dL_island_1 : decode cL_island 1 = .ok (.iconst 0, 1) := by decide +kernel
theorem dL_island_2 : decode cL_island 2 = .ok (.aload_n 0, 1) := by decide +kernel
theorem dL_island_3 : decode cL_island 3 = .ok (.iload_n 1, 1) := by decide +kernel
theorem dL_island_4 : decode cL_island 4 = .ok (.iload_n 2, 1) := by decide +kernel
theorem dL_island_5 : decode cL_island 5 = .ok (.invokevirtual 7, 3) := by decide +kernel
theorem dL_island_8 : decode cL_island 8 = .ok (.i2l, 1) := by decide +kernel
theorem dL_island_9 : decode cL_island 9 = .ok (.lastore, 1) := by decide +kernel
theorem dL_island_10 : decode cL_island 10 = .ok (.goto 11, 3) := by decide +kernel
theorem dL_island_13 : decode cL_island 13 = .ok (.astore 4, 2) := by decide +kernel
theorem dL_island_15 : decode cL_island 15 = .ok (.iconst 1, 1) := by decide +kernel
theorem dL_island_16 : decode cL_island 16 = .ok (.ireturn, 1) := by decide +kernel
theorem dL_island_17 : decode cL_island 17 = .ok (.astore 4, 2) := by decide +kernel
theorem dL_island_19 : decode cL_island 19 = .ok (.iconst 2, 1) := by decide +kernel
theorem dL_island_20 : decode cL_island 20 = .ok (.ireturn, 1) := by decide +kernel
theorem dL_island_21 : decode cL_island 21 = .ok (.iconst 0, 1) := by decide +kernel
theorem dL_island_22 : decode cL_island 22 = .ok (.ireturn, 1) := by decide +kernel
theorem dL_cable_0 : decode cL_cable 0 = .ok (.aload 6, 2) := by decide +kernel
theorem dL_cable_2 : decode cL_cable 2 = .ok (.iconst 0, 1) := by decide +kernel
theorem dL_cable_3 : decode cL_cable 3 = .ok (.aload_n 0, 1) := by decide +kernel
theorem dL_cable_4 : decode cL_cable 4 = .ok (.iload_n 1, 1) := by decide +kernel
theorem dL_cable_5 : decode cL_cable 5 = .ok (.iload_n 2, 1) := by decide +kernel
theorem dL_cable_6 : decode cL_cable 6 = .ok (.iload_n 3, 1) := by decide +kernel
theorem dL_cable_7 : decode cL_cable 7 = .ok (.iload 4, 2) := by decide +kernel
theorem dL_cable_9 : decode cL_cable 9 = .ok (.iload 5, 2) := by decide +kernel
theorem dL_cable_11 : decode cL_cable 11 = .ok (.invokevirtual 17, 3) := by decide +kernel
theorem dL_cable_14 : decode cL_cable 14 = .ok (.i2l, 1) := by decide +kernel
theorem dL_cable_15 : decode cL_cable 15 = .ok (.lastore, 1) := by decide +kernel
theorem dL_cable_16 : decode cL_cable 16 = .ok (.goto 15, 3) := by decide +kernel
theorem dL_cable_19 : decode cL_cable 19 = .ok (.astore 7, 2) := by decide +kernel
theorem dL_cable_21 : decode cL_cable 21 = .ok (.iconst 1, 1) := by decide +kernel
theorem dL_cable_22 : decode cL_cable 22 = .ok (.ireturn, 1) := by decide +kernel
theorem dL_cable_23 : decode cL_cable 23 = .ok (.astore 7, 2) := by decide +kernel
theorem dL_cable_25 : decode cL_cable 25 = .ok (.iconst 2, 1) := by decide +kernel
theorem dL_cable_26 : decode cL_cable 26 = .ok (.ireturn, 1) := by decide +kernel
theorem dL_cable_27 : decode cL_cable 27 = .ok (.astore 7, 2) := by decide +kernel
theorem dL_cable_29 : decode cL_cable 29 = .ok (.iconst 3, 1) := by decide +kernel
theorem dL_cable_30 : decode cL_cable 30 = .ok (.ireturn, 1) := by decide +kernel
theorem dL_cable_31 : decode cL_cable 31 = .ok (.iconst 0, 1) := by decide +kernel
theorem dL_cable_32 : decode cL_cable 32 = .ok (.ireturn, 1) := by decide +kernel
theorem dL_price_0 : decode cL_price 0 = .ok (.aload_n 3, 1) := by decide +kernel
theorem dL_price_1 : decode cL_price 1 = .ok (.iconst 0, 1) := by decide +kernel
theorem dL_price_2 : decode cL_price 2 = .ok (.aload_n 0, 1) := by decide +kernel
theorem dL_price_3 : decode cL_price 3 = .ok (.iload_n 1, 1) := by decide +kernel
theorem dL_price_4 : decode cL_price 4 = .ok (.iload_n 2, 1) := by decide +kernel
theorem dL_price_5 : decode cL_price 5 = .ok (.invokevirtual 23, 3) := by decide +kernel
theorem dL_price_8 : decode cL_price 8 = .ok (.i2l, 1) := by decide +kernel
theorem dL_price_9 : decode cL_price 9 = .ok (.lastore, 1) := by decide +kernel
theorem dL_price_10 : decode cL_price 10 = .ok (.goto 11, 3) := by decide +kernel
theorem dL_price_13 : decode cL_price 13 = .ok (.astore 4, 2) := by decide +kernel
theorem dL_price_15 : decode cL_price 15 = .ok (.iconst 1, 1) := by decide +kernel
theorem dL_price_16 : decode cL_price 16 = .ok (.ireturn, 1) := by decide +kernel
theorem dL_price_17 : decode cL_price 17 = .ok (.astore 4, 2) := by decide +kernel
theorem dL_price_19 : decode cL_price 19 = .ok (.iconst 2, 1) := by decide +kernel
theorem dL_price_20 : decode cL_price 20 = .ok (.ireturn, 1) := by decide +kernel
theorem dL_price_21 : decode cL_price 21 = .ok (.iconst 0, 1) := by decide +kernel
theorem dL_price_22 : decode cL_price 22 = .ok (.ireturn, 1) := by decide +kernel
theorem dL_fault_0 : decode cL_fault 0 = .ok (.aload_n 3, 1) := by decide +kernel
theorem dL_fault_1 : decode cL_fault 1 = .ok (.iconst 0, 1) := by decide +kernel
theorem dL_fault_2 : decode cL_fault 2 = .ok (.aload_n 0, 1) := by decide +kernel
theorem dL_fault_3 : decode cL_fault 3 = .ok (.iload_n 1, 1) := by decide +kernel
theorem dL_fault_4 : decode cL_fault 4 = .ok (.iload_n 2, 1) := by decide +kernel
theorem dL_fault_5 : decode cL_fault 5 = .ok (.invokevirtual 26, 3) := by decide +kernel
theorem dL_fault_8 : decode cL_fault 8 = .ok (.i2l, 1) := by decide +kernel
theorem dL_fault_9 : decode cL_fault 9 = .ok (.lastore, 1) := by decide +kernel
theorem dL_fault_10 : decode cL_fault 10 = .ok (.goto 11, 3) := by decide +kernel
theorem dL_fault_13 : decode cL_fault 13 = .ok (.astore 4, 2) := by decide +kernel
theorem dL_fault_15 : decode cL_fault 15 = .ok (.iconst 1, 1) := by decide +kernel
theorem dL_fault_16 : decode cL_fault 16 = .ok (.ireturn, 1) := by decide +kernel
theorem dL_fault_17 : decode cL_fault 17 = .ok (.astore 4, 2) := by decide +kernel
theorem dL_fault_19 : decode cL_fault 19 = .ok (.iconst 2, 1) := by decide +kernel
theorem dL_fault_20 : decode cL_fault 20 = .ok (.ireturn, 1) := by decide +kernel
theorem dL_fault_21 : decode cL_fault 21 = .ok (.iconst 0, 1) := by decide +kernel
theorem dL_fault_22 : decode cL_fault 22 = .ok (.ireturn, 1) := by decide +kernel
theorem dL_ship_0 : decode cL_ship 0 = .ok (.aload_n 3, 1) := by decide +kernel
theorem dL_ship_1 : decode cL_ship 1 = .ok (.iconst 0, 1) := by decide +kernel
theorem dL_ship_2 : decode cL_ship 2 = .ok (.aload_n 0, 1) := by decide +kernel
theorem dL_ship_3 : decode cL_ship 3 = .ok (.iload_n 1, 1) := by decide +kernel
theorem dL_ship_4 : decode cL_ship 4 = .ok (.iload_n 2, 1) := by decide +kernel
theorem dL_ship_5 : decode cL_ship 5 = .ok (.invokevirtual 29, 3) := by decide +kernel
theorem dL_ship_8 : decode cL_ship 8 = .ok (.i2l, 1) := by decide +kernel
theorem dL_ship_9 : decode cL_ship 9 = .ok (.lastore, 1) := by decide +kernel
theorem dL_ship_10 : decode cL_ship 10 = .ok (.goto 15, 3) := by decide +kernel
theorem dL_ship_13 : decode cL_ship 13 = .ok (.astore 4, 2) := by decide +kernel
theorem dL_ship_15 : decode cL_ship 15 = .ok (.iconst 1, 1) := by decide +kernel
theorem dL_ship_16 : decode cL_ship 16 = .ok (.ireturn, 1) := by decide +kernel
theorem dL_ship_17 : decode cL_ship 17 = .ok (.astore 4, 2) := by decide +kernel
theorem dL_ship_19 : decode cL_ship 19 = .ok (.iconst 2, 1) := by decide +kernel
theorem dL_ship_20 : decode cL_ship 20 = .ok (.ireturn, 1) := by decide +kernel
theorem dL_ship_21 : decode cL_ship 21 = .ok (.astore 4, 2) := by decide +kernel
theorem dL_ship_23 : decode cL_ship 23 = .ok (.iconst 3, 1) := by decide +kernel
theorem dL_ship_24 : decode cL_ship 24 = .ok (.ireturn, 1) := by decide +kernel
theorem dL_ship_25 : decode cL_ship 25 = .ok (.iconst 0, 1) := by decide +kernel
theorem dL_ship_26 : decode cL_ship 26 = .ok (.ireturn, 1) := by decide +kernel
theorem dL_send_0 : decode cL_send 0 = .ok (.aload 4, 2) := by decide +kernel
theorem dL_send_2 : decode cL_send 2 = .ok (.iconst 0, 1) := by decide +kernel
theorem dL_send_3 : decode cL_send 3 = .ok (.aload_n 0, 1) := by decide +kernel
theorem dL_send_4 : decode cL_send 4 = .ok (.iload_n 1, 1) := by decide +kernel
theorem dL_send_5 : decode cL_send 5 = .ok (.iload_n 2, 1) := by decide +kernel
theorem dL_send_6 : decode cL_send 6 = .ok (.iload_n 3, 1) := by decide +kernel
theorem dL_send_7 : decode cL_send 7 = .ok (.invokevirtual 32, 3) := by decide +kernel
theorem dL_send_10 : decode cL_send 10 = .ok (.i2l, 1) := by decide +kernel
theorem dL_send_11 : decode cL_send 11 = .ok (.lastore, 1) := by decide +kernel
theorem dL_send_12 : decode cL_send 12 = .ok (.goto 11, 3) := by decide +kernel
theorem dL_send_15 : decode cL_send 15 = .ok (.astore 5, 2) := by decide +kernel
theorem dL_send_17 : decode cL_send 17 = .ok (.iconst 1, 1) := by decide +kernel
theorem dL_send_18 : decode cL_send 18 = .ok (.ireturn, 1) := by decide +kernel
theorem dL_send_19 : decode cL_send 19 = .ok (.astore 5, 2) := by decide +kernel
theorem dL_send_21 : decode cL_send 21 = .ok (.iconst 2, 1) := by decide +kernel
theorem dL_send_22 : decode cL_send 22 = .ok (.ireturn, 1) := by decide +kernel
theorem dL_send_23 : decode cL_send 23 = .ok (.iconst 0, 1) := by decide +kernel
theorem dL_send_24 : decode cL_send 24 = .ok (.ireturn, 1) := by decide +kernel
theorem dL_home_0 : decode cL_home 0 = .ok (.aload_n 3, 1) := by decide +kernel
theorem dL_home_1 : decode cL_home 1 = .ok (.iconst 0, 1) := by decide +kernel
theorem dL_home_2 : decode cL_home 2 = .ok (.aload_n 0, 1) := by decide +kernel
theorem dL_home_3 : decode cL_home 3 = .ok (.iload_n 1, 1) := by decide +kernel
theorem dL_home_4 : decode cL_home 4 = .ok (.iload_n 2, 1) := by decide +kernel
theorem dL_home_5 : decode cL_home 5 = .ok (.invokevirtual 36, 3) := by decide +kernel
theorem dL_home_8 : decode cL_home 8 = .ok (.i2l, 1) := by decide +kernel
theorem dL_home_9 : decode cL_home 9 = .ok (.lastore, 1) := by decide +kernel
theorem dL_home_10 : decode cL_home 10 = .ok (.goto 11, 3) := by decide +kernel
theorem dL_home_13 : decode cL_home 13 = .ok (.astore 4, 2) := by decide +kernel
theorem dL_home_15 : decode cL_home 15 = .ok (.iconst 1, 1) := by decide +kernel
theorem dL_home_16 : decode cL_home 16 = .ok (.ireturn, 1) := by decide +kernel
theorem dL_home_17 : decode cL_home 17 = .ok (.astore 4, 2) := by decide +kernel
theorem dL_home_19 : decode cL_home 19 = .ok (.iconst 2, 1) := by decide +kernel
theorem dL_home_20 : decode cL_home 20 = .ok (.ireturn, 1) := by decide +kernel
theorem dL_home_21 : decode cL_home 21 = .ok (.iconst 0, 1) := by decide +kernel
theorem dL_home_22 : decode cL_home 22 = .ok (.ireturn, 1) := by decide +kernel
theorem dL_trader_0 : decode cL_trader 0 = .ok (.aload 7, 2) := by decide +kernel
theorem dL_trader_2 : decode cL_trader 2 = .ok (.iconst 0, 1) := by decide +kernel
theorem dL_trader_3 : decode cL_trader 3 = .ok (.aload_n 0, 1) := by decide +kernel
theorem dL_trader_4 : decode cL_trader 4 = .ok (.iload_n 1, 1) := by decide +kernel
theorem dL_trader_5 : decode cL_trader 5 = .ok (.iload_n 2, 1) := by decide +kernel
theorem dL_trader_6 : decode cL_trader 6 = .ok (.iload_n 3, 1) := by decide +kernel
theorem dL_trader_7 : decode cL_trader 7 = .ok (.iload 4, 2) := by decide +kernel
theorem dL_trader_9 : decode cL_trader 9 = .ok (.iload 5, 2) := by decide +kernel
theorem dL_trader_11 : decode cL_trader 11 = .ok (.iload 6, 2) := by decide +kernel
theorem dL_trader_13 : decode cL_trader 13 = .ok (.invokevirtual 39, 3) := by decide +kernel
theorem dL_trader_16 : decode cL_trader 16 = .ok (.i2l, 1) := by decide +kernel
theorem dL_trader_17 : decode cL_trader 17 = .ok (.lastore, 1) := by decide +kernel
theorem dL_trader_18 : decode cL_trader 18 = .ok (.goto 15, 3) := by decide +kernel
theorem dL_trader_21 : decode cL_trader 21 = .ok (.astore 8, 2) := by decide +kernel
theorem dL_trader_23 : decode cL_trader 23 = .ok (.iconst 1, 1) := by decide +kernel
theorem dL_trader_24 : decode cL_trader 24 = .ok (.ireturn, 1) := by decide +kernel
theorem dL_trader_25 : decode cL_trader 25 = .ok (.astore 8, 2) := by decide +kernel
theorem dL_trader_27 : decode cL_trader 27 = .ok (.iconst 2, 1) := by decide +kernel
theorem dL_trader_28 : decode cL_trader 28 = .ok (.ireturn, 1) := by decide +kernel
theorem dL_trader_29 : decode cL_trader 29 = .ok (.astore 8, 2) := by decide +kernel
theorem dL_trader_31 : decode cL_trader 31 = .ok (.iconst 3, 1) := by decide +kernel
theorem dL_trader_32 : decode cL_trader 32 = .ok (.ireturn, 1) := by decide +kernel
theorem dL_trader_33 : decode cL_trader 33 = .ok (.iconst 0, 1) := by decide +kernel
theorem dL_trader_34 : decode cL_trader 34 = .ok (.ireturn, 1) := by decide +kernel
theorem dL_pass_0 : decode cL_pass 0 = .ok (.aload_n 2, 1) := by decide +kernel
theorem dL_pass_1 : decode cL_pass 1 = .ok (.iconst 0, 1) := by decide +kernel
theorem dL_pass_2 : decode cL_pass 2 = .ok (.aload_n 0, 1) := by decide +kernel
theorem dL_pass_3 : decode cL_pass 3 = .ok (.iload_n 1, 1) := by decide +kernel
theorem dL_pass_4 : decode cL_pass 4 = .ok (.invokevirtual 43, 3) := by decide +kernel
theorem dL_pass_7 : decode cL_pass 7 = .ok (.i2l, 1) := by decide +kernel
theorem dL_pass_8 : decode cL_pass 8 = .ok (.lastore, 1) := by decide +kernel
theorem dL_pass_9 : decode cL_pass 9 = .ok (.goto 6, 3) := by decide +kernel
theorem dL_pass_12 : decode cL_pass 12 = .ok (.astore_n 3, 1) := by decide +kernel
theorem dL_pass_13 : decode cL_pass 13 = .ok (.iconst 1, 1) := by decide +kernel
theorem dL_pass_14 : decode cL_pass 14 = .ok (.ireturn, 1) := by decide +kernel
theorem dL_pass_15 : decode cL_pass 15 = .ok (.iconst 0, 1) := by decide +kernel
theorem dL_pass_16 : decode cL_pass 16 = .ok (.ireturn, 1) := by decide +kernel
theorem dL_works_0 : decode cL_works 0 = .ok (.aload_n 2, 1) := by decide +kernel
theorem dL_works_1 : decode cL_works 1 = .ok (.iconst 0, 1) := by decide +kernel
theorem dL_works_2 : decode cL_works 2 = .ok (.aload_n 0, 1) := by decide +kernel
theorem dL_works_3 : decode cL_works 3 = .ok (.iload_n 1, 1) := by decide +kernel
theorem dL_works_4 : decode cL_works 4 = .ok (.invokevirtual 47, 3) := by decide +kernel
theorem dL_works_7 : decode cL_works 7 = .ok (.ifCond .eq 7, 3) := by decide +kernel
theorem dL_works_10 : decode cL_works 10 = .ok (.lconst 1, 1) := by decide +kernel
theorem dL_works_11 : decode cL_works 11 = .ok (.goto 4, 3) := by decide +kernel
theorem dL_works_14 : decode cL_works 14 = .ok (.lconst 0, 1) := by decide +kernel
theorem dL_works_15 : decode cL_works 15 = .ok (.lastore, 1) := by decide +kernel
theorem dL_works_16 : decode cL_works 16 = .ok (.goto 6, 3) := by decide +kernel
theorem dL_works_19 : decode cL_works 19 = .ok (.astore_n 3, 1) := by decide +kernel
theorem dL_works_20 : decode cL_works 20 = .ok (.iconst 1, 1) := by decide +kernel
theorem dL_works_21 : decode cL_works 21 = .ok (.ireturn, 1) := by decide +kernel
theorem dL_works_22 : decode cL_works 22 = .ok (.iconst 0, 1) := by decide +kernel
theorem dL_works_23 : decode cL_works 23 = .ok (.ireturn, 1) := by decide +kernel
theorem dL_faultAt_0 : decode cL_faultAt 0 = .ok (.aload_n 2, 1) := by decide +kernel
theorem dL_faultAt_1 : decode cL_faultAt 1 = .ok (.iconst 0, 1) := by decide +kernel
theorem dL_faultAt_2 : decode cL_faultAt 2 = .ok (.aload_n 0, 1) := by decide +kernel
theorem dL_faultAt_3 : decode cL_faultAt 3 = .ok (.iload_n 1, 1) := by decide +kernel
theorem dL_faultAt_4 : decode cL_faultAt 4 = .ok (.invokevirtual 51, 3) := by decide +kernel
theorem dL_faultAt_7 : decode cL_faultAt 7 = .ok (.i2l, 1) := by decide +kernel
theorem dL_faultAt_8 : decode cL_faultAt 8 = .ok (.lastore, 1) := by decide +kernel
theorem dL_faultAt_9 : decode cL_faultAt 9 = .ok (.goto 6, 3) := by decide +kernel
theorem dL_faultAt_12 : decode cL_faultAt 12 = .ok (.astore_n 3, 1) := by decide +kernel
theorem dL_faultAt_13 : decode cL_faultAt 13 = .ok (.iconst 1, 1) := by decide +kernel
theorem dL_faultAt_14 : decode cL_faultAt 14 = .ok (.ireturn, 1) := by decide +kernel
theorem dL_faultAt_15 : decode cL_faultAt 15 = .ok (.iconst 0, 1) := by decide +kernel
theorem dL_faultAt_16 : decode cL_faultAt 16 = .ok (.ireturn, 1) := by decide +kernel
theorem dL_shipOf_0 : decode cL_shipOf 0 = .ok (.aload_n 3, 1) := by decide +kernel
theorem dL_shipOf_1 : decode cL_shipOf 1 = .ok (.iconst 0, 1) := by decide +kernel
theorem dL_shipOf_2 : decode cL_shipOf 2 = .ok (.aload_n 0, 1) := by decide +kernel
theorem dL_shipOf_3 : decode cL_shipOf 3 = .ok (.iload_n 1, 1) := by decide +kernel
theorem dL_shipOf_4 : decode cL_shipOf 4 = .ok (.iload_n 2, 1) := by decide +kernel
theorem dL_shipOf_5 : decode cL_shipOf 5 = .ok (.invokevirtual 54, 3) := by decide +kernel
theorem dL_shipOf_8 : decode cL_shipOf 8 = .ok (.i2l, 1) := by decide +kernel
theorem dL_shipOf_9 : decode cL_shipOf 9 = .ok (.lastore, 1) := by decide +kernel
theorem dL_shipOf_10 : decode cL_shipOf 10 = .ok (.goto 11, 3) := by decide +kernel
theorem dL_shipOf_13 : decode cL_shipOf 13 = .ok (.astore 4, 2) := by decide +kernel
theorem dL_shipOf_15 : decode cL_shipOf 15 = .ok (.iconst 1, 1) := by decide +kernel
theorem dL_shipOf_16 : decode cL_shipOf 16 = .ok (.ireturn, 1) := by decide +kernel
theorem dL_shipOf_17 : decode cL_shipOf 17 = .ok (.astore 4, 2) := by decide +kernel
theorem dL_shipOf_19 : decode cL_shipOf 19 = .ok (.iconst 2, 1) := by decide +kernel
theorem dL_shipOf_20 : decode cL_shipOf 20 = .ok (.ireturn, 1) := by decide +kernel
theorem dL_shipOf_21 : decode cL_shipOf 21 = .ok (.iconst 0, 1) := by decide +kernel
theorem dL_shipOf_22 : decode cL_shipOf 22 = .ok (.ireturn, 1) := by decide +kernel
theorem dL_way_0 : decode cL_way 0 = .ok (.aload_n 3, 1) := by decide +kernel
theorem dL_way_1 : decode cL_way 1 = .ok (.iconst 0, 1) := by decide +kernel
theorem dL_way_2 : decode cL_way 2 = .ok (.aload_n 0, 1) := by decide +kernel
theorem dL_way_3 : decode cL_way 3 = .ok (.iload_n 1, 1) := by decide +kernel
theorem dL_way_4 : decode cL_way 4 = .ok (.iload_n 2, 1) := by decide +kernel
theorem dL_way_5 : decode cL_way 5 = .ok (.invokevirtual 57, 3) := by decide +kernel
theorem dL_way_8 : decode cL_way 8 = .ok (.i2l, 1) := by decide +kernel
theorem dL_way_9 : decode cL_way 9 = .ok (.lastore, 1) := by decide +kernel
theorem dL_way_10 : decode cL_way 10 = .ok (.goto 7, 3) := by decide +kernel
theorem dL_way_13 : decode cL_way 13 = .ok (.astore 4, 2) := by decide +kernel
theorem dL_way_15 : decode cL_way 15 = .ok (.iconst 1, 1) := by decide +kernel
theorem dL_way_16 : decode cL_way 16 = .ok (.ireturn, 1) := by decide +kernel
theorem dL_way_17 : decode cL_way 17 = .ok (.iconst 0, 1) := by decide +kernel
theorem dL_way_18 : decode cL_way 18 = .ok (.ireturn, 1) := by decide +kernel
theorem dL_sum_0 : decode cL_sum 0 = .ok (.aload_n 3, 1) := by decide +kernel
theorem dL_sum_1 : decode cL_sum 1 = .ok (.iconst 0, 1) := by decide +kernel
theorem dL_sum_2 : decode cL_sum 2 = .ok (.aload_n 0, 1) := by decide +kernel
theorem dL_sum_3 : decode cL_sum 3 = .ok (.iload_n 1, 1) := by decide +kernel
theorem dL_sum_4 : decode cL_sum 4 = .ok (.iload_n 2, 1) := by decide +kernel
theorem dL_sum_5 : decode cL_sum 5 = .ok (.invokevirtual 60, 3) := by decide +kernel
theorem dL_sum_8 : decode cL_sum 8 = .ok (.i2l, 1) := by decide +kernel
theorem dL_sum_9 : decode cL_sum 9 = .ok (.lastore, 1) := by decide +kernel
theorem dL_sum_10 : decode cL_sum 10 = .ok (.goto 11, 3) := by decide +kernel
theorem dL_sum_13 : decode cL_sum 13 = .ok (.astore 4, 2) := by decide +kernel
theorem dL_sum_15 : decode cL_sum 15 = .ok (.iconst 1, 1) := by decide +kernel
theorem dL_sum_16 : decode cL_sum 16 = .ok (.ireturn, 1) := by decide +kernel
theorem dL_sum_17 : decode cL_sum 17 = .ok (.astore 4, 2) := by decide +kernel
theorem dL_sum_19 : decode cL_sum 19 = .ok (.iconst 2, 1) := by decide +kernel
theorem dL_sum_20 : decode cL_sum 20 = .ok (.ireturn, 1) := by decide +kernel
theorem dL_sum_21 : decode cL_sum 21 = .ok (.iconst 0, 1) := by decide +kernel
theorem dL_sum_22 : decode cL_sum 22 = .ok (.ireturn, 1) := by decide +kernel
theorem dL_sumAnew_0 : decode cL_sumAnew 0 = .ok (.aload_n 2, 1) := by decide +kernel
theorem dL_sumAnew_1 : decode cL_sumAnew 1 = .ok (.iconst 0, 1) := by decide +kernel
theorem dL_sumAnew_2 : decode cL_sumAnew 2 = .ok (.aload_n 0, 1) := by decide +kernel
theorem dL_sumAnew_3 : decode cL_sumAnew 3 = .ok (.iload_n 1, 1) := by decide +kernel
theorem dL_sumAnew_4 : decode cL_sumAnew 4 = .ok (.invokevirtual 63, 3) := by decide +kernel
theorem dL_sumAnew_7 : decode cL_sumAnew 7 = .ok (.i2l, 1) := by decide +kernel
theorem dL_sumAnew_8 : decode cL_sumAnew 8 = .ok (.lastore, 1) := by decide +kernel
theorem dL_sumAnew_9 : decode cL_sumAnew 9 = .ok (.goto 6, 3) := by decide +kernel
theorem dL_sumAnew_12 : decode cL_sumAnew 12 = .ok (.astore_n 3, 1) := by decide +kernel
theorem dL_sumAnew_13 : decode cL_sumAnew 13 = .ok (.iconst 1, 1) := by decide +kernel
theorem dL_sumAnew_14 : decode cL_sumAnew 14 = .ok (.ireturn, 1) := by decide +kernel
theorem dL_sumAnew_15 : decode cL_sumAnew 15 = .ok (.iconst 0, 1) := by decide +kernel
theorem dL_sumAnew_16 : decode cL_sumAnew 16 = .ok (.ireturn, 1) := by decide +kernel
theorem dL_account_0 : decode cL_account 0 = .ok (.aload_n 3, 1) := by decide +kernel
theorem dL_account_1 : decode cL_account 1 = .ok (.iconst 0, 1) := by decide +kernel
theorem dL_account_2 : decode cL_account 2 = .ok (.aload_n 0, 1) := by decide +kernel
theorem dL_account_3 : decode cL_account 3 = .ok (.iload_n 1, 1) := by decide +kernel
theorem dL_account_4 : decode cL_account 4 = .ok (.iload_n 2, 1) := by decide +kernel
theorem dL_account_5 : decode cL_account 5 = .ok (.invokevirtual 66, 3) := by decide +kernel
theorem dL_account_8 : decode cL_account 8 = .ok (.lastore, 1) := by decide +kernel
theorem dL_account_9 : decode cL_account 9 = .ok (.goto 11, 3) := by decide +kernel
theorem dL_account_12 : decode cL_account 12 = .ok (.astore 4, 2) := by decide +kernel
theorem dL_account_14 : decode cL_account 14 = .ok (.iconst 1, 1) := by decide +kernel
theorem dL_account_15 : decode cL_account 15 = .ok (.ireturn, 1) := by decide +kernel
theorem dL_account_16 : decode cL_account 16 = .ok (.astore 4, 2) := by decide +kernel
theorem dL_account_18 : decode cL_account 18 = .ok (.iconst 2, 1) := by decide +kernel
theorem dL_account_19 : decode cL_account 19 = .ok (.ireturn, 1) := by decide +kernel
theorem dL_account_20 : decode cL_account 20 = .ok (.iconst 0, 1) := by decide +kernel
theorem dL_account_21 : decode cL_account 21 = .ok (.ireturn, 1) := by decide +kernel
theorem dL_reach_0 : decode cL_reach 0 = .ok (.aload_n 2, 1) := by decide +kernel
theorem dL_reach_1 : decode cL_reach 1 = .ok (.iconst 0, 1) := by decide +kernel
theorem dL_reach_2 : decode cL_reach 2 = .ok (.aload_n 0, 1) := by decide +kernel
theorem dL_reach_3 : decode cL_reach 3 = .ok (.iload_n 1, 1) := by decide +kernel
theorem dL_reach_4 : decode cL_reach 4 = .ok (.invokevirtual 70, 3) := by decide +kernel
theorem dL_reach_7 : decode cL_reach 7 = .ok (.i2l, 1) := by decide +kernel
theorem dL_reach_8 : decode cL_reach 8 = .ok (.lastore, 1) := by decide +kernel
theorem dL_reach_9 : decode cL_reach 9 = .ok (.goto 6, 3) := by decide +kernel
theorem dL_reach_12 : decode cL_reach 12 = .ok (.astore_n 3, 1) := by decide +kernel
theorem dL_reach_13 : decode cL_reach 13 = .ok (.iconst 1, 1) := by decide +kernel
theorem dL_reach_14 : decode cL_reach 14 = .ok (.ireturn, 1) := by decide +kernel
theorem dL_reach_15 : decode cL_reach 15 = .ok (.iconst 0, 1) := by decide +kernel
theorem dL_reach_16 : decode cL_reach 16 = .ok (.ireturn, 1) := by decide +kernel
end
section
theorem dL_law_0 : decode cL_law 0 = .ok (.new 8, 3) := by decide +kernel
theorem dL_law_3 : decode cL_law 3 = .ok (.dup, 1) := by decide +kernel
theorem dL_law_4 : decode cL_law 4 = .ok (.invokespecial 73, 3) := by decide +kernel
theorem dL_law_7 : decode cL_law 7 = .ok (.astore_n 1, 1) := by decide +kernel
theorem dL_law_8 : decode cL_law 8 = .ok (.new 74, 3) := by decide +kernel
theorem dL_law_11 : decode cL_law 11 = .ok (.dup, 1) := by decide +kernel
theorem dL_law_12 : decode cL_law 12 = .ok (.invokespecial 76, 3) := by decide +kernel
theorem dL_law_15 : decode cL_law 15 = .ok (.astore_n 2, 1) := by decide +kernel
theorem dL_law_16 : decode cL_law 16 = .ok (.iconst 1, 1) := by decide +kernel
theorem dL_law_17 : decode cL_law 17 = .ok (.newarray .long, 2) := by decide +kernel
theorem dL_law_19 : decode cL_law 19 = .ok (.astore_n 3, 1) := by decide +kernel
theorem dL_law_20 : decode cL_law 20 = .ok (.iconst 0, 1) := by decide +kernel
theorem dL_law_21 : decode cL_law 21 = .ok (.istore 4, 2) := by decide +kernel
theorem dL_law_23 : decode cL_law 23 = .ok (.iload 4, 2) := by decide +kernel
theorem dL_law_25 : decode cL_law 25 = .ok (.aload_n 0, 1) := by decide +kernel
theorem dL_law_26 : decode cL_law 26 = .ok (.arraylength, 1) := by decide +kernel
theorem dL_law_27 : decode cL_law 27 = .ok (.bipush 7, 2) := by decide +kernel
theorem dL_law_29 : decode cL_law 29 = .ok (.isub, 1) := by decide +kernel
theorem dL_law_30 : decode cL_law 30 = .ok (.if_icmp .gt 1300, 3) := by decide +kernel
theorem dL_law_33 : decode cL_law 33 = .ok (.aload_n 0, 1) := by decide +kernel
theorem dL_law_34 : decode cL_law 34 = .ok (.iload 4, 2) := by decide +kernel
theorem dL_law_36 : decode cL_law 36 = .ok (.iaload, 1) := by decide +kernel
theorem dL_law_37 : decode cL_law 37 = .ok (.bipush 31, 2) := by decide +kernel
theorem dL_law_39 : decode cL_law 39 = .ok (.iand, 1) := by decide +kernel
theorem dL_law_40 : decode cL_law 40 = .ok (.tableswitch 1284 0 16 #[84, 152, 256, 324, 392, 460, 540, 608, 726, 782, 845, 901, 969, 1037, 1105, 1161, 1228], 84) := by decide +kernel
theorem dL_law_124 : decode cL_law 124 = .ok (.aload_n 1, 1) := by decide +kernel
theorem dL_law_125 : decode cL_law 125 = .ok (.aload_n 0, 1) := by decide +kernel
theorem dL_law_126 : decode cL_law 126 = .ok (.iload 4, 2) := by decide +kernel
theorem dL_law_128 : decode cL_law 128 = .ok (.iconst 1, 1) := by decide +kernel
theorem dL_law_129 : decode cL_law 129 = .ok (.iadd, 1) := by decide +kernel
theorem dL_law_130 : decode cL_law 130 = .ok (.iaload, 1) := by decide +kernel
theorem dL_law_131 : decode cL_law 131 = .ok (.aload_n 0, 1) := by decide +kernel
theorem dL_law_132 : decode cL_law 132 = .ok (.iload 4, 2) := by decide +kernel
theorem dL_law_134 : decode cL_law 134 = .ok (.iconst 2, 1) := by decide +kernel
theorem dL_law_135 : decode cL_law 135 = .ok (.iadd, 1) := by decide +kernel
theorem dL_law_136 : decode cL_law 136 = .ok (.iaload, 1) := by decide +kernel
theorem dL_law_137 : decode cL_law 137 = .ok (.aload_n 3, 1) := by decide +kernel
theorem dL_law_138 : decode cL_law 138 = .ok (.invokestatic 77, 3) := by decide +kernel
theorem dL_law_141 : decode cL_law 141 = .ok (.istore 5, 2) := by decide +kernel
theorem dL_law_143 : decode cL_law 143 = .ok (.aload_n 2, 1) := by decide +kernel
theorem dL_law_144 : decode cL_law 144 = .ok (.aload_n 0, 1) := by decide +kernel
theorem dL_law_145 : decode cL_law 145 = .ok (.iload 4, 2) := by decide +kernel
theorem dL_law_147 : decode cL_law 147 = .ok (.iconst 1, 1) := by decide +kernel
theorem dL_law_148 : decode cL_law 148 = .ok (.iadd, 1) := by decide +kernel
theorem dL_law_149 : decode cL_law 149 = .ok (.iaload, 1) := by decide +kernel
theorem dL_law_150 : decode cL_law 150 = .ok (.aload_n 0, 1) := by decide +kernel
theorem dL_law_151 : decode cL_law 151 = .ok (.iload 4, 2) := by decide +kernel
theorem dL_law_153 : decode cL_law 153 = .ok (.iconst 2, 1) := by decide +kernel
theorem dL_law_154 : decode cL_law 154 = .ok (.iadd, 1) := by decide +kernel
theorem dL_law_155 : decode cL_law 155 = .ok (.iaload, 1) := by decide +kernel
theorem dL_law_156 : decode cL_law 156 = .ok (.invokevirtual 82, 3) := by decide +kernel
theorem dL_law_159 : decode cL_law 159 = .ok (.istore 6, 2) := by decide +kernel
theorem dL_law_161 : decode cL_law 161 = .ok (.aload_n 2, 1) := by decide +kernel
theorem dL_law_162 : decode cL_law 162 = .ok (.invokevirtual 83, 3) := by decide +kernel
theorem dL_law_165 : decode cL_law 165 = .ok (.iload 5, 2) := by decide +kernel
theorem dL_law_167 : decode cL_law 167 = .ok (.if_icmp .eq 5, 3) := by decide +kernel
theorem dL_law_170 : decode cL_law 170 = .ok (.iconst 0, 1) := by decide +kernel
theorem dL_law_171 : decode cL_law 171 = .ok (.ireturn, 1) := by decide +kernel
theorem dL_law_172 : decode cL_law 172 = .ok (.iload 5, 2) := by decide +kernel
theorem dL_law_174 : decode cL_law 174 = .ok (.ifCond .ne 15, 3) := by decide +kernel
theorem dL_law_177 : decode cL_law 177 = .ok (.aload_n 3, 1) := by decide +kernel
theorem dL_law_178 : decode cL_law 178 = .ok (.iconst 0, 1) := by decide +kernel
theorem dL_law_179 : decode cL_law 179 = .ok (.laload, 1) := by decide +kernel
theorem dL_law_180 : decode cL_law 180 = .ok (.iload 6, 2) := by decide +kernel
theorem dL_law_182 : decode cL_law 182 = .ok (.i2l, 1) := by decide +kernel
theorem dL_law_183 : decode cL_law 183 = .ok (.lcmp, 1) := by decide +kernel
theorem dL_law_184 : decode cL_law 184 = .ok (.ifCond .eq 5, 3) := by decide +kernel
theorem dL_law_187 : decode cL_law 187 = .ok (.iconst 0, 1) := by decide +kernel
theorem dL_law_188 : decode cL_law 188 = .ok (.ireturn, 1) := by decide +kernel
theorem dL_law_189 : decode cL_law 189 = .ok (.goto 1135, 3) := by decide +kernel
theorem dL_law_192 : decode cL_law 192 = .ok (.aload_n 1, 1) := by decide +kernel
theorem dL_law_193 : decode cL_law 193 = .ok (.aload_n 0, 1) := by decide +kernel
theorem dL_law_194 : decode cL_law 194 = .ok (.iload 4, 2) := by decide +kernel
theorem dL_law_196 : decode cL_law 196 = .ok (.iconst 1, 1) := by decide +kernel
theorem dL_law_197 : decode cL_law 197 = .ok (.iadd, 1) := by decide +kernel
theorem dL_law_198 : decode cL_law 198 = .ok (.iaload, 1) := by decide +kernel
theorem dL_law_199 : decode cL_law 199 = .ok (.aload_n 0, 1) := by decide +kernel
theorem dL_law_200 : decode cL_law 200 = .ok (.iload 4, 2) := by decide +kernel
theorem dL_law_202 : decode cL_law 202 = .ok (.iconst 2, 1) := by decide +kernel
theorem dL_law_203 : decode cL_law 203 = .ok (.iadd, 1) := by decide +kernel
theorem dL_law_204 : decode cL_law 204 = .ok (.iaload, 1) := by decide +kernel
theorem dL_law_205 : decode cL_law 205 = .ok (.aload_n 0, 1) := by decide +kernel
theorem dL_law_206 : decode cL_law 206 = .ok (.iload 4, 2) := by decide +kernel
theorem dL_law_208 : decode cL_law 208 = .ok (.iconst 3, 1) := by decide +kernel
theorem dL_law_209 : decode cL_law 209 = .ok (.iadd, 1) := by decide +kernel
theorem dL_law_210 : decode cL_law 210 = .ok (.iaload, 1) := by decide +kernel
theorem dL_law_211 : decode cL_law 211 = .ok (.aload_n 0, 1) := by decide +kernel
theorem dL_law_212 : decode cL_law 212 = .ok (.iload 4, 2) := by decide +kernel
theorem dL_law_214 : decode cL_law 214 = .ok (.iconst 4, 1) := by decide +kernel
theorem dL_law_215 : decode cL_law 215 = .ok (.iadd, 1) := by decide +kernel
theorem dL_law_216 : decode cL_law 216 = .ok (.iaload, 1) := by decide +kernel
theorem dL_law_217 : decode cL_law 217 = .ok (.aload_n 0, 1) := by decide +kernel
theorem dL_law_218 : decode cL_law 218 = .ok (.iload 4, 2) := by decide +kernel
theorem dL_law_220 : decode cL_law 220 = .ok (.iconst 5, 1) := by decide +kernel
theorem dL_law_221 : decode cL_law 221 = .ok (.iadd, 1) := by decide +kernel
theorem dL_law_222 : decode cL_law 222 = .ok (.iaload, 1) := by decide +kernel
theorem dL_law_223 : decode cL_law 223 = .ok (.aload_n 3, 1) := by decide +kernel
theorem dL_law_224 : decode cL_law 224 = .ok (.invokestatic 87, 3) := by decide +kernel
theorem dL_law_227 : decode cL_law 227 = .ok (.istore 5, 2) := by decide +kernel
theorem dL_law_229 : decode cL_law 229 = .ok (.aload_n 2, 1) := by decide +kernel
theorem dL_law_230 : decode cL_law 230 = .ok (.aload_n 0, 1) := by decide +kernel
theorem dL_law_231 : decode cL_law 231 = .ok (.iload 4, 2) := by decide +kernel
theorem dL_law_233 : decode cL_law 233 = .ok (.iconst 1, 1) := by decide +kernel
theorem dL_law_234 : decode cL_law 234 = .ok (.iadd, 1) := by decide +kernel
theorem dL_law_235 : decode cL_law 235 = .ok (.iaload, 1) := by decide +kernel
theorem dL_law_236 : decode cL_law 236 = .ok (.aload_n 0, 1) := by decide +kernel
theorem dL_law_237 : decode cL_law 237 = .ok (.iload 4, 2) := by decide +kernel
theorem dL_law_239 : decode cL_law 239 = .ok (.iconst 2, 1) := by decide +kernel
theorem dL_law_240 : decode cL_law 240 = .ok (.iadd, 1) := by decide +kernel
theorem dL_law_241 : decode cL_law 241 = .ok (.iaload, 1) := by decide +kernel
theorem dL_law_242 : decode cL_law 242 = .ok (.aload_n 0, 1) := by decide +kernel
theorem dL_law_243 : decode cL_law 243 = .ok (.iload 4, 2) := by decide +kernel
theorem dL_law_245 : decode cL_law 245 = .ok (.iconst 3, 1) := by decide +kernel
theorem dL_law_246 : decode cL_law 246 = .ok (.iadd, 1) := by decide +kernel
theorem dL_law_247 : decode cL_law 247 = .ok (.iaload, 1) := by decide +kernel
theorem dL_law_248 : decode cL_law 248 = .ok (.aload_n 0, 1) := by decide +kernel
theorem dL_law_249 : decode cL_law 249 = .ok (.iload 4, 2) := by decide +kernel
theorem dL_law_251 : decode cL_law 251 = .ok (.iconst 4, 1) := by decide +kernel
theorem dL_law_252 : decode cL_law 252 = .ok (.iadd, 1) := by decide +kernel
theorem dL_law_253 : decode cL_law 253 = .ok (.iaload, 1) := by decide +kernel
theorem dL_law_254 : decode cL_law 254 = .ok (.aload_n 0, 1) := by decide +kernel
theorem dL_law_255 : decode cL_law 255 = .ok (.iload 4, 2) := by decide +kernel
theorem dL_law_257 : decode cL_law 257 = .ok (.iconst 5, 1) := by decide +kernel
theorem dL_law_258 : decode cL_law 258 = .ok (.iadd, 1) := by decide +kernel
theorem dL_law_259 : decode cL_law 259 = .ok (.iaload, 1) := by decide +kernel
theorem dL_law_260 : decode cL_law 260 = .ok (.invokevirtual 90, 3) := by decide +kernel
theorem dL_law_263 : decode cL_law 263 = .ok (.istore 6, 2) := by decide +kernel
theorem dL_law_265 : decode cL_law 265 = .ok (.aload_n 2, 1) := by decide +kernel
theorem dL_law_266 : decode cL_law 266 = .ok (.invokevirtual 83, 3) := by decide +kernel
theorem dL_law_269 : decode cL_law 269 = .ok (.iload 5, 2) := by decide +kernel
theorem dL_law_271 : decode cL_law 271 = .ok (.if_icmp .eq 5, 3) := by decide +kernel
theorem dL_law_274 : decode cL_law 274 = .ok (.iconst 0, 1) := by decide +kernel
theorem dL_law_275 : decode cL_law 275 = .ok (.ireturn, 1) := by decide +kernel
theorem dL_law_276 : decode cL_law 276 = .ok (.iload 5, 2) := by decide +kernel
theorem dL_law_278 : decode cL_law 278 = .ok (.ifCond .ne 15, 3) := by decide +kernel
theorem dL_law_281 : decode cL_law 281 = .ok (.aload_n 3, 1) := by decide +kernel
theorem dL_law_282 : decode cL_law 282 = .ok (.iconst 0, 1) := by decide +kernel
theorem dL_law_283 : decode cL_law 283 = .ok (.laload, 1) := by decide +kernel
theorem dL_law_284 : decode cL_law 284 = .ok (.iload 6, 2) := by decide +kernel
theorem dL_law_286 : decode cL_law 286 = .ok (.i2l, 1) := by decide +kernel
end
section
theorem dL_law_287 : decode cL_law 287 = .ok (.lcmp, 1) := by decide +kernel
theorem dL_law_288 : decode cL_law 288 = .ok (.ifCond .eq 5, 3) := by decide +kernel
theorem dL_law_291 : decode cL_law 291 = .ok (.iconst 0, 1) := by decide +kernel
theorem dL_law_292 : decode cL_law 292 = .ok (.ireturn, 1) := by decide +kernel
theorem dL_law_293 : decode cL_law 293 = .ok (.goto 1031, 3) := by decide +kernel
theorem dL_law_296 : decode cL_law 296 = .ok (.aload_n 1, 1) := by decide +kernel
theorem dL_law_297 : decode cL_law 297 = .ok (.aload_n 0, 1) := by decide +kernel
theorem dL_law_298 : decode cL_law 298 = .ok (.iload 4, 2) := by decide +kernel
theorem dL_law_300 : decode cL_law 300 = .ok (.iconst 1, 1) := by decide +kernel
theorem dL_law_301 : decode cL_law 301 = .ok (.iadd, 1) := by decide +kernel
theorem dL_law_302 : decode cL_law 302 = .ok (.iaload, 1) := by decide +kernel
theorem dL_law_303 : decode cL_law 303 = .ok (.aload_n 0, 1) := by decide +kernel
theorem dL_law_304 : decode cL_law 304 = .ok (.iload 4, 2) := by decide +kernel
theorem dL_law_306 : decode cL_law 306 = .ok (.iconst 2, 1) := by decide +kernel
theorem dL_law_307 : decode cL_law 307 = .ok (.iadd, 1) := by decide +kernel
theorem dL_law_308 : decode cL_law 308 = .ok (.iaload, 1) := by decide +kernel
theorem dL_law_309 : decode cL_law 309 = .ok (.aload_n 3, 1) := by decide +kernel
theorem dL_law_310 : decode cL_law 310 = .ok (.invokestatic 91, 3) := by decide +kernel
theorem dL_law_313 : decode cL_law 313 = .ok (.istore 5, 2) := by decide +kernel
theorem dL_law_315 : decode cL_law 315 = .ok (.aload_n 2, 1) := by decide +kernel
theorem dL_law_316 : decode cL_law 316 = .ok (.aload_n 0, 1) := by decide +kernel
theorem dL_law_317 : decode cL_law 317 = .ok (.iload 4, 2) := by decide +kernel
theorem dL_law_319 : decode cL_law 319 = .ok (.iconst 1, 1) := by decide +kernel
theorem dL_law_320 : decode cL_law 320 = .ok (.iadd, 1) := by decide +kernel
theorem dL_law_321 : decode cL_law 321 = .ok (.iaload, 1) := by decide +kernel
theorem dL_law_322 : decode cL_law 322 = .ok (.aload_n 0, 1) := by decide +kernel
theorem dL_law_323 : decode cL_law 323 = .ok (.iload 4, 2) := by decide +kernel
theorem dL_law_325 : decode cL_law 325 = .ok (.iconst 2, 1) := by decide +kernel
theorem dL_law_326 : decode cL_law 326 = .ok (.iadd, 1) := by decide +kernel
theorem dL_law_327 : decode cL_law 327 = .ok (.iaload, 1) := by decide +kernel
theorem dL_law_328 : decode cL_law 328 = .ok (.invokevirtual 93, 3) := by decide +kernel
theorem dL_law_331 : decode cL_law 331 = .ok (.istore 6, 2) := by decide +kernel
theorem dL_law_333 : decode cL_law 333 = .ok (.aload_n 2, 1) := by decide +kernel
theorem dL_law_334 : decode cL_law 334 = .ok (.invokevirtual 83, 3) := by decide +kernel
theorem dL_law_337 : decode cL_law 337 = .ok (.iload 5, 2) := by decide +kernel
theorem dL_law_339 : decode cL_law 339 = .ok (.if_icmp .eq 5, 3) := by decide +kernel
theorem dL_law_342 : decode cL_law 342 = .ok (.iconst 0, 1) := by decide +kernel
theorem dL_law_343 : decode cL_law 343 = .ok (.ireturn, 1) := by decide +kernel
theorem dL_law_344 : decode cL_law 344 = .ok (.iload 5, 2) := by decide +kernel
theorem dL_law_346 : decode cL_law 346 = .ok (.ifCond .ne 15, 3) := by decide +kernel
theorem dL_law_349 : decode cL_law 349 = .ok (.aload_n 3, 1) := by decide +kernel
theorem dL_law_350 : decode cL_law 350 = .ok (.iconst 0, 1) := by decide +kernel
theorem dL_law_351 : decode cL_law 351 = .ok (.laload, 1) := by decide +kernel
theorem dL_law_352 : decode cL_law 352 = .ok (.iload 6, 2) := by decide +kernel
theorem dL_law_354 : decode cL_law 354 = .ok (.i2l, 1) := by decide +kernel
theorem dL_law_355 : decode cL_law 355 = .ok (.lcmp, 1) := by decide +kernel
theorem dL_law_356 : decode cL_law 356 = .ok (.ifCond .eq 5, 3) := by decide +kernel
theorem dL_law_359 : decode cL_law 359 = .ok (.iconst 0, 1) := by decide +kernel
theorem dL_law_360 : decode cL_law 360 = .ok (.ireturn, 1) := by decide +kernel
theorem dL_law_361 : decode cL_law 361 = .ok (.goto 963, 3) := by decide +kernel
theorem dL_law_364 : decode cL_law 364 = .ok (.aload_n 1, 1) := by decide +kernel
theorem dL_law_365 : decode cL_law 365 = .ok (.aload_n 0, 1) := by decide +kernel
theorem dL_law_366 : decode cL_law 366 = .ok (.iload 4, 2) := by decide +kernel
theorem dL_law_368 : decode cL_law 368 = .ok (.iconst 1, 1) := by decide +kernel
theorem dL_law_369 : decode cL_law 369 = .ok (.iadd, 1) := by decide +kernel
theorem dL_law_370 : decode cL_law 370 = .ok (.iaload, 1) := by decide +kernel
theorem dL_law_371 : decode cL_law 371 = .ok (.aload_n 0, 1) := by decide +kernel
theorem dL_law_372 : decode cL_law 372 = .ok (.iload 4, 2) := by decide +kernel
theorem dL_law_374 : decode cL_law 374 = .ok (.iconst 2, 1) := by decide +kernel
theorem dL_law_375 : decode cL_law 375 = .ok (.iadd, 1) := by decide +kernel
theorem dL_law_376 : decode cL_law 376 = .ok (.iaload, 1) := by decide +kernel
theorem dL_law_377 : decode cL_law 377 = .ok (.aload_n 3, 1) := by decide +kernel
theorem dL_law_378 : decode cL_law 378 = .ok (.invokestatic 94, 3) := by decide +kernel
theorem dL_law_381 : decode cL_law 381 = .ok (.istore 5, 2) := by decide +kernel
theorem dL_law_383 : decode cL_law 383 = .ok (.aload_n 2, 1) := by decide +kernel
theorem dL_law_384 : decode cL_law 384 = .ok (.aload_n 0, 1) := by decide +kernel
theorem dL_law_385 : decode cL_law 385 = .ok (.iload 4, 2) := by decide +kernel
theorem dL_law_387 : decode cL_law 387 = .ok (.iconst 1, 1) := by decide +kernel
theorem dL_law_388 : decode cL_law 388 = .ok (.iadd, 1) := by decide +kernel
theorem dL_law_389 : decode cL_law 389 = .ok (.iaload, 1) := by decide +kernel
theorem dL_law_390 : decode cL_law 390 = .ok (.aload_n 0, 1) := by decide +kernel
theorem dL_law_391 : decode cL_law 391 = .ok (.iload 4, 2) := by decide +kernel
theorem dL_law_393 : decode cL_law 393 = .ok (.iconst 2, 1) := by decide +kernel
theorem dL_law_394 : decode cL_law 394 = .ok (.iadd, 1) := by decide +kernel
theorem dL_law_395 : decode cL_law 395 = .ok (.iaload, 1) := by decide +kernel
theorem dL_law_396 : decode cL_law 396 = .ok (.invokevirtual 96, 3) := by decide +kernel
theorem dL_law_399 : decode cL_law 399 = .ok (.istore 6, 2) := by decide +kernel
theorem dL_law_401 : decode cL_law 401 = .ok (.aload_n 2, 1) := by decide +kernel
theorem dL_law_402 : decode cL_law 402 = .ok (.invokevirtual 83, 3) := by decide +kernel
theorem dL_law_405 : decode cL_law 405 = .ok (.iload 5, 2) := by decide +kernel
theorem dL_law_407 : decode cL_law 407 = .ok (.if_icmp .eq 5, 3) := by decide +kernel
theorem dL_law_410 : decode cL_law 410 = .ok (.iconst 0, 1) := by decide +kernel
theorem dL_law_411 : decode cL_law 411 = .ok (.ireturn, 1) := by decide +kernel
theorem dL_law_412 : decode cL_law 412 = .ok (.iload 5, 2) := by decide +kernel
theorem dL_law_414 : decode cL_law 414 = .ok (.ifCond .ne 15, 3) := by decide +kernel
theorem dL_law_417 : decode cL_law 417 = .ok (.aload_n 3, 1) := by decide +kernel
theorem dL_law_418 : decode cL_law 418 = .ok (.iconst 0, 1) := by decide +kernel
theorem dL_law_419 : decode cL_law 419 = .ok (.laload, 1) := by decide +kernel
theorem dL_law_420 : decode cL_law 420 = .ok (.iload 6, 2) := by decide +kernel
theorem dL_law_422 : decode cL_law 422 = .ok (.i2l, 1) := by decide +kernel
theorem dL_law_423 : decode cL_law 423 = .ok (.lcmp, 1) := by decide +kernel
theorem dL_law_424 : decode cL_law 424 = .ok (.ifCond .eq 5, 3) := by decide +kernel
theorem dL_law_427 : decode cL_law 427 = .ok (.iconst 0, 1) := by decide +kernel
theorem dL_law_428 : decode cL_law 428 = .ok (.ireturn, 1) := by decide +kernel
theorem dL_law_429 : decode cL_law 429 = .ok (.goto 895, 3) := by decide +kernel
theorem dL_law_432 : decode cL_law 432 = .ok (.aload_n 1, 1) := by decide +kernel
theorem dL_law_433 : decode cL_law 433 = .ok (.aload_n 0, 1) := by decide +kernel
theorem dL_law_434 : decode cL_law 434 = .ok (.iload 4, 2) := by decide +kernel
theorem dL_law_436 : decode cL_law 436 = .ok (.iconst 1, 1) := by decide +kernel
theorem dL_law_437 : decode cL_law 437 = .ok (.iadd, 1) := by decide +kernel
theorem dL_law_438 : decode cL_law 438 = .ok (.iaload, 1) := by decide +kernel
theorem dL_law_439 : decode cL_law 439 = .ok (.aload_n 0, 1) := by decide +kernel
theorem dL_law_440 : decode cL_law 440 = .ok (.iload 4, 2) := by decide +kernel
theorem dL_law_442 : decode cL_law 442 = .ok (.iconst 2, 1) := by decide +kernel
theorem dL_law_443 : decode cL_law 443 = .ok (.iadd, 1) := by decide +kernel
theorem dL_law_444 : decode cL_law 444 = .ok (.iaload, 1) := by decide +kernel
theorem dL_law_445 : decode cL_law 445 = .ok (.aload_n 3, 1) := by decide +kernel
theorem dL_law_446 : decode cL_law 446 = .ok (.invokestatic 97, 3) := by decide +kernel
theorem dL_law_449 : decode cL_law 449 = .ok (.istore 5, 2) := by decide +kernel
theorem dL_law_451 : decode cL_law 451 = .ok (.aload_n 2, 1) := by decide +kernel
theorem dL_law_452 : decode cL_law 452 = .ok (.aload_n 0, 1) := by decide +kernel
theorem dL_law_453 : decode cL_law 453 = .ok (.iload 4, 2) := by decide +kernel
theorem dL_law_455 : decode cL_law 455 = .ok (.iconst 1, 1) := by decide +kernel
theorem dL_law_456 : decode cL_law 456 = .ok (.iadd, 1) := by decide +kernel
theorem dL_law_457 : decode cL_law 457 = .ok (.iaload, 1) := by decide +kernel
theorem dL_law_458 : decode cL_law 458 = .ok (.aload_n 0, 1) := by decide +kernel
theorem dL_law_459 : decode cL_law 459 = .ok (.iload 4, 2) := by decide +kernel
theorem dL_law_461 : decode cL_law 461 = .ok (.iconst 2, 1) := by decide +kernel
theorem dL_law_462 : decode cL_law 462 = .ok (.iadd, 1) := by decide +kernel
theorem dL_law_463 : decode cL_law 463 = .ok (.iaload, 1) := by decide +kernel
theorem dL_law_464 : decode cL_law 464 = .ok (.invokevirtual 99, 3) := by decide +kernel
theorem dL_law_467 : decode cL_law 467 = .ok (.istore 6, 2) := by decide +kernel
theorem dL_law_469 : decode cL_law 469 = .ok (.aload_n 2, 1) := by decide +kernel
theorem dL_law_470 : decode cL_law 470 = .ok (.invokevirtual 83, 3) := by decide +kernel
theorem dL_law_473 : decode cL_law 473 = .ok (.iload 5, 2) := by decide +kernel
theorem dL_law_475 : decode cL_law 475 = .ok (.if_icmp .eq 5, 3) := by decide +kernel
theorem dL_law_478 : decode cL_law 478 = .ok (.iconst 0, 1) := by decide +kernel
theorem dL_law_479 : decode cL_law 479 = .ok (.ireturn, 1) := by decide +kernel
theorem dL_law_480 : decode cL_law 480 = .ok (.iload 5, 2) := by decide +kernel
theorem dL_law_482 : decode cL_law 482 = .ok (.ifCond .ne 15, 3) := by decide +kernel
theorem dL_law_485 : decode cL_law 485 = .ok (.aload_n 3, 1) := by decide +kernel
theorem dL_law_486 : decode cL_law 486 = .ok (.iconst 0, 1) := by decide +kernel
theorem dL_law_487 : decode cL_law 487 = .ok (.laload, 1) := by decide +kernel
theorem dL_law_488 : decode cL_law 488 = .ok (.iload 6, 2) := by decide +kernel
theorem dL_law_490 : decode cL_law 490 = .ok (.i2l, 1) := by decide +kernel
theorem dL_law_491 : decode cL_law 491 = .ok (.lcmp, 1) := by decide +kernel
theorem dL_law_492 : decode cL_law 492 = .ok (.ifCond .eq 5, 3) := by decide +kernel
theorem dL_law_495 : decode cL_law 495 = .ok (.iconst 0, 1) := by decide +kernel
theorem dL_law_496 : decode cL_law 496 = .ok (.ireturn, 1) := by decide +kernel
theorem dL_law_497 : decode cL_law 497 = .ok (.goto 827, 3) := by decide +kernel
end
section
theorem dL_law_500 : decode cL_law 500 = .ok (.aload_n 1, 1) := by decide +kernel
theorem dL_law_501 : decode cL_law 501 = .ok (.aload_n 0, 1) := by decide +kernel
theorem dL_law_502 : decode cL_law 502 = .ok (.iload 4, 2) := by decide +kernel
theorem dL_law_504 : decode cL_law 504 = .ok (.iconst 1, 1) := by decide +kernel
theorem dL_law_505 : decode cL_law 505 = .ok (.iadd, 1) := by decide +kernel
theorem dL_law_506 : decode cL_law 506 = .ok (.iaload, 1) := by decide +kernel
theorem dL_law_507 : decode cL_law 507 = .ok (.aload_n 0, 1) := by decide +kernel
theorem dL_law_508 : decode cL_law 508 = .ok (.iload 4, 2) := by decide +kernel
theorem dL_law_510 : decode cL_law 510 = .ok (.iconst 2, 1) := by decide +kernel
theorem dL_law_511 : decode cL_law 511 = .ok (.iadd, 1) := by decide +kernel
theorem dL_law_512 : decode cL_law 512 = .ok (.iaload, 1) := by decide +kernel
theorem dL_law_513 : decode cL_law 513 = .ok (.aload_n 0, 1) := by decide +kernel
theorem dL_law_514 : decode cL_law 514 = .ok (.iload 4, 2) := by decide +kernel
theorem dL_law_516 : decode cL_law 516 = .ok (.iconst 3, 1) := by decide +kernel
theorem dL_law_517 : decode cL_law 517 = .ok (.iadd, 1) := by decide +kernel
theorem dL_law_518 : decode cL_law 518 = .ok (.iaload, 1) := by decide +kernel
theorem dL_law_519 : decode cL_law 519 = .ok (.aload_n 3, 1) := by decide +kernel
theorem dL_law_520 : decode cL_law 520 = .ok (.invokestatic 100, 3) := by decide +kernel
theorem dL_law_523 : decode cL_law 523 = .ok (.istore 5, 2) := by decide +kernel
theorem dL_law_525 : decode cL_law 525 = .ok (.aload_n 2, 1) := by decide +kernel
theorem dL_law_526 : decode cL_law 526 = .ok (.aload_n 0, 1) := by decide +kernel
theorem dL_law_527 : decode cL_law 527 = .ok (.iload 4, 2) := by decide +kernel
theorem dL_law_529 : decode cL_law 529 = .ok (.iconst 1, 1) := by decide +kernel
theorem dL_law_530 : decode cL_law 530 = .ok (.iadd, 1) := by decide +kernel
theorem dL_law_531 : decode cL_law 531 = .ok (.iaload, 1) := by decide +kernel
theorem dL_law_532 : decode cL_law 532 = .ok (.aload_n 0, 1) := by decide +kernel
theorem dL_law_533 : decode cL_law 533 = .ok (.iload 4, 2) := by decide +kernel
theorem dL_law_535 : decode cL_law 535 = .ok (.iconst 2, 1) := by decide +kernel
theorem dL_law_536 : decode cL_law 536 = .ok (.iadd, 1) := by decide +kernel
theorem dL_law_537 : decode cL_law 537 = .ok (.iaload, 1) := by decide +kernel
theorem dL_law_538 : decode cL_law 538 = .ok (.aload_n 0, 1) := by decide +kernel
theorem dL_law_539 : decode cL_law 539 = .ok (.iload 4, 2) := by decide +kernel
theorem dL_law_541 : decode cL_law 541 = .ok (.iconst 3, 1) := by decide +kernel
theorem dL_law_542 : decode cL_law 542 = .ok (.iadd, 1) := by decide +kernel
theorem dL_law_543 : decode cL_law 543 = .ok (.iaload, 1) := by decide +kernel
theorem dL_law_544 : decode cL_law 544 = .ok (.invokevirtual 103, 3) := by decide +kernel
theorem dL_law_547 : decode cL_law 547 = .ok (.istore 6, 2) := by decide +kernel
theorem dL_law_549 : decode cL_law 549 = .ok (.aload_n 2, 1) := by decide +kernel
theorem dL_law_550 : decode cL_law 550 = .ok (.invokevirtual 83, 3) := by decide +kernel
theorem dL_law_553 : decode cL_law 553 = .ok (.iload 5, 2) := by decide +kernel
theorem dL_law_555 : decode cL_law 555 = .ok (.if_icmp .eq 5, 3) := by decide +kernel
theorem dL_law_558 : decode cL_law 558 = .ok (.iconst 0, 1) := by decide +kernel
theorem dL_law_559 : decode cL_law 559 = .ok (.ireturn, 1) := by decide +kernel
theorem dL_law_560 : decode cL_law 560 = .ok (.iload 5, 2) := by decide +kernel
theorem dL_law_562 : decode cL_law 562 = .ok (.ifCond .ne 15, 3) := by decide +kernel
theorem dL_law_565 : decode cL_law 565 = .ok (.aload_n 3, 1) := by decide +kernel
theorem dL_law_566 : decode cL_law 566 = .ok (.iconst 0, 1) := by decide +kernel
theorem dL_law_567 : decode cL_law 567 = .ok (.laload, 1) := by decide +kernel
theorem dL_law_568 : decode cL_law 568 = .ok (.iload 6, 2) := by decide +kernel
theorem dL_law_570 : decode cL_law 570 = .ok (.i2l, 1) := by decide +kernel
theorem dL_law_571 : decode cL_law 571 = .ok (.lcmp, 1) := by decide +kernel
theorem dL_law_572 : decode cL_law 572 = .ok (.ifCond .eq 5, 3) := by decide +kernel
theorem dL_law_575 : decode cL_law 575 = .ok (.iconst 0, 1) := by decide +kernel
theorem dL_law_576 : decode cL_law 576 = .ok (.ireturn, 1) := by decide +kernel
theorem dL_law_577 : decode cL_law 577 = .ok (.goto 747, 3) := by decide +kernel
theorem dL_law_580 : decode cL_law 580 = .ok (.aload_n 1, 1) := by decide +kernel
theorem dL_law_581 : decode cL_law 581 = .ok (.aload_n 0, 1) := by decide +kernel
theorem dL_law_582 : decode cL_law 582 = .ok (.iload 4, 2) := by decide +kernel
theorem dL_law_584 : decode cL_law 584 = .ok (.iconst 1, 1) := by decide +kernel
theorem dL_law_585 : decode cL_law 585 = .ok (.iadd, 1) := by decide +kernel
theorem dL_law_586 : decode cL_law 586 = .ok (.iaload, 1) := by decide +kernel
theorem dL_law_587 : decode cL_law 587 = .ok (.aload_n 0, 1) := by decide +kernel
theorem dL_law_588 : decode cL_law 588 = .ok (.iload 4, 2) := by decide +kernel
theorem dL_law_590 : decode cL_law 590 = .ok (.iconst 2, 1) := by decide +kernel
theorem dL_law_591 : decode cL_law 591 = .ok (.iadd, 1) := by decide +kernel
theorem dL_law_592 : decode cL_law 592 = .ok (.iaload, 1) := by decide +kernel
theorem dL_law_593 : decode cL_law 593 = .ok (.aload_n 3, 1) := by decide +kernel
theorem dL_law_594 : decode cL_law 594 = .ok (.invokestatic 104, 3) := by decide +kernel
theorem dL_law_597 : decode cL_law 597 = .ok (.istore 5, 2) := by decide +kernel
theorem dL_law_599 : decode cL_law 599 = .ok (.aload_n 2, 1) := by decide +kernel
theorem dL_law_600 : decode cL_law 600 = .ok (.aload_n 0, 1) := by decide +kernel
theorem dL_law_601 : decode cL_law 601 = .ok (.iload 4, 2) := by decide +kernel
theorem dL_law_603 : decode cL_law 603 = .ok (.iconst 1, 1) := by decide +kernel
theorem dL_law_604 : decode cL_law 604 = .ok (.iadd, 1) := by decide +kernel
theorem dL_law_605 : decode cL_law 605 = .ok (.iaload, 1) := by decide +kernel
theorem dL_law_606 : decode cL_law 606 = .ok (.aload_n 0, 1) := by decide +kernel
theorem dL_law_607 : decode cL_law 607 = .ok (.iload 4, 2) := by decide +kernel
theorem dL_law_609 : decode cL_law 609 = .ok (.iconst 2, 1) := by decide +kernel
theorem dL_law_610 : decode cL_law 610 = .ok (.iadd, 1) := by decide +kernel
theorem dL_law_611 : decode cL_law 611 = .ok (.iaload, 1) := by decide +kernel
theorem dL_law_612 : decode cL_law 612 = .ok (.invokevirtual 106, 3) := by decide +kernel
theorem dL_law_615 : decode cL_law 615 = .ok (.istore 6, 2) := by decide +kernel
theorem dL_law_617 : decode cL_law 617 = .ok (.aload_n 2, 1) := by decide +kernel
theorem dL_law_618 : decode cL_law 618 = .ok (.invokevirtual 83, 3) := by decide +kernel
theorem dL_law_621 : decode cL_law 621 = .ok (.iload 5, 2) := by decide +kernel
theorem dL_law_623 : decode cL_law 623 = .ok (.if_icmp .eq 5, 3) := by decide +kernel
theorem dL_law_626 : decode cL_law 626 = .ok (.iconst 0, 1) := by decide +kernel
theorem dL_law_627 : decode cL_law 627 = .ok (.ireturn, 1) := by decide +kernel
theorem dL_law_628 : decode cL_law 628 = .ok (.iload 5, 2) := by decide +kernel
theorem dL_law_630 : decode cL_law 630 = .ok (.ifCond .ne 15, 3) := by decide +kernel
theorem dL_law_633 : decode cL_law 633 = .ok (.aload_n 3, 1) := by decide +kernel
theorem dL_law_634 : decode cL_law 634 = .ok (.iconst 0, 1) := by decide +kernel
theorem dL_law_635 : decode cL_law 635 = .ok (.laload, 1) := by decide +kernel
theorem dL_law_636 : decode cL_law 636 = .ok (.iload 6, 2) := by decide +kernel
theorem dL_law_638 : decode cL_law 638 = .ok (.i2l, 1) := by decide +kernel
theorem dL_law_639 : decode cL_law 639 = .ok (.lcmp, 1) := by decide +kernel
theorem dL_law_640 : decode cL_law 640 = .ok (.ifCond .eq 5, 3) := by decide +kernel
theorem dL_law_643 : decode cL_law 643 = .ok (.iconst 0, 1) := by decide +kernel
theorem dL_law_644 : decode cL_law 644 = .ok (.ireturn, 1) := by decide +kernel
theorem dL_law_645 : decode cL_law 645 = .ok (.goto 679, 3) := by decide +kernel
theorem dL_law_648 : decode cL_law 648 = .ok (.aload_n 1, 1) := by decide +kernel
theorem dL_law_649 : decode cL_law 649 = .ok (.aload_n 0, 1) := by decide +kernel
theorem dL_law_650 : decode cL_law 650 = .ok (.iload 4, 2) := by decide +kernel
theorem dL_law_652 : decode cL_law 652 = .ok (.iconst 1, 1) := by decide +kernel
theorem dL_law_653 : decode cL_law 653 = .ok (.iadd, 1) := by decide +kernel
theorem dL_law_654 : decode cL_law 654 = .ok (.iaload, 1) := by decide +kernel
theorem dL_law_655 : decode cL_law 655 = .ok (.aload_n 0, 1) := by decide +kernel
theorem dL_law_656 : decode cL_law 656 = .ok (.iload 4, 2) := by decide +kernel
theorem dL_law_658 : decode cL_law 658 = .ok (.iconst 2, 1) := by decide +kernel
theorem dL_law_659 : decode cL_law 659 = .ok (.iadd, 1) := by decide +kernel
theorem dL_law_660 : decode cL_law 660 = .ok (.iaload, 1) := by decide +kernel
theorem dL_law_661 : decode cL_law 661 = .ok (.aload_n 0, 1) := by decide +kernel
theorem dL_law_662 : decode cL_law 662 = .ok (.iload 4, 2) := by decide +kernel
theorem dL_law_664 : decode cL_law 664 = .ok (.iconst 3, 1) := by decide +kernel
theorem dL_law_665 : decode cL_law 665 = .ok (.iadd, 1) := by decide +kernel
theorem dL_law_666 : decode cL_law 666 = .ok (.iaload, 1) := by decide +kernel
theorem dL_law_667 : decode cL_law 667 = .ok (.aload_n 0, 1) := by decide +kernel
theorem dL_law_668 : decode cL_law 668 = .ok (.iload 4, 2) := by decide +kernel
theorem dL_law_670 : decode cL_law 670 = .ok (.iconst 4, 1) := by decide +kernel
theorem dL_law_671 : decode cL_law 671 = .ok (.iadd, 1) := by decide +kernel
theorem dL_law_672 : decode cL_law 672 = .ok (.iaload, 1) := by decide +kernel
theorem dL_law_673 : decode cL_law 673 = .ok (.aload_n 0, 1) := by decide +kernel
theorem dL_law_674 : decode cL_law 674 = .ok (.iload 4, 2) := by decide +kernel
theorem dL_law_676 : decode cL_law 676 = .ok (.iconst 5, 1) := by decide +kernel
theorem dL_law_677 : decode cL_law 677 = .ok (.iadd, 1) := by decide +kernel
theorem dL_law_678 : decode cL_law 678 = .ok (.iaload, 1) := by decide +kernel
theorem dL_law_679 : decode cL_law 679 = .ok (.aload_n 0, 1) := by decide +kernel
theorem dL_law_680 : decode cL_law 680 = .ok (.iload 4, 2) := by decide +kernel
theorem dL_law_682 : decode cL_law 682 = .ok (.bipush 6, 2) := by decide +kernel
theorem dL_law_684 : decode cL_law 684 = .ok (.iadd, 1) := by decide +kernel
theorem dL_law_685 : decode cL_law 685 = .ok (.iaload, 1) := by decide +kernel
theorem dL_law_686 : decode cL_law 686 = .ok (.aload_n 3, 1) := by decide +kernel
theorem dL_law_687 : decode cL_law 687 = .ok (.invokestatic 107, 3) := by decide +kernel
theorem dL_law_690 : decode cL_law 690 = .ok (.istore 5, 2) := by decide +kernel
theorem dL_law_692 : decode cL_law 692 = .ok (.aload_n 2, 1) := by decide +kernel
theorem dL_law_693 : decode cL_law 693 = .ok (.aload_n 0, 1) := by decide +kernel
theorem dL_law_694 : decode cL_law 694 = .ok (.iload 4, 2) := by decide +kernel
theorem dL_law_696 : decode cL_law 696 = .ok (.iconst 1, 1) := by decide +kernel
theorem dL_law_697 : decode cL_law 697 = .ok (.iadd, 1) := by decide +kernel
theorem dL_law_698 : decode cL_law 698 = .ok (.iaload, 1) := by decide +kernel
end
section
theorem dL_law_699 : decode cL_law 699 = .ok (.aload_n 0, 1) := by decide +kernel
theorem dL_law_700 : decode cL_law 700 = .ok (.iload 4, 2) := by decide +kernel
theorem dL_law_702 : decode cL_law 702 = .ok (.iconst 2, 1) := by decide +kernel
theorem dL_law_703 : decode cL_law 703 = .ok (.iadd, 1) := by decide +kernel
theorem dL_law_704 : decode cL_law 704 = .ok (.iaload, 1) := by decide +kernel
theorem dL_law_705 : decode cL_law 705 = .ok (.aload_n 0, 1) := by decide +kernel
theorem dL_law_706 : decode cL_law 706 = .ok (.iload 4, 2) := by decide +kernel
theorem dL_law_708 : decode cL_law 708 = .ok (.iconst 3, 1) := by decide +kernel
theorem dL_law_709 : decode cL_law 709 = .ok (.iadd, 1) := by decide +kernel
theorem dL_law_710 : decode cL_law 710 = .ok (.iaload, 1) := by decide +kernel
theorem dL_law_711 : decode cL_law 711 = .ok (.aload_n 0, 1) := by decide +kernel
theorem dL_law_712 : decode cL_law 712 = .ok (.iload 4, 2) := by decide +kernel
theorem dL_law_714 : decode cL_law 714 = .ok (.iconst 4, 1) := by decide +kernel
theorem dL_law_715 : decode cL_law 715 = .ok (.iadd, 1) := by decide +kernel
theorem dL_law_716 : decode cL_law 716 = .ok (.iaload, 1) := by decide +kernel
theorem dL_law_717 : decode cL_law 717 = .ok (.aload_n 0, 1) := by decide +kernel
theorem dL_law_718 : decode cL_law 718 = .ok (.iload 4, 2) := by decide +kernel
theorem dL_law_720 : decode cL_law 720 = .ok (.iconst 5, 1) := by decide +kernel
theorem dL_law_721 : decode cL_law 721 = .ok (.iadd, 1) := by decide +kernel
theorem dL_law_722 : decode cL_law 722 = .ok (.iaload, 1) := by decide +kernel
theorem dL_law_723 : decode cL_law 723 = .ok (.aload_n 0, 1) := by decide +kernel
theorem dL_law_724 : decode cL_law 724 = .ok (.iload 4, 2) := by decide +kernel
theorem dL_law_726 : decode cL_law 726 = .ok (.bipush 6, 2) := by decide +kernel
theorem dL_law_728 : decode cL_law 728 = .ok (.iadd, 1) := by decide +kernel
theorem dL_law_729 : decode cL_law 729 = .ok (.iaload, 1) := by decide +kernel
theorem dL_law_730 : decode cL_law 730 = .ok (.invokevirtual 110, 3) := by decide +kernel
theorem dL_law_733 : decode cL_law 733 = .ok (.istore 6, 2) := by decide +kernel
theorem dL_law_735 : decode cL_law 735 = .ok (.aload_n 2, 1) := by decide +kernel
theorem dL_law_736 : decode cL_law 736 = .ok (.invokevirtual 83, 3) := by decide +kernel
theorem dL_law_739 : decode cL_law 739 = .ok (.iload 5, 2) := by decide +kernel
theorem dL_law_741 : decode cL_law 741 = .ok (.if_icmp .eq 5, 3) := by decide +kernel
theorem dL_law_744 : decode cL_law 744 = .ok (.iconst 0, 1) := by decide +kernel
theorem dL_law_745 : decode cL_law 745 = .ok (.ireturn, 1) := by decide +kernel
theorem dL_law_746 : decode cL_law 746 = .ok (.iload 5, 2) := by decide +kernel
theorem dL_law_748 : decode cL_law 748 = .ok (.ifCond .ne 15, 3) := by decide +kernel
theorem dL_law_751 : decode cL_law 751 = .ok (.aload_n 3, 1) := by decide +kernel
theorem dL_law_752 : decode cL_law 752 = .ok (.iconst 0, 1) := by decide +kernel
theorem dL_law_753 : decode cL_law 753 = .ok (.laload, 1) := by decide +kernel
theorem dL_law_754 : decode cL_law 754 = .ok (.iload 6, 2) := by decide +kernel
theorem dL_law_756 : decode cL_law 756 = .ok (.i2l, 1) := by decide +kernel
theorem dL_law_757 : decode cL_law 757 = .ok (.lcmp, 1) := by decide +kernel
theorem dL_law_758 : decode cL_law 758 = .ok (.ifCond .eq 5, 3) := by decide +kernel
theorem dL_law_761 : decode cL_law 761 = .ok (.iconst 0, 1) := by decide +kernel
theorem dL_law_762 : decode cL_law 762 = .ok (.ireturn, 1) := by decide +kernel
theorem dL_law_763 : decode cL_law 763 = .ok (.goto 561, 3) := by decide +kernel
theorem dL_law_766 : decode cL_law 766 = .ok (.aload_n 1, 1) := by decide +kernel
theorem dL_law_767 : decode cL_law 767 = .ok (.aload_n 0, 1) := by decide +kernel
theorem dL_law_768 : decode cL_law 768 = .ok (.iload 4, 2) := by decide +kernel
theorem dL_law_770 : decode cL_law 770 = .ok (.iconst 1, 1) := by decide +kernel
theorem dL_law_771 : decode cL_law 771 = .ok (.iadd, 1) := by decide +kernel
theorem dL_law_772 : decode cL_law 772 = .ok (.iaload, 1) := by decide +kernel
theorem dL_law_773 : decode cL_law 773 = .ok (.aload_n 3, 1) := by decide +kernel
theorem dL_law_774 : decode cL_law 774 = .ok (.invokestatic 111, 3) := by decide +kernel
theorem dL_law_777 : decode cL_law 777 = .ok (.istore 5, 2) := by decide +kernel
theorem dL_law_779 : decode cL_law 779 = .ok (.aload_n 2, 1) := by decide +kernel
theorem dL_law_780 : decode cL_law 780 = .ok (.aload_n 0, 1) := by decide +kernel
theorem dL_law_781 : decode cL_law 781 = .ok (.iload 4, 2) := by decide +kernel
theorem dL_law_783 : decode cL_law 783 = .ok (.iconst 1, 1) := by decide +kernel
theorem dL_law_784 : decode cL_law 784 = .ok (.iadd, 1) := by decide +kernel
theorem dL_law_785 : decode cL_law 785 = .ok (.iaload, 1) := by decide +kernel
theorem dL_law_786 : decode cL_law 786 = .ok (.invokevirtual 114, 3) := by decide +kernel
theorem dL_law_789 : decode cL_law 789 = .ok (.istore 6, 2) := by decide +kernel
theorem dL_law_791 : decode cL_law 791 = .ok (.aload_n 2, 1) := by decide +kernel
theorem dL_law_792 : decode cL_law 792 = .ok (.invokevirtual 83, 3) := by decide +kernel
theorem dL_law_795 : decode cL_law 795 = .ok (.iload 5, 2) := by decide +kernel
theorem dL_law_797 : decode cL_law 797 = .ok (.if_icmp .eq 5, 3) := by decide +kernel
theorem dL_law_800 : decode cL_law 800 = .ok (.iconst 0, 1) := by decide +kernel
theorem dL_law_801 : decode cL_law 801 = .ok (.ireturn, 1) := by decide +kernel
theorem dL_law_802 : decode cL_law 802 = .ok (.iload 5, 2) := by decide +kernel
theorem dL_law_804 : decode cL_law 804 = .ok (.ifCond .ne 15, 3) := by decide +kernel
theorem dL_law_807 : decode cL_law 807 = .ok (.aload_n 3, 1) := by decide +kernel
theorem dL_law_808 : decode cL_law 808 = .ok (.iconst 0, 1) := by decide +kernel
theorem dL_law_809 : decode cL_law 809 = .ok (.laload, 1) := by decide +kernel
theorem dL_law_810 : decode cL_law 810 = .ok (.iload 6, 2) := by decide +kernel
theorem dL_law_812 : decode cL_law 812 = .ok (.i2l, 1) := by decide +kernel
theorem dL_law_813 : decode cL_law 813 = .ok (.lcmp, 1) := by decide +kernel
theorem dL_law_814 : decode cL_law 814 = .ok (.ifCond .eq 5, 3) := by decide +kernel
theorem dL_law_817 : decode cL_law 817 = .ok (.iconst 0, 1) := by decide +kernel
theorem dL_law_818 : decode cL_law 818 = .ok (.ireturn, 1) := by decide +kernel
theorem dL_law_819 : decode cL_law 819 = .ok (.goto 505, 3) := by decide +kernel
theorem dL_law_822 : decode cL_law 822 = .ok (.aload_n 1, 1) := by decide +kernel
theorem dL_law_823 : decode cL_law 823 = .ok (.aload_n 0, 1) := by decide +kernel
theorem dL_law_824 : decode cL_law 824 = .ok (.iload 4, 2) := by decide +kernel
theorem dL_law_826 : decode cL_law 826 = .ok (.iconst 1, 1) := by decide +kernel
theorem dL_law_827 : decode cL_law 827 = .ok (.iadd, 1) := by decide +kernel
theorem dL_law_828 : decode cL_law 828 = .ok (.iaload, 1) := by decide +kernel
theorem dL_law_829 : decode cL_law 829 = .ok (.aload_n 3, 1) := by decide +kernel
theorem dL_law_830 : decode cL_law 830 = .ok (.invokestatic 115, 3) := by decide +kernel
theorem dL_law_833 : decode cL_law 833 = .ok (.istore 5, 2) := by decide +kernel
theorem dL_law_835 : decode cL_law 835 = .ok (.aload_n 2, 1) := by decide +kernel
theorem dL_law_836 : decode cL_law 836 = .ok (.aload_n 0, 1) := by decide +kernel
theorem dL_law_837 : decode cL_law 837 = .ok (.iload 4, 2) := by decide +kernel
theorem dL_law_839 : decode cL_law 839 = .ok (.iconst 1, 1) := by decide +kernel
theorem dL_law_840 : decode cL_law 840 = .ok (.iadd, 1) := by decide +kernel
theorem dL_law_841 : decode cL_law 841 = .ok (.iaload, 1) := by decide +kernel
theorem dL_law_842 : decode cL_law 842 = .ok (.invokevirtual 117, 3) := by decide +kernel
theorem dL_law_845 : decode cL_law 845 = .ok (.istore 6, 2) := by decide +kernel
theorem dL_law_847 : decode cL_law 847 = .ok (.aload_n 2, 1) := by decide +kernel
theorem dL_law_848 : decode cL_law 848 = .ok (.invokevirtual 83, 3) := by decide +kernel
theorem dL_law_851 : decode cL_law 851 = .ok (.iload 5, 2) := by decide +kernel
theorem dL_law_853 : decode cL_law 853 = .ok (.if_icmp .eq 5, 3) := by decide +kernel
theorem dL_law_856 : decode cL_law 856 = .ok (.iconst 0, 1) := by decide +kernel
theorem dL_law_857 : decode cL_law 857 = .ok (.ireturn, 1) := by decide +kernel
theorem dL_law_858 : decode cL_law 858 = .ok (.iload 5, 2) := by decide +kernel
theorem dL_law_860 : decode cL_law 860 = .ok (.ifCond .ne 22, 3) := by decide +kernel
theorem dL_law_863 : decode cL_law 863 = .ok (.aload_n 3, 1) := by decide +kernel
theorem dL_law_864 : decode cL_law 864 = .ok (.iconst 0, 1) := by decide +kernel
theorem dL_law_865 : decode cL_law 865 = .ok (.laload, 1) := by decide +kernel
theorem dL_law_866 : decode cL_law 866 = .ok (.iload 6, 2) := by decide +kernel
theorem dL_law_868 : decode cL_law 868 = .ok (.ifCond .eq 7, 3) := by decide +kernel
theorem dL_law_871 : decode cL_law 871 = .ok (.lconst 1, 1) := by decide +kernel
theorem dL_law_872 : decode cL_law 872 = .ok (.goto 4, 3) := by decide +kernel
theorem dL_law_875 : decode cL_law 875 = .ok (.lconst 0, 1) := by decide +kernel
theorem dL_law_876 : decode cL_law 876 = .ok (.lcmp, 1) := by decide +kernel
theorem dL_law_877 : decode cL_law 877 = .ok (.ifCond .eq 5, 3) := by decide +kernel
theorem dL_law_880 : decode cL_law 880 = .ok (.iconst 0, 1) := by decide +kernel
theorem dL_law_881 : decode cL_law 881 = .ok (.ireturn, 1) := by decide +kernel
theorem dL_law_882 : decode cL_law 882 = .ok (.goto 442, 3) := by decide +kernel
theorem dL_law_885 : decode cL_law 885 = .ok (.aload_n 1, 1) := by decide +kernel
theorem dL_law_886 : decode cL_law 886 = .ok (.aload_n 0, 1) := by decide +kernel
theorem dL_law_887 : decode cL_law 887 = .ok (.iload 4, 2) := by decide +kernel
theorem dL_law_889 : decode cL_law 889 = .ok (.iconst 1, 1) := by decide +kernel
theorem dL_law_890 : decode cL_law 890 = .ok (.iadd, 1) := by decide +kernel
theorem dL_law_891 : decode cL_law 891 = .ok (.iaload, 1) := by decide +kernel
theorem dL_law_892 : decode cL_law 892 = .ok (.aload_n 3, 1) := by decide +kernel
theorem dL_law_893 : decode cL_law 893 = .ok (.invokestatic 118, 3) := by decide +kernel
theorem dL_law_896 : decode cL_law 896 = .ok (.istore 5, 2) := by decide +kernel
theorem dL_law_898 : decode cL_law 898 = .ok (.aload_n 2, 1) := by decide +kernel
theorem dL_law_899 : decode cL_law 899 = .ok (.aload_n 0, 1) := by decide +kernel
theorem dL_law_900 : decode cL_law 900 = .ok (.iload 4, 2) := by decide +kernel
theorem dL_law_902 : decode cL_law 902 = .ok (.iconst 1, 1) := by decide +kernel
theorem dL_law_903 : decode cL_law 903 = .ok (.iadd, 1) := by decide +kernel
theorem dL_law_904 : decode cL_law 904 = .ok (.iaload, 1) := by decide +kernel
theorem dL_law_905 : decode cL_law 905 = .ok (.invokevirtual 120, 3) := by decide +kernel
theorem dL_law_908 : decode cL_law 908 = .ok (.istore 6, 2) := by decide +kernel
theorem dL_law_910 : decode cL_law 910 = .ok (.aload_n 2, 1) := by decide +kernel
theorem dL_law_911 : decode cL_law 911 = .ok (.invokevirtual 83, 3) := by decide +kernel
theorem dL_law_914 : decode cL_law 914 = .ok (.iload 5, 2) := by decide +kernel
theorem dL_law_916 : decode cL_law 916 = .ok (.if_icmp .eq 5, 3) := by decide +kernel
theorem dL_law_919 : decode cL_law 919 = .ok (.iconst 0, 1) := by decide +kernel
end
section
theorem dL_law_920 : decode cL_law 920 = .ok (.ireturn, 1) := by decide +kernel
theorem dL_law_921 : decode cL_law 921 = .ok (.iload 5, 2) := by decide +kernel
theorem dL_law_923 : decode cL_law 923 = .ok (.ifCond .ne 15, 3) := by decide +kernel
theorem dL_law_926 : decode cL_law 926 = .ok (.aload_n 3, 1) := by decide +kernel
theorem dL_law_927 : decode cL_law 927 = .ok (.iconst 0, 1) := by decide +kernel
theorem dL_law_928 : decode cL_law 928 = .ok (.laload, 1) := by decide +kernel
theorem dL_law_929 : decode cL_law 929 = .ok (.iload 6, 2) := by decide +kernel
theorem dL_law_931 : decode cL_law 931 = .ok (.i2l, 1) := by decide +kernel
theorem dL_law_932 : decode cL_law 932 = .ok (.lcmp, 1) := by decide +kernel
theorem dL_law_933 : decode cL_law 933 = .ok (.ifCond .eq 5, 3) := by decide +kernel
theorem dL_law_936 : decode cL_law 936 = .ok (.iconst 0, 1) := by decide +kernel
theorem dL_law_937 : decode cL_law 937 = .ok (.ireturn, 1) := by decide +kernel
theorem dL_law_938 : decode cL_law 938 = .ok (.goto 386, 3) := by decide +kernel
theorem dL_law_941 : decode cL_law 941 = .ok (.aload_n 1, 1) := by decide +kernel
theorem dL_law_942 : decode cL_law 942 = .ok (.aload_n 0, 1) := by decide +kernel
theorem dL_law_943 : decode cL_law 943 = .ok (.iload 4, 2) := by decide +kernel
theorem dL_law_945 : decode cL_law 945 = .ok (.iconst 1, 1) := by decide +kernel
theorem dL_law_946 : decode cL_law 946 = .ok (.iadd, 1) := by decide +kernel
theorem dL_law_947 : decode cL_law 947 = .ok (.iaload, 1) := by decide +kernel
theorem dL_law_948 : decode cL_law 948 = .ok (.aload_n 0, 1) := by decide +kernel
theorem dL_law_949 : decode cL_law 949 = .ok (.iload 4, 2) := by decide +kernel
theorem dL_law_951 : decode cL_law 951 = .ok (.iconst 2, 1) := by decide +kernel
theorem dL_law_952 : decode cL_law 952 = .ok (.iadd, 1) := by decide +kernel
theorem dL_law_953 : decode cL_law 953 = .ok (.iaload, 1) := by decide +kernel
theorem dL_law_954 : decode cL_law 954 = .ok (.aload_n 3, 1) := by decide +kernel
theorem dL_law_955 : decode cL_law 955 = .ok (.invokestatic 121, 3) := by decide +kernel
theorem dL_law_958 : decode cL_law 958 = .ok (.istore 5, 2) := by decide +kernel
theorem dL_law_960 : decode cL_law 960 = .ok (.aload_n 2, 1) := by decide +kernel
theorem dL_law_961 : decode cL_law 961 = .ok (.aload_n 0, 1) := by decide +kernel
theorem dL_law_962 : decode cL_law 962 = .ok (.iload 4, 2) := by decide +kernel
theorem dL_law_964 : decode cL_law 964 = .ok (.iconst 1, 1) := by decide +kernel
theorem dL_law_965 : decode cL_law 965 = .ok (.iadd, 1) := by decide +kernel
theorem dL_law_966 : decode cL_law 966 = .ok (.iaload, 1) := by decide +kernel
theorem dL_law_967 : decode cL_law 967 = .ok (.aload_n 0, 1) := by decide +kernel
theorem dL_law_968 : decode cL_law 968 = .ok (.iload 4, 2) := by decide +kernel
theorem dL_law_970 : decode cL_law 970 = .ok (.iconst 2, 1) := by decide +kernel
theorem dL_law_971 : decode cL_law 971 = .ok (.iadd, 1) := by decide +kernel
theorem dL_law_972 : decode cL_law 972 = .ok (.iaload, 1) := by decide +kernel
theorem dL_law_973 : decode cL_law 973 = .ok (.invokevirtual 123, 3) := by decide +kernel
theorem dL_law_976 : decode cL_law 976 = .ok (.istore 6, 2) := by decide +kernel
theorem dL_law_978 : decode cL_law 978 = .ok (.aload_n 2, 1) := by decide +kernel
theorem dL_law_979 : decode cL_law 979 = .ok (.invokevirtual 83, 3) := by decide +kernel
theorem dL_law_982 : decode cL_law 982 = .ok (.iload 5, 2) := by decide +kernel
theorem dL_law_984 : decode cL_law 984 = .ok (.if_icmp .eq 5, 3) := by decide +kernel
theorem dL_law_987 : decode cL_law 987 = .ok (.iconst 0, 1) := by decide +kernel
theorem dL_law_988 : decode cL_law 988 = .ok (.ireturn, 1) := by decide +kernel
theorem dL_law_989 : decode cL_law 989 = .ok (.iload 5, 2) := by decide +kernel
theorem dL_law_991 : decode cL_law 991 = .ok (.ifCond .ne 15, 3) := by decide +kernel
theorem dL_law_994 : decode cL_law 994 = .ok (.aload_n 3, 1) := by decide +kernel
theorem dL_law_995 : decode cL_law 995 = .ok (.iconst 0, 1) := by decide +kernel
theorem dL_law_996 : decode cL_law 996 = .ok (.laload, 1) := by decide +kernel
theorem dL_law_997 : decode cL_law 997 = .ok (.iload 6, 2) := by decide +kernel
theorem dL_law_999 : decode cL_law 999 = .ok (.i2l, 1) := by decide +kernel
theorem dL_law_1000 : decode cL_law 1000 = .ok (.lcmp, 1) := by decide +kernel
theorem dL_law_1001 : decode cL_law 1001 = .ok (.ifCond .eq 5, 3) := by decide +kernel
theorem dL_law_1004 : decode cL_law 1004 = .ok (.iconst 0, 1) := by decide +kernel
theorem dL_law_1005 : decode cL_law 1005 = .ok (.ireturn, 1) := by decide +kernel
theorem dL_law_1006 : decode cL_law 1006 = .ok (.goto 318, 3) := by decide +kernel
theorem dL_law_1009 : decode cL_law 1009 = .ok (.aload_n 1, 1) := by decide +kernel
theorem dL_law_1010 : decode cL_law 1010 = .ok (.aload_n 0, 1) := by decide +kernel
theorem dL_law_1011 : decode cL_law 1011 = .ok (.iload 4, 2) := by decide +kernel
theorem dL_law_1013 : decode cL_law 1013 = .ok (.iconst 1, 1) := by decide +kernel
theorem dL_law_1014 : decode cL_law 1014 = .ok (.iadd, 1) := by decide +kernel
theorem dL_law_1015 : decode cL_law 1015 = .ok (.iaload, 1) := by decide +kernel
theorem dL_law_1016 : decode cL_law 1016 = .ok (.aload_n 0, 1) := by decide +kernel
theorem dL_law_1017 : decode cL_law 1017 = .ok (.iload 4, 2) := by decide +kernel
theorem dL_law_1019 : decode cL_law 1019 = .ok (.iconst 2, 1) := by decide +kernel
theorem dL_law_1020 : decode cL_law 1020 = .ok (.iadd, 1) := by decide +kernel
theorem dL_law_1021 : decode cL_law 1021 = .ok (.iaload, 1) := by decide +kernel
theorem dL_law_1022 : decode cL_law 1022 = .ok (.aload_n 3, 1) := by decide +kernel
theorem dL_law_1023 : decode cL_law 1023 = .ok (.invokestatic 124, 3) := by decide +kernel
theorem dL_law_1026 : decode cL_law 1026 = .ok (.istore 5, 2) := by decide +kernel
theorem dL_law_1028 : decode cL_law 1028 = .ok (.aload_n 2, 1) := by decide +kernel
theorem dL_law_1029 : decode cL_law 1029 = .ok (.aload_n 0, 1) := by decide +kernel
theorem dL_law_1030 : decode cL_law 1030 = .ok (.iload 4, 2) := by decide +kernel
theorem dL_law_1032 : decode cL_law 1032 = .ok (.iconst 1, 1) := by decide +kernel
theorem dL_law_1033 : decode cL_law 1033 = .ok (.iadd, 1) := by decide +kernel
theorem dL_law_1034 : decode cL_law 1034 = .ok (.iaload, 1) := by decide +kernel
theorem dL_law_1035 : decode cL_law 1035 = .ok (.aload_n 0, 1) := by decide +kernel
theorem dL_law_1036 : decode cL_law 1036 = .ok (.iload 4, 2) := by decide +kernel
theorem dL_law_1038 : decode cL_law 1038 = .ok (.iconst 2, 1) := by decide +kernel
theorem dL_law_1039 : decode cL_law 1039 = .ok (.iadd, 1) := by decide +kernel
theorem dL_law_1040 : decode cL_law 1040 = .ok (.iaload, 1) := by decide +kernel
theorem dL_law_1041 : decode cL_law 1041 = .ok (.invokevirtual 126, 3) := by decide +kernel
theorem dL_law_1044 : decode cL_law 1044 = .ok (.istore 6, 2) := by decide +kernel
theorem dL_law_1046 : decode cL_law 1046 = .ok (.aload_n 2, 1) := by decide +kernel
theorem dL_law_1047 : decode cL_law 1047 = .ok (.invokevirtual 83, 3) := by decide +kernel
theorem dL_law_1050 : decode cL_law 1050 = .ok (.iload 5, 2) := by decide +kernel
theorem dL_law_1052 : decode cL_law 1052 = .ok (.if_icmp .eq 5, 3) := by decide +kernel
theorem dL_law_1055 : decode cL_law 1055 = .ok (.iconst 0, 1) := by decide +kernel
theorem dL_law_1056 : decode cL_law 1056 = .ok (.ireturn, 1) := by decide +kernel
theorem dL_law_1057 : decode cL_law 1057 = .ok (.iload 5, 2) := by decide +kernel
theorem dL_law_1059 : decode cL_law 1059 = .ok (.ifCond .ne 15, 3) := by decide +kernel
theorem dL_law_1062 : decode cL_law 1062 = .ok (.aload_n 3, 1) := by decide +kernel
theorem dL_law_1063 : decode cL_law 1063 = .ok (.iconst 0, 1) := by decide +kernel
theorem dL_law_1064 : decode cL_law 1064 = .ok (.laload, 1) := by decide +kernel
theorem dL_law_1065 : decode cL_law 1065 = .ok (.iload 6, 2) := by decide +kernel
theorem dL_law_1067 : decode cL_law 1067 = .ok (.i2l, 1) := by decide +kernel
theorem dL_law_1068 : decode cL_law 1068 = .ok (.lcmp, 1) := by decide +kernel
theorem dL_law_1069 : decode cL_law 1069 = .ok (.ifCond .eq 5, 3) := by decide +kernel
theorem dL_law_1072 : decode cL_law 1072 = .ok (.iconst 0, 1) := by decide +kernel
theorem dL_law_1073 : decode cL_law 1073 = .ok (.ireturn, 1) := by decide +kernel
theorem dL_law_1074 : decode cL_law 1074 = .ok (.goto 250, 3) := by decide +kernel
theorem dL_law_1077 : decode cL_law 1077 = .ok (.aload_n 1, 1) := by decide +kernel
theorem dL_law_1078 : decode cL_law 1078 = .ok (.aload_n 0, 1) := by decide +kernel
theorem dL_law_1079 : decode cL_law 1079 = .ok (.iload 4, 2) := by decide +kernel
theorem dL_law_1081 : decode cL_law 1081 = .ok (.iconst 1, 1) := by decide +kernel
theorem dL_law_1082 : decode cL_law 1082 = .ok (.iadd, 1) := by decide +kernel
theorem dL_law_1083 : decode cL_law 1083 = .ok (.iaload, 1) := by decide +kernel
theorem dL_law_1084 : decode cL_law 1084 = .ok (.aload_n 0, 1) := by decide +kernel
theorem dL_law_1085 : decode cL_law 1085 = .ok (.iload 4, 2) := by decide +kernel
theorem dL_law_1087 : decode cL_law 1087 = .ok (.iconst 2, 1) := by decide +kernel
theorem dL_law_1088 : decode cL_law 1088 = .ok (.iadd, 1) := by decide +kernel
theorem dL_law_1089 : decode cL_law 1089 = .ok (.iaload, 1) := by decide +kernel
theorem dL_law_1090 : decode cL_law 1090 = .ok (.aload_n 3, 1) := by decide +kernel
theorem dL_law_1091 : decode cL_law 1091 = .ok (.invokestatic 127, 3) := by decide +kernel
theorem dL_law_1094 : decode cL_law 1094 = .ok (.istore 5, 2) := by decide +kernel
theorem dL_law_1096 : decode cL_law 1096 = .ok (.aload_n 2, 1) := by decide +kernel
theorem dL_law_1097 : decode cL_law 1097 = .ok (.aload_n 0, 1) := by decide +kernel
theorem dL_law_1098 : decode cL_law 1098 = .ok (.iload 4, 2) := by decide +kernel
theorem dL_law_1100 : decode cL_law 1100 = .ok (.iconst 1, 1) := by decide +kernel
theorem dL_law_1101 : decode cL_law 1101 = .ok (.iadd, 1) := by decide +kernel
theorem dL_law_1102 : decode cL_law 1102 = .ok (.iaload, 1) := by decide +kernel
theorem dL_law_1103 : decode cL_law 1103 = .ok (.aload_n 0, 1) := by decide +kernel
theorem dL_law_1104 : decode cL_law 1104 = .ok (.iload 4, 2) := by decide +kernel
theorem dL_law_1106 : decode cL_law 1106 = .ok (.iconst 2, 1) := by decide +kernel
theorem dL_law_1107 : decode cL_law 1107 = .ok (.iadd, 1) := by decide +kernel
theorem dL_law_1108 : decode cL_law 1108 = .ok (.iaload, 1) := by decide +kernel
theorem dL_law_1109 : decode cL_law 1109 = .ok (.invokevirtual 129, 3) := by decide +kernel
theorem dL_law_1112 : decode cL_law 1112 = .ok (.istore 6, 2) := by decide +kernel
theorem dL_law_1114 : decode cL_law 1114 = .ok (.aload_n 2, 1) := by decide +kernel
theorem dL_law_1115 : decode cL_law 1115 = .ok (.invokevirtual 83, 3) := by decide +kernel
theorem dL_law_1118 : decode cL_law 1118 = .ok (.iload 5, 2) := by decide +kernel
theorem dL_law_1120 : decode cL_law 1120 = .ok (.if_icmp .eq 5, 3) := by decide +kernel
theorem dL_law_1123 : decode cL_law 1123 = .ok (.iconst 0, 1) := by decide +kernel
theorem dL_law_1124 : decode cL_law 1124 = .ok (.ireturn, 1) := by decide +kernel
theorem dL_law_1125 : decode cL_law 1125 = .ok (.iload 5, 2) := by decide +kernel
theorem dL_law_1127 : decode cL_law 1127 = .ok (.ifCond .ne 15, 3) := by decide +kernel
theorem dL_law_1130 : decode cL_law 1130 = .ok (.aload_n 3, 1) := by decide +kernel
theorem dL_law_1131 : decode cL_law 1131 = .ok (.iconst 0, 1) := by decide +kernel
end
section
theorem dL_law_1132 : decode cL_law 1132 = .ok (.laload, 1) := by decide +kernel
theorem dL_law_1133 : decode cL_law 1133 = .ok (.iload 6, 2) := by decide +kernel
theorem dL_law_1135 : decode cL_law 1135 = .ok (.i2l, 1) := by decide +kernel
theorem dL_law_1136 : decode cL_law 1136 = .ok (.lcmp, 1) := by decide +kernel
theorem dL_law_1137 : decode cL_law 1137 = .ok (.ifCond .eq 5, 3) := by decide +kernel
theorem dL_law_1140 : decode cL_law 1140 = .ok (.iconst 0, 1) := by decide +kernel
theorem dL_law_1141 : decode cL_law 1141 = .ok (.ireturn, 1) := by decide +kernel
theorem dL_law_1142 : decode cL_law 1142 = .ok (.goto 182, 3) := by decide +kernel
theorem dL_law_1145 : decode cL_law 1145 = .ok (.aload_n 1, 1) := by decide +kernel
theorem dL_law_1146 : decode cL_law 1146 = .ok (.aload_n 0, 1) := by decide +kernel
theorem dL_law_1147 : decode cL_law 1147 = .ok (.iload 4, 2) := by decide +kernel
theorem dL_law_1149 : decode cL_law 1149 = .ok (.iconst 1, 1) := by decide +kernel
theorem dL_law_1150 : decode cL_law 1150 = .ok (.iadd, 1) := by decide +kernel
theorem dL_law_1151 : decode cL_law 1151 = .ok (.iaload, 1) := by decide +kernel
theorem dL_law_1152 : decode cL_law 1152 = .ok (.aload_n 3, 1) := by decide +kernel
theorem dL_law_1153 : decode cL_law 1153 = .ok (.invokestatic 130, 3) := by decide +kernel
theorem dL_law_1156 : decode cL_law 1156 = .ok (.istore 5, 2) := by decide +kernel
theorem dL_law_1158 : decode cL_law 1158 = .ok (.aload_n 2, 1) := by decide +kernel
theorem dL_law_1159 : decode cL_law 1159 = .ok (.aload_n 0, 1) := by decide +kernel
theorem dL_law_1160 : decode cL_law 1160 = .ok (.iload 4, 2) := by decide +kernel
theorem dL_law_1162 : decode cL_law 1162 = .ok (.iconst 1, 1) := by decide +kernel
theorem dL_law_1163 : decode cL_law 1163 = .ok (.iadd, 1) := by decide +kernel
theorem dL_law_1164 : decode cL_law 1164 = .ok (.iaload, 1) := by decide +kernel
theorem dL_law_1165 : decode cL_law 1165 = .ok (.invokevirtual 132, 3) := by decide +kernel
theorem dL_law_1168 : decode cL_law 1168 = .ok (.istore 6, 2) := by decide +kernel
theorem dL_law_1170 : decode cL_law 1170 = .ok (.aload_n 2, 1) := by decide +kernel
theorem dL_law_1171 : decode cL_law 1171 = .ok (.invokevirtual 83, 3) := by decide +kernel
theorem dL_law_1174 : decode cL_law 1174 = .ok (.iload 5, 2) := by decide +kernel
theorem dL_law_1176 : decode cL_law 1176 = .ok (.if_icmp .eq 5, 3) := by decide +kernel
theorem dL_law_1179 : decode cL_law 1179 = .ok (.iconst 0, 1) := by decide +kernel
theorem dL_law_1180 : decode cL_law 1180 = .ok (.ireturn, 1) := by decide +kernel
theorem dL_law_1181 : decode cL_law 1181 = .ok (.iload 5, 2) := by decide +kernel
theorem dL_law_1183 : decode cL_law 1183 = .ok (.ifCond .ne 15, 3) := by decide +kernel
theorem dL_law_1186 : decode cL_law 1186 = .ok (.aload_n 3, 1) := by decide +kernel
theorem dL_law_1187 : decode cL_law 1187 = .ok (.iconst 0, 1) := by decide +kernel
theorem dL_law_1188 : decode cL_law 1188 = .ok (.laload, 1) := by decide +kernel
theorem dL_law_1189 : decode cL_law 1189 = .ok (.iload 6, 2) := by decide +kernel
theorem dL_law_1191 : decode cL_law 1191 = .ok (.i2l, 1) := by decide +kernel
theorem dL_law_1192 : decode cL_law 1192 = .ok (.lcmp, 1) := by decide +kernel
theorem dL_law_1193 : decode cL_law 1193 = .ok (.ifCond .eq 5, 3) := by decide +kernel
theorem dL_law_1196 : decode cL_law 1196 = .ok (.iconst 0, 1) := by decide +kernel
theorem dL_law_1197 : decode cL_law 1197 = .ok (.ireturn, 1) := by decide +kernel
theorem dL_law_1198 : decode cL_law 1198 = .ok (.goto 126, 3) := by decide +kernel
theorem dL_law_1201 : decode cL_law 1201 = .ok (.aload_n 1, 1) := by decide +kernel
theorem dL_law_1202 : decode cL_law 1202 = .ok (.aload_n 0, 1) := by decide +kernel
theorem dL_law_1203 : decode cL_law 1203 = .ok (.iload 4, 2) := by decide +kernel
theorem dL_law_1205 : decode cL_law 1205 = .ok (.iconst 1, 1) := by decide +kernel
theorem dL_law_1206 : decode cL_law 1206 = .ok (.iadd, 1) := by decide +kernel
theorem dL_law_1207 : decode cL_law 1207 = .ok (.iaload, 1) := by decide +kernel
theorem dL_law_1208 : decode cL_law 1208 = .ok (.aload_n 0, 1) := by decide +kernel
theorem dL_law_1209 : decode cL_law 1209 = .ok (.iload 4, 2) := by decide +kernel
theorem dL_law_1211 : decode cL_law 1211 = .ok (.iconst 2, 1) := by decide +kernel
theorem dL_law_1212 : decode cL_law 1212 = .ok (.iadd, 1) := by decide +kernel
theorem dL_law_1213 : decode cL_law 1213 = .ok (.iaload, 1) := by decide +kernel
theorem dL_law_1214 : decode cL_law 1214 = .ok (.aload_n 3, 1) := by decide +kernel
theorem dL_law_1215 : decode cL_law 1215 = .ok (.invokestatic 133, 3) := by decide +kernel
theorem dL_law_1218 : decode cL_law 1218 = .ok (.istore 5, 2) := by decide +kernel
theorem dL_law_1220 : decode cL_law 1220 = .ok (.aload_n 2, 1) := by decide +kernel
theorem dL_law_1221 : decode cL_law 1221 = .ok (.aload_n 0, 1) := by decide +kernel
theorem dL_law_1222 : decode cL_law 1222 = .ok (.iload 4, 2) := by decide +kernel
theorem dL_law_1224 : decode cL_law 1224 = .ok (.iconst 1, 1) := by decide +kernel
theorem dL_law_1225 : decode cL_law 1225 = .ok (.iadd, 1) := by decide +kernel
theorem dL_law_1226 : decode cL_law 1226 = .ok (.iaload, 1) := by decide +kernel
theorem dL_law_1227 : decode cL_law 1227 = .ok (.aload_n 0, 1) := by decide +kernel
theorem dL_law_1228 : decode cL_law 1228 = .ok (.iload 4, 2) := by decide +kernel
theorem dL_law_1230 : decode cL_law 1230 = .ok (.iconst 2, 1) := by decide +kernel
theorem dL_law_1231 : decode cL_law 1231 = .ok (.iadd, 1) := by decide +kernel
theorem dL_law_1232 : decode cL_law 1232 = .ok (.iaload, 1) := by decide +kernel
theorem dL_law_1233 : decode cL_law 1233 = .ok (.invokevirtual 135, 3) := by decide +kernel
theorem dL_law_1236 : decode cL_law 1236 = .ok (.lstore 6, 2) := by decide +kernel
theorem dL_law_1238 : decode cL_law 1238 = .ok (.aload_n 2, 1) := by decide +kernel
theorem dL_law_1239 : decode cL_law 1239 = .ok (.invokevirtual 83, 3) := by decide +kernel
theorem dL_law_1242 : decode cL_law 1242 = .ok (.iload 5, 2) := by decide +kernel
theorem dL_law_1244 : decode cL_law 1244 = .ok (.if_icmp .eq 5, 3) := by decide +kernel
theorem dL_law_1247 : decode cL_law 1247 = .ok (.iconst 0, 1) := by decide +kernel
theorem dL_law_1248 : decode cL_law 1248 = .ok (.ireturn, 1) := by decide +kernel
theorem dL_law_1249 : decode cL_law 1249 = .ok (.iload 5, 2) := by decide +kernel
theorem dL_law_1251 : decode cL_law 1251 = .ok (.ifCond .ne 14, 3) := by decide +kernel
theorem dL_law_1254 : decode cL_law 1254 = .ok (.aload_n 3, 1) := by decide +kernel
theorem dL_law_1255 : decode cL_law 1255 = .ok (.iconst 0, 1) := by decide +kernel
theorem dL_law_1256 : decode cL_law 1256 = .ok (.laload, 1) := by decide +kernel
theorem dL_law_1257 : decode cL_law 1257 = .ok (.lload 6, 2) := by decide +kernel
theorem dL_law_1259 : decode cL_law 1259 = .ok (.lcmp, 1) := by decide +kernel
theorem dL_law_1260 : decode cL_law 1260 = .ok (.ifCond .eq 5, 3) := by decide +kernel
theorem dL_law_1263 : decode cL_law 1263 = .ok (.iconst 0, 1) := by decide +kernel
theorem dL_law_1264 : decode cL_law 1264 = .ok (.ireturn, 1) := by decide +kernel
theorem dL_law_1265 : decode cL_law 1265 = .ok (.goto 59, 3) := by decide +kernel
theorem dL_law_1268 : decode cL_law 1268 = .ok (.aload_n 1, 1) := by decide +kernel
theorem dL_law_1269 : decode cL_law 1269 = .ok (.aload_n 0, 1) := by decide +kernel
theorem dL_law_1270 : decode cL_law 1270 = .ok (.iload 4, 2) := by decide +kernel
theorem dL_law_1272 : decode cL_law 1272 = .ok (.iconst 1, 1) := by decide +kernel
theorem dL_law_1273 : decode cL_law 1273 = .ok (.iadd, 1) := by decide +kernel
theorem dL_law_1274 : decode cL_law 1274 = .ok (.iaload, 1) := by decide +kernel
theorem dL_law_1275 : decode cL_law 1275 = .ok (.aload_n 3, 1) := by decide +kernel
theorem dL_law_1276 : decode cL_law 1276 = .ok (.invokestatic 136, 3) := by decide +kernel
theorem dL_law_1279 : decode cL_law 1279 = .ok (.istore 5, 2) := by decide +kernel
theorem dL_law_1281 : decode cL_law 1281 = .ok (.aload_n 2, 1) := by decide +kernel
theorem dL_law_1282 : decode cL_law 1282 = .ok (.aload_n 0, 1) := by decide +kernel
theorem dL_law_1283 : decode cL_law 1283 = .ok (.iload 4, 2) := by decide +kernel
theorem dL_law_1285 : decode cL_law 1285 = .ok (.iconst 1, 1) := by decide +kernel
theorem dL_law_1286 : decode cL_law 1286 = .ok (.iadd, 1) := by decide +kernel
theorem dL_law_1287 : decode cL_law 1287 = .ok (.iaload, 1) := by decide +kernel
theorem dL_law_1288 : decode cL_law 1288 = .ok (.invokevirtual 138, 3) := by decide +kernel
theorem dL_law_1291 : decode cL_law 1291 = .ok (.istore 6, 2) := by decide +kernel
theorem dL_law_1293 : decode cL_law 1293 = .ok (.aload_n 2, 1) := by decide +kernel
theorem dL_law_1294 : decode cL_law 1294 = .ok (.invokevirtual 83, 3) := by decide +kernel
theorem dL_law_1297 : decode cL_law 1297 = .ok (.iload 5, 2) := by decide +kernel
theorem dL_law_1299 : decode cL_law 1299 = .ok (.if_icmp .eq 5, 3) := by decide +kernel
theorem dL_law_1302 : decode cL_law 1302 = .ok (.iconst 0, 1) := by decide +kernel
theorem dL_law_1303 : decode cL_law 1303 = .ok (.ireturn, 1) := by decide +kernel
theorem dL_law_1304 : decode cL_law 1304 = .ok (.iload 5, 2) := by decide +kernel
theorem dL_law_1306 : decode cL_law 1306 = .ok (.ifCond .ne 15, 3) := by decide +kernel
theorem dL_law_1309 : decode cL_law 1309 = .ok (.aload_n 3, 1) := by decide +kernel
theorem dL_law_1310 : decode cL_law 1310 = .ok (.iconst 0, 1) := by decide +kernel
theorem dL_law_1311 : decode cL_law 1311 = .ok (.laload, 1) := by decide +kernel
theorem dL_law_1312 : decode cL_law 1312 = .ok (.iload 6, 2) := by decide +kernel
theorem dL_law_1314 : decode cL_law 1314 = .ok (.i2l, 1) := by decide +kernel
theorem dL_law_1315 : decode cL_law 1315 = .ok (.lcmp, 1) := by decide +kernel
theorem dL_law_1316 : decode cL_law 1316 = .ok (.ifCond .eq 5, 3) := by decide +kernel
theorem dL_law_1319 : decode cL_law 1319 = .ok (.iconst 0, 1) := by decide +kernel
theorem dL_law_1320 : decode cL_law 1320 = .ok (.ireturn, 1) := by decide +kernel
theorem dL_law_1321 : decode cL_law 1321 = .ok (.goto 3, 3) := by decide +kernel
theorem dL_law_1324 : decode cL_law 1324 = .ok (.iinc 4 7, 3) := by decide +kernel
theorem dL_law_1327 : decode cL_law 1327 = .ok (.goto (-1304), 3) := by decide +kernel
theorem dL_law_1330 : decode cL_law 1330 = .ok (.iconst 1, 1) := by decide +kernel
theorem dL_law_1331 : decode cL_law 1331 = .ok (.ireturn, 1) := by decide +kernel
end
section
/-! THE WORLD BY KEYS. Every object and array that the proof speaks of has a KEY (a number); 'ad' says where it lies, 'ty' what it is
(kind, length), and three tables say what it holds: I ints, L longs, P references (as keys). -/
def zN (ci : Nat) : Nat := match ci with
  | 0 => 6 | 1 => 2 | 2 => 6 | 3 => 8 | 4 => 11 | 5 => 4 | 6 => 9 | _ => 31
def zR (ci : Nat) : String := match ci with
  | 0 => RX0 | 1 => RX1 | 2 => RX2 | 3 => RX3 | 4 => RX4 | 5 => RX5 | 6 => RX6 | _ => RX7
def zT (ci : Nat) : u_T := match ci with
  | 0 => TX0 | 1 => TX1 | 2 => TX2 | 3 => TX3 | 4 => TX4 | 5 => TX5 | 6 => TX6 | _ => TX7
def zTy (ci : Nat) : Nat → FieldType := match ci with
  | 0 => tyX0 | 1 => tyX1 | 2 => tyX2 | 3 => tyX3 | 4 => tyX4 | 5 => tyX5 | 6 => tyX6 | _ => tyX7
def zEl (e : Nat) : FieldType := match e with
  | 0 => .int | 1 => .long | 2 => .boolean | 3 => .object RX0 | 4 => .object RX1 | 5 => .object RX3 | _ => .object RX4
def zkd (t : FieldType) : Nat := match t with
  | .long => 1 | .object _ => 2 | .array _ => 2 | _ => 0
def zv (ad : Nat → Nat) (t : FieldType) (x : Int32) (y : Int64) (q : Option Nat) : Value := match t with
  | .long => .long y | .object _ => va_rf (q.map ad) | .array _ => va_rf (q.map ad) | _ => .int x
theorem zv_i {ad : Nat → Nat} {t : FieldType} {x : Int32} {y : Int64} {q : Option Nat} (h : zkd t = 0) : zv ad t x y q = .int x := by
  cases t <;> first | rfl | (cases h)
theorem zv_l {ad : Nat → Nat} {t : FieldType} {x : Int32} {y : Int64} {q : Option Nat} (h : zkd t = 1) : zv ad t x y q = .long y := by
  cases t <;> first | rfl | (cases h)
theorem zv_r {ad : Nat → Nat} {t : FieldType} {x : Int32} {y : Int64} {q : Option Nat} (h : zkd t = 2) : zv ad t x y q = va_rf (q.map ad) := by
  cases t <;> first | rfl | (cases h)
/-- what is known of the classes: of the eight, and of the seven kinds of arrays -/
def zKn (D : va_G) (cA : Nat → ClassId) (U : State) : Prop := (∀ ci, ci < 8 → u_Kn U (zR ci) (zT ci) (zN ci) (D.1 ci) (D.2 ci)) ∧ ∀ e, e < 7 → ArrOfT U (cA e) (zEl e) ∧ va_RA U (cA e) (zEl e)
theorem zKn.moved {D : va_G} {cA : Nat → ClassId} {u U : State} (hvm : u.vm.Alike U.vm) (h : zKn D cA u) : zKn D cA U := ⟨fun c hc => u_Kn_moved hvm (h.1 c hc), fun k hk => ⟨arrOfT_moved hvm (h.2 k hk).1, (h.2 k hk).2.moved hvm⟩⟩
/-- the words of the tables that stay, as a method goes on -/
def zok (w : Cond) : Bool := match w with
  | .fieldLinkNest _ _ _ _ _ _ => true
  | .methodLinkNest _ _ _ _ => true
  | .castable _ _ => true
  | .declares _ => true
  | w => goodWord w
def zEnv (U : State) : Prop := ∀ w, w ∈ lw_tbl → zok w = true → w.before #[] U = true
theorem zok_at {A A' : Array Value} {s U : State} (hW : s.WarmedH U.vm) {w : Cond} (hg : zok w = true) (h : w.before A s = true) : w.before A' U = true := by
  have key : goodWord w = true → w.before A' U = true := fun hg => word_at hW (good_of_word hg) h
  cases w with
  | fieldLinkNest a i b n d h' => exact va_Nw.use rfl (va_Nw.warmF hW (va_Nw.of rfl h))
  | methodLinkNest a i x h' => exact va_Nw.use rfl (va_Nw.warmM hW (va_Nw.of rfl h))
  | declares x => exact va_Nw.use rfl (va_Nw.warmD hW (va_Nw.of rfl h))
  | castable a b => exact va_Nw.use rfl (va_Nw.warmC hW (va_Nw.of rfl h))
  | _ => exact key hg
theorem zEnv.warm {s U : State} (hW : s.WarmedH U.vm) (h : zEnv s) : zEnv U := fun w hw hg => zok_at hW hg (h w hw hg)
theorem zEnv.use {s : State} {A : Array Value} (h : zEnv s) {w : Cond} (hw : w ∈ lw_tbl) (hg : zok w = true) : w.before A s = true := zok_at (State.WarmedH.refl s) hg (h w hw hg)
theorem zEnv.of {s : State} {A : Array Value} (h : ∀ w ∈ lw_tbl, w.before A s = true) : zEnv s := fun w hw hg => zok_at (State.WarmedH.refl s) hg (h w hw)
theorem zok_calling {w : Cond} {A A' : Array Value} {U V : State} (hvm : U.vm = V.vm) (hg : zok w = true) (h : w.before A U = true) : w.before A' V = true := zok_at (by rw [← hvm]; exact State.WarmedH.refl U) hg h
/-- the nine texts, and the two statics of Throwable: they lie below the world's cells -/
def zstr : List (String × Nat × String) := [(RX6, 221, "an argument is out of range"), (RX6, 226, "there would be more than told"), (RX6, 214, "there is none of this number"), (RX6, 224, "both islands are the same"), (RX6, 95, "the span has a fault"), (RX6, 228, "the ship is not idle"), (RX6, 116, "the span has no fault"), (RX6, 148, "a rank is not below 0"), (RX6, 166, "a place is not below 0")]
def zSt (U : State) : Prop := ∀ q ∈ zstr, ∃ sa : Nat, vk_R q.1 q.2.1 q.2.2 sa U
def zX (base : Nat) (U : State) (H : Heap) : Prop := vx_Zq Bundle.tN "UNASSIGNED_STACK" Bundle.steD (fun q => base ≤ q) U H ∧ vx_Zq Bundle.tN "SUPPRESSED_SENTINEL" Bundle.listD (fun q => base ≤ q) U H
theorem zX.go {base : Nat} {u U : State} {H H1 : Heap} (hvm : u.vm.Alike U.vm) (hq : ∀ a : Nat, a < H.size → ¬ base ≤ a → H1[a]? = H[a]?) (h : zX base u H) : zX base U H1 := ⟨(h.1.moved hvm).kept hq, (h.2.moved hvm).kept hq⟩
/-- all that holds at any time: the words, the classes, what lies below 'base' -/
def zG (base : Nat) (D : va_G) (cA : Nat → ClassId) (U : State) : Prop := zEnv U ∧ zKn D cA U ∧ zX base U U.heap ∧ zSt U ∧ base ≤ U.heap.size
theorem zG.go {base : Nat} {D : va_G} {cA : Nat → ClassId} {s U : State} {H : Heap} {locs : List Loc} (h : zG base D cA s) (hS : va_S (fun q => base ≤ q) s.heap H locs) (hU : U.heap = H) (hW : s.WarmedH U.vm) : zG base D cA U := by
  obtain ⟨h1, h2, h3, h4, h5⟩ := h
  refine ⟨h1.warm hW, h2.moved hW.alike, ?_, fun q hq => ?_, ?_⟩
  · rw [hU]
    exact h3.go hW.alike fun a h6 h7 => hS.2.1 a h6 h7
  · obtain ⟨sa, h6⟩ := h4 q hq
    exact ⟨sa, h6.warm hW⟩
  · rw [hU]
    exact Nat.le_trans h5 hS.1
theorem zG.calling {base : Nat} {D : va_G} {cA : Nat → ClassId} {U : State} (h : zG base D cA U) (a : Array Value) (g : JFrame) (mk : MethodId) : zG base D cA (U.calling g mk a) := by
  have hv : U.vm = (U.calling g mk a).vm := rfl
  have hW : U.WarmedH (U.calling g mk a).vm := by rw [← hv]; exact State.WarmedH.refl U
  exact h.go (locs := []) va_S.rf rfl hW
/-- where a cell of the world lies: an object, or an array -/
def zAt (D : va_G) (cA : Nat → ClassId) (ad : Nat → Nat) (t : Nat × Nat) (i : Nat → Int32) (j : Nat → Int64) (r : Nat → Option Nat) (a : Nat) (H : Heap) : Prop :=
  if t.1 < 8 then t_OB a (D.1 t.1) (zN t.1) (D.2 t.1) H (fun k => zv ad (zTy t.1 k) (i k) (j k) (r k))
  else H[a]? = some (arrV (cA (t.1 - 8)) t.2 (fun k => zv ad (zEl (t.1 - 8)) (i k) (j k) (r k)))
abbrev zTyp : Type := Nat → Option (Nat × Nat)
abbrev zIt : Type := Nat → Nat → Int32
abbrev zLt : Type := Nat → Nat → Int64
abbrev zPt : Type := Nat → Nat → Option Nat
def zW (base : Nat) (D : va_G) (cA : Nat → ClassId) (ad : Nat → Nat) (ty : zTyp) (I : zIt) (L : zLt) (P : zPt) (H : Heap) : Prop :=
  (∀ κ t, ty κ = some t → zAt D cA ad t (I κ) (L κ) (P κ) (ad κ) H ∧ base ≤ ad κ ∧ ad κ < H.size ∧ t.1 < 15) ∧
  (∀ κ κ' t t', ty κ = some t → ty κ' = some t' → ad κ = ad κ' → κ = κ') ∧
  ∀ κ k κ', P κ k = some κ' → ∃ t, ty κ' = some t
abbrev zH (base : Nat) (D : va_G) (cA : Nat → ClassId) (s : State) (H : Heap) (locs : List Loc) (ad : Nat → Nat) (ty : zTyp) (I : zIt) (L : zLt) (P : zPt) : Prop :=
  zW base D cA ad ty I L P H ∧ va_S (fun q => base ≤ q) s.heap H locs
/-- one place of a table set anew -/
def zu {α : Type} (f : Nat → Nat → α) (κ k : Nat) (x : α) : Nat → Nat → α := fun a b => if a = κ ∧ b = k then x else f a b
theorem zu_self {α : Type} (f : Nat → Nat → α) (κ k : Nat) (x : α) : zu f κ k x κ k = x := by simp [zu]
theorem zu_ne {α : Type} (f : Nat → Nat → α) {κ k κ' k' : Nat} (x : α) (h : ¬ (κ' = κ ∧ k' = k)) : zu f κ k x κ' k' = f κ' k' := by simp [zu, h]
theorem zAt.kept {D : va_G} {cA : Nat → ClassId} {ad : Nat → Nat} {t : Nat × Nat} {i : Nat → Int32} {j : Nat → Int64} {r : Nat → Option Nat} {a : Nat} {H H1 : Heap} (h : zAt D cA ad t i j r a H) (hq : H1[a]? = H[a]?) : zAt D cA ad t i j r a H1 := by
  unfold zAt at h ⊢
  split
  · rename_i h1
    rw [if_pos h1] at h
    exact h.kept hq
  · rename_i h1
    rw [if_neg h1] at h
    exact hq.trans h
theorem zAt.obj {D : va_G} {cA : Nat → ClassId} {ad : Nat → Nat} {t : Nat × Nat} {i : Nat → Int32} {j : Nat → Int64} {r : Nat → Option Nat} {a : Nat} {H : Heap} (h8 : t.1 < 8) : zAt D cA ad t i j r a H ↔ t_OB a (D.1 t.1) (zN t.1) (D.2 t.1) H (fun k => zv ad (zTy t.1 k) (i k) (j k) (r k)) := by
  unfold zAt
  rw [if_pos h8]
theorem zAt.arr {D : va_G} {cA : Nat → ClassId} {ad : Nat → Nat} {e n : Nat} {i : Nat → Int32} {j : Nat → Int64} {r : Nat → Option Nat} {a : Nat} {H : Heap} : zAt D cA ad (8 + e, n) i j r a H ↔ H[a]? = some (arrV (cA e) n (fun k => zv ad (zEl e) (i k) (j k) (r k))) := by
  unfold zAt
  rw [if_neg (by simp), Nat.add_sub_cancel_left]
/-- a cell of the world written: the tables change at this key alone -/
theorem zW.put {base : Nat} {D : va_G} {cA : Nat → ClassId} {ad : Nat → Nat} {ty : zTyp} {I I' : zIt} {L L' : zLt} {P P' : zPt} {H H1 : Heap} {κ : Nat} {t : Nat × Nat} (h : zW base D cA ad ty I L P H) (hty : ty κ = some t)
    (hI : ∀ κ', κ' ≠ κ → I' κ' = I κ') (hL : ∀ κ', κ' ≠ κ → L' κ' = L κ') (hP : ∀ κ', κ' ≠ κ → P' κ' = P κ') (hPc : ∀ k κ', P' κ k = some κ' → ∃ t, ty κ' = some t)
    (he : zAt D cA ad t (I' κ) (L' κ) (P' κ) (ad κ) H1) (hz : H1.size = H.size) (oq : ∀ q : Nat, q ≠ ad κ → H1[q]? = H[q]?) : zW base D cA ad ty I' L' P' H1 := by
  obtain ⟨h1, h2, h3⟩ := h
  refine ⟨fun κ' t' ht' => ?_, h2, fun κ' k κ2 hp => ?_⟩
  · obtain ⟨g1, g2, g3, g4⟩ := h1 κ' t' ht'
    refine ⟨?_, g2, by rw [hz]; exact g3, g4⟩
    by_cases hk : κ' = κ
    · subst hk
      cases hty.symm.trans ht'
      exact he
    · rw [hI _ hk, hL _ hk, hP _ hk]
      exact g1.kept (oq _ fun e => hk (h2 _ _ _ _ ht' hty e))
  · by_cases hk : κ' = κ
    · subst hk
      exact hPc k κ2 hp
    · rw [hP _ hk] at hp
      exact h3 κ' k κ2 hp
theorem zW.kept {base : Nat} {D : va_G} {cA : Nat → ClassId} {ad : Nat → Nat} {ty : zTyp} {I : zIt} {L : zLt} {P : zPt} {H H1 : Heap} (h : zW base D cA ad ty I L P H) (hz : H.size ≤ H1.size) (hq : ∀ q : Nat, q < H.size → H1[q]? = H[q]?) : zW base D cA ad ty I L P H1 := by
  obtain ⟨h1, h2, h3⟩ := h
  refine ⟨fun κ t ht => ?_, h2, h3⟩
  obtain ⟨g1, g2, g3, g4⟩ := h1 κ t ht
  exact ⟨g1.kept (hq _ g3), g2, Nat.lt_of_lt_of_le g3 hz, g4⟩
/-- a function with one place set anew -/
def zs {α : Type} (f : Nat → α) (κ : Nat) (x : α) : Nat → α := fun a => if a = κ then x else f a
theorem zs_self {α : Type} (f : Nat → α) (κ : Nat) (x : α) : zs f κ x κ = x := by simp [zs]
theorem zs_ne {α : Type} (f : Nat → α) {κ a : Nat} (x : α) (h : a ≠ κ) : zs f κ x a = f a := by simp [zs, h]
theorem zv_ad {ad ad' : Nat → Nat} {t : FieldType} {x : Int32} {y : Int64} {q : Option Nat} (h : ∀ κ, q = some κ → ad' κ = ad κ) : zv ad' t x y q = zv ad t x y q := by
  cases q with
  | none => cases t <;> rfl
  | some κ => cases t <;> simp [zv, h κ rfl]
/-- a cell made: it gets a key that is free -/
theorem zW.make {base : Nat} {D : va_G} {cA : Nat → ClassId} {ad : Nat → Nat} {ty : zTyp} {I : zIt} {L : zLt} {P : zPt} {H H1 : Heap} (h : zW base D cA ad ty I L P H) {κ : Nat} {t : Nat × Nat} (hfree : ty κ = none) (ht : t.1 < 15) (hb : base ≤ H.size)
    (he : zAt D cA (zs ad κ H.size) t (fun _ => 0) (fun _ => 0) (fun _ => none) H.size H1) (hz : H1.size = H.size + 1) (oq : ∀ q : Nat, q < H.size → H1[q]? = H[q]?) :
    zW base D cA (zs ad κ H.size) (zs ty κ (some t)) (zs I κ (fun _ => 0)) (zs L κ (fun _ => 0)) (zs P κ (fun _ => none)) H1 := by
  obtain ⟨h1, h2, h3⟩ := h
  have key : ∀ κ' t', zs ty κ (some t) κ' = some t' → (κ' = κ ∧ t' = t) ∨ (κ' ≠ κ ∧ ty κ' = some t') := by
    intro κ' t' ht'
    by_cases hk : κ' = κ
    · subst hk
      rw [zs_self] at ht'
      cases ht'
      exact Or.inl ⟨rfl, rfl⟩
    · rw [zs_ne _ _ hk] at ht'
      exact Or.inr ⟨hk, ht'⟩
  refine ⟨fun κ' t' ht' => ?_, fun κ1 κ2 t1 t2 e1 e2 e3 => ?_, fun κ' k κ2 hp => ?_⟩
  · rcases key κ' t' ht' with ⟨rfl, rfl⟩ | ⟨hk, h4⟩
    · simp only [zs_self]
      exact ⟨he, hb, by omega, ht⟩
    · obtain ⟨g1, g2, g3, g4⟩ := h1 κ' t' h4
      simp only [zs_ne _ _ hk]
      refine ⟨?_, g2, by omega, g4⟩
      have g5 := g1.kept (oq _ g3)
      have hv : ∀ (T : FieldType) (x : Int32) (y : Int64) (k : Nat), zv (zs ad κ H.size) T x y (P κ' k) = zv ad T x y (P κ' k) := fun T x y k => zv_ad fun κ2 hp => by
        obtain ⟨t2, ht2⟩ := h3 κ' k κ2 hp
        exact zs_ne _ _ (fun e => by rw [e, hfree] at ht2; cases ht2)
      unfold zAt at g5 ⊢
      simp only [hv]
      exact g5
  · rcases key κ1 t1 e1 with ⟨rfl, -⟩ | ⟨n1, h4⟩ <;> rcases key κ2 t2 e2 with ⟨rfl, -⟩ | ⟨n2, h5⟩
    · rfl
    · rw [zs_self, zs_ne _ _ n2] at e3
      have := (h1 κ2 t2 h5).2.2.1
      omega
    · rw [zs_self, zs_ne _ _ n1] at e3
      have := (h1 κ1 t1 h4).2.2.1
      omega
    · rw [zs_ne _ _ n1, zs_ne _ _ n2] at e3
      exact h2 κ1 κ2 t1 t2 h4 h5 e3
  · by_cases hk : κ' = κ
    · rw [hk, zs_self] at hp
      cases hp
    · rw [zs_ne _ _ hk] at hp
      obtain ⟨t2, ht2⟩ := h3 κ' k κ2 hp
      exact ⟨t2, by rw [zs_ne _ _ (fun e => by rw [e, hfree] at ht2; cases ht2)]; exact ht2⟩
end
section
theorem zTy_ok : ∀ ci, ci < 8 → ∀ k, k < zN ci → parseFieldDescriptor (zT ci k).2.2.1 = some (zTy ci k) := by
  intro ci h
  match ci, h with
  | 0, _ => exact tyX0_ok
  | 1, _ => exact tyX1_ok
  | 2, _ => exact tyX2_ok
  | 3, _ => exact tyX3_ok
  | 4, _ => exact tyX4_ok
  | 5, _ => exact tyX5_ok
  | 6, _ => exact tyX6_ok
  | 7, _ => exact tyX7_ok
  | n + 8, h => omega
theorem zT_nm : ∀ ci, ci < 8 → ∀ a, a < zN ci → ∀ b, b < zN ci → a ≠ b → (zT ci a).2.1 ≠ (zT ci b).2.1 := by
  intro ci h
  match ci, h with
  | 0, _ => exact nmX0
  | 1, _ => exact nmX1
  | 2, _ => exact nmX2
  | 3, _ => exact nmX3
  | 4, _ => exact nmX4
  | 5, _ => exact nmX5
  | 6, _ => exact nmX6
  | 7, _ => exact nmX7
  | n + 8, h => omega
theorem zlay_ok (C : String) (T : u_T) (N : Nat) : ∀ w ∈ u_ws C T N, zok w = true := by
  intro w hw
  obtain ⟨k, -, rfl⟩ := List.mem_map.mp hw
  unfold u_lay
  split <;> rfl
theorem zT_in : ∀ ci, ci < 8 → ∀ w ∈ u_ws (zR ci) (zT ci) (zN ci), w ∈ lw_tbl := by
  intro ci h
  match ci, h with
  | 0, _ => exact inX0
  | 1, _ => exact inX1
  | 2, _ => exact inX2
  | 3, _ => exact inX3
  | 4, _ => exact inX4
  | 5, _ => exact inX5
  | 6, _ => exact inX6
  | 7, _ => exact inX7
  | n + 8, h => omega
theorem zEnv.lays {s : State} {A : Array Value} (h : zEnv s) {ci : Nat} (hc : ci < 8) : ∀ w ∈ u_ws (zR ci) (zT ci) (zN ci), w.before A s = true :=
  fun w hw => h.use (zT_in ci hc w hw) (zlay_ok _ _ _ w hw)
/-- the table's facts of a field as an instruction names it -/
def zF (own : String) (idx ci k kd : Nat) : Prop := ci < 8 ∧ k < zN ci ∧ zkd (zTy ci k) = kd ∧ (zT ci k).1 = zR ci ∧
  (Cond.fieldLink own idx (zR ci) (zT ci k).2.1 (zT ci k).2.2.1 ∈ lw_tbl ∨ ∃ host, Cond.fieldLinkNest own idx (zR ci) (zT ci k).2.1 (zT ci k).2.2.1 host ∈ lw_tbl)
/-- what a walk stands on -/
def zM (p : Program) (s : State) (m : MethodId) (c : Code) (cc : ByteArray) (own : String) (nL base : Nat) (D : va_G) (cA : Nat → ClassId) : Prop :=
  p.tables.exec = Jvm.exec ∧ c.code = cc ∧ c.maxLocals = nL ∧ s.vm.findClass own = some m.cls ∧ zG base D cA s
theorem z_ref {ad : Nat → Nat} {T : FieldType} {x : Int32} {y : Int64} {q : Option Nat} {κ : Nat} (h : zkd T = 2) (hq : q = some κ) : zv ad T x y q = .ref (ad κ) := by
  rw [zv_r h, hq]
  rfl
section ZR
variable {p : Program} {l : Launch} {e : Env} {R : Room} {s : State} {m : MethodId} {args : Array Value} {below : List Frame} {meth : Method} {c : Code} {H : Heap} {locs : List Loc} {cells slots : Nat} {Q : State → Prop}
variable {cc : ByteArray} {own : String} {nL base : Nat} {D : va_G} {cA : Nat → ClassId} {ad : Nat → Nat} {ty : zTyp} {I : zIt} {L : zLt} {P : zPt}
variable {pc : Nat} {ls : Array Slot} {rest : List Value} {κ ci n k idx : Nat}
theorem z_getv (M : zM p s m c cc own nL base D cA) (hw : zH base D cA s H locs ad ty I L P) {kd : Nat} (hty : ty κ = some (ci, n)) (hF : zF own idx ci k kd) {v : Value} (hv : zv ad (zTy ci k) (I κ k) (L κ k) (P κ k) = v) (hdg : decode cc pc = .ok (.getfield idx, 3))
    (kk : W p l e R s m args below meth c H locs cells slots Q (F0 m (pc + 3) ls (v :: rest))) : W p l e R s m args below meth c H locs cells slots Q (F0 m pc ls (.ref (ad κ) :: rest)) := by
  obtain ⟨hx, hb, -, hown, hE, hKn, -⟩ := M
  obtain ⟨h8, hk, -, hcl, hlk⟩ := hF
  obtain ⟨cell, q1, q2, q3, q4⟩ := (zAt.obj h8).mp (hw.1.1 κ _ hty).1
  obtain ⟨hS, hfc, kC, hkC, hkind⟩ := hKn.1 ci h8
  obtain ⟨cf, kf, fi, f, hi, hsl⟩ := hS k hk
  have hst := (u_facts hfc hkC (u_lays (args := args) (hE.lays h8) (fun _ h => h) hk) hi).1
  have hsv : cell.slots[f.slot]? = some v := by rw [hsl]; exact (q4 k hk).trans (congrArg some hv)
  rw [hcl] at hi
  rcases hlk with hlk | ⟨host, hlk⟩
  · exact W.getf hx hb hown (hE.use hlk rfl) hi hst q1 (by rw [q3]; exact fun h => by cases h) (v := v) hsv rfl rfl hdg kk
  · exact va_Wgetf hx hb hown (hE.use hlk rfl) hi hst q1 (by rw [q3]; exact fun h => by cases h) (v := v) hsv rfl rfl hdg kk
theorem z_geti (M : zM p s m c cc own nL base D cA) (hw : zH base D cA s H locs ad ty I L P) (hty : ty κ = some (ci, n)) (hF : zF own idx ci k 0) (hdg : decode cc pc = .ok (.getfield idx, 3))
    (kk : W p l e R s m args below meth c H locs cells slots Q (F0 m (pc + 3) ls (.int (I κ k) :: rest))) : W p l e R s m args below meth c H locs cells slots Q (F0 m pc ls (.ref (ad κ) :: rest)) :=
  z_getv M hw hty hF (zv_i hF.2.2.1) hdg kk
theorem z_getl (M : zM p s m c cc own nL base D cA) (hw : zH base D cA s H locs ad ty I L P) (hty : ty κ = some (ci, n)) (hF : zF own idx ci k 1) (hdg : decode cc pc = .ok (.getfield idx, 3))
    (kk : W p l e R s m args below meth c H locs cells slots Q (F0 m (pc + 3) ls (.long (L κ k) :: rest))) : W p l e R s m args below meth c H locs cells slots Q (F0 m pc ls (.ref (ad κ) :: rest)) :=
  z_getv M hw hty hF (zv_l hF.2.2.1) hdg kk
theorem z_getr (M : zM p s m c cc own nL base D cA) (hw : zH base D cA s H locs ad ty I L P) (hty : ty κ = some (ci, n)) (hF : zF own idx ci k 2) {κ' : Nat} (hp : P κ k = some κ') (hdg : decode cc pc = .ok (.getfield idx, 3))
    (kk : W p l e R s m args below meth c H locs cells slots Q (F0 m (pc + 3) ls (.ref (ad κ') :: rest))) : W p l e R s m args below meth c H locs cells slots Q (F0 m pc ls (.ref (ad κ) :: rest)) :=
  z_getv M hw hty hF (z_ref hF.2.2.1 hp) hdg kk
theorem zKn.apart {s : State} (hE : zEnv s) (hKn : zKn D cA s) (h8 : ci < 8) : ∀ x y, x < zN ci → y < zN ci → x ≠ y → (D.2 ci) x ≠ (D.2 ci) y := by
  intro x y hx hy hne
  obtain ⟨hS, -⟩ := hKn.1 ci h8
  obtain ⟨_, _, _, fa, hia, ea⟩ := hS x hx
  obtain ⟨_, _, _, fb, hib, eb⟩ := hS y hy
  rw [← ea, ← eb]
  refine u_apart (args := #[]) (u_lays (hE.lays h8) (fun _ h => h) hx) (u_lays (hE.lays h8) (fun _ h => h) hy) hia hib ?_
  rw [(State.fieldFound?_type hia (zTy_ok ci h8 x hx)).1, (State.fieldFound?_type hib (zTy_ok ci h8 y hy)).1]
  exact zT_nm ci h8 x hx y hy hne
theorem z_putv (M : zM p s m c cc own nL base D cA) (hw : zH base D cA s H locs ad ty I L P) {kd : Nat} (hty : ty κ = some (ci, n)) (hF : zF own idx ci k kd) (hfin : (zT ci k).2.2.2 = false ∨ ((zT ci k).2.2.2 = true ∧ zR ci = own ∧ meth.name = "<init>")) {v : Value} (hn : narrow (zTy ci k) v = v) (hfit : fits (zTy ci k) v = true)
    {I' : zIt} {L' : zLt} {P' : zPt} (hI : ∀ κ', κ' ≠ κ → I' κ' = I κ') (hL : ∀ κ', κ' ≠ κ → L' κ' = L κ') (hP : ∀ κ', κ' ≠ κ → P' κ' = P κ') (hPc : ∀ k κ', P' κ k = some κ' → ∃ t, ty κ' = some t)
    (hV : ∀ j, j < zN ci → updV (fun k => zv ad (zTy ci k) (I κ k) (L κ k) (P κ k)) k v j = zv ad (zTy ci j) (I' κ j) (L' κ j) (P' κ j)) (hdg : decode cc pc = .ok (.putfield idx, 3))
    (kk : ∀ (H : Heap) (locs : List Loc), zH base D cA s H locs ad ty I' L' P' → W p l e R s m args below meth c H locs cells slots Q (F0 m (pc + 3) ls rest)) : W p l e R s m args below meth c H locs cells slots Q (F0 m pc ls (v :: .ref (ad κ) :: rest)) := by
  obtain ⟨hx, hb, -, hown, hE, hKn, -⟩ := M
  obtain ⟨h8, hk, -, hcl, hlk⟩ := hF
  obtain ⟨hAt, hba, -, -⟩ := hw.1.1 κ _ hty
  obtain ⟨cell, q1, q2, q3, q4⟩ := (zAt.obj h8).mp hAt
  have hap := hKn.apart hE h8
  obtain ⟨hS, hfc, kC, hkC, hkind⟩ := hKn.1 ci h8
  obtain ⟨cf, kf, fi, f, hi, hsl⟩ := hS k hk
  have hst := (u_facts hfc hkC (u_lays (args := args) (hE.lays h8) (fun _ h => h) hk) hi).1
  have hlay := hE.lays (A := args) h8 _ (u_in_lay (C := zR ci) (T := zT ci) hk)
  unfold u_lay at hlay
  have last : ∀ H' : Heap, H'[ad κ]? = some (cell.setSlot f.slot v) → H'.size = H.size → (∀ q, q ≠ ad κ → H'[q]? = H[q]?) → W p l e R s m args below meth c H' (locs ++ [⟨ad κ, f.slot⟩]) cells slots Q (F0 m (pc + 3) ls rest) := by
    intro H' e1 e2 e3
    rw [hsl] at e1
    refine kk H' _ ⟨hw.1.put hty hI hL hP hPc ((zAt.obj h8).mpr ?_) e2 e3, hw.2.put e2 e3 hba⟩
    exact t_OB.to ⟨_, e1, q2, q3, t_set q4 hap hk v⟩ hV
  rcases hfin with hfin | ⟨hfin, hro, hin⟩
  · rw [if_neg (by rw [hfin]; decide)] at hlay
    have h6 := u_store hfc hkC hkind hlay hi (zTy_ok ci h8 k hk) hn hfit
    rw [hcl] at hi
    rcases hlk with hlk | ⟨host, hlk⟩
    · exact W.putK hx hb (f := f) ⟨hown, hE.use hlk rfl, ⟨_, _, _, hi⟩, hst⟩ (by rw [q2]; exact h6) q1 q3 (by rw [hsl]; exact k2_hasslot (q4 k hk)) rfl rfl hdg last
    · exact va_WputK hx hb (f := f) hown (hE.use hlk rfl) hi hst (by rw [q2]; exact h6) q1 q3 (by rw [hsl]; exact k2_hasslot (q4 k hk)) rfl rfl hdg last
  · rw [if_pos hfin] at hlay
    have hcf : m.cls = cf := by
      obtain ⟨_, _, c', _, _, _, -, -, hf', -, -, -, hown2, -⟩ := Cond.laysFinal_spec hlay
      have e1 : c' = cf := by have := hi.symm.trans hf'; simp at this; exact this.1.symm
      rw [hcl, hro] at hown2
      rw [← e1]; exact Option.some.inj (hown.symm.trans hown2)
    have h6 := u_fits hfc hkC hkind (Or.inr hlay) hi (zTy_ok ci h8 k hk) hn hfit
    rw [hcl] at hi
    rcases hlk with hlk | ⟨host, hlk⟩
    · exact W.putFinK hx hb hown (hE.use hlk rfl) hi hst hcf hin (by rw [q2]; exact h6) q1 q3 (by rw [hsl]; exact k2_hasslot (q4 k hk)) rfl rfl hdg last
    · exact va_Wputf hx hb hown (hE.use hlk rfl) hi hst (Or.inr ⟨hcf, hin⟩) q1 (by rw [q3]; exact fun h => by cases h) (by rw [hsl]; exact k2_hasslot (q4 k hk)) h6.1 (by rw [q2, q3]; exact h6.2) rfl rfl hdg (last _ (by simp [Array.getElem?_setIfInBounds, (Array.getElem?_eq_some_iff.mp q1).1]) (by simp) (fun q hq => by simp [Array.getElem?_setIfInBounds, Ne.symm hq]))
theorem z_puti (M : zM p s m c cc own nL base D cA) (hw : zH base D cA s H locs ad ty I L P) (hty : ty κ = some (ci, n)) (hF : zF own idx ci k 0) (hfin : (zT ci k).2.2.2 = false ∨ ((zT ci k).2.2.2 = true ∧ zR ci = own ∧ meth.name = "<init>")) {x : Int32} (hn : narrow (zTy ci k) (.int x) = .int x) (hfit : fits (zTy ci k) (.int x) = true) (hdg : decode cc pc = .ok (.putfield idx, 3))
    (kk : ∀ (H : Heap) (locs : List Loc), zH base D cA s H locs ad ty (zu I κ k x) L P → W p l e R s m args below meth c H locs cells slots Q (F0 m (pc + 3) ls rest)) : W p l e R s m args below meth c H locs cells slots Q (F0 m pc ls (.int x :: .ref (ad κ) :: rest)) := by
  refine z_putv M hw hty hF hfin hn hfit (I' := zu I κ k x) (L' := L) (P' := P) (fun κ' h => ?_) (fun _ _ => rfl) (fun _ _ => rfl) (fun k2 κ2 h => hw.1.2.2 κ k2 κ2 h) (fun j hj => ?_) hdg kk
  · funext b
    exact zu_ne _ _ (fun h2 => h h2.1)
  · by_cases hjk : j = k
    · subst hjk
      rw [zu_self, zv_i hF.2.2.1]
      simp [updV]
    · rw [zu_ne _ _ (fun h2 => hjk h2.2)]
      simp [updV, hjk]
theorem z_putl (M : zM p s m c cc own nL base D cA) (hw : zH base D cA s H locs ad ty I L P) (hty : ty κ = some (ci, n)) (hF : zF own idx ci k 1) (hfin : (zT ci k).2.2.2 = false ∨ ((zT ci k).2.2.2 = true ∧ zR ci = own ∧ meth.name = "<init>")) {x : Int64} (hn : narrow (zTy ci k) (.long x) = .long x) (hfit : fits (zTy ci k) (.long x) = true) (hdg : decode cc pc = .ok (.putfield idx, 3))
    (kk : ∀ (H : Heap) (locs : List Loc), zH base D cA s H locs ad ty I (zu L κ k x) P → W p l e R s m args below meth c H locs cells slots Q (F0 m (pc + 3) ls rest)) : W p l e R s m args below meth c H locs cells slots Q (F0 m pc ls (.long x :: .ref (ad κ) :: rest)) := by
  refine z_putv M hw hty hF hfin hn hfit (I' := I) (L' := zu L κ k x) (P' := P) (fun _ _ => rfl) (fun κ' h => ?_) (fun _ _ => rfl) (fun k2 κ2 h => hw.1.2.2 κ k2 κ2 h) (fun j hj => ?_) hdg kk
  · funext b
    exact zu_ne _ _ (fun h2 => h h2.1)
  · by_cases hjk : j = k
    · subst hjk
      rw [zu_self, zv_l hF.2.2.1]
      simp [updV]
    · rw [zu_ne _ _ (fun h2 => hjk h2.2)]
      simp [updV, hjk]
theorem z_putr (M : zM p s m c cc own nL base D cA) (hw : zH base D cA s H locs ad ty I L P) (hty : ty κ = some (ci, n)) (hF : zF own idx ci k 2) (hfin : (zT ci k).2.2.2 = false ∨ ((zT ci k).2.2.2 = true ∧ zR ci = own ∧ meth.name = "<init>")) {κ' : Nat} {t' : Nat × Nat} (ht' : ty κ' = some t') (hn : ∀ a, narrow (zTy ci k) (.ref a) = .ref a) (hfit : ∀ a, fits (zTy ci k) (.ref a) = true) (hdg : decode cc pc = .ok (.putfield idx, 3))
    (kk : ∀ (H : Heap) (locs : List Loc), zH base D cA s H locs ad ty I L (zu P κ k (some κ')) → W p l e R s m args below meth c H locs cells slots Q (F0 m (pc + 3) ls rest)) : W p l e R s m args below meth c H locs cells slots Q (F0 m pc ls (.ref (ad κ') :: .ref (ad κ) :: rest)) := by
  refine z_putv M hw hty hF hfin (hn _) (hfit _) (I' := I) (L' := L) (P' := zu P κ k (some κ')) (fun _ _ => rfl) (fun _ _ => rfl) (fun κ2 h => ?_) (fun k2 κ2 h => ?_) (fun j hj => ?_) hdg kk
  · funext b
    exact zu_ne _ _ (fun h2 => h h2.1)
  · by_cases hk2 : k2 = k
    · subst hk2
      rw [zu_self] at h
      cases h
      exact ⟨_, ht'⟩
    · rw [zu_ne _ _ (fun h2 => hk2 h2.2)] at h
      exact hw.1.2.2 κ k2 κ2 h
  · by_cases hjk : j = k
    · subst hjk
      rw [zu_self, zv_r hF.2.2.1]
      simp [updV, va_rf]
    · rw [zu_ne _ _ (fun h2 => hjk h2.2)]
      simp [updV, hjk]
end ZR
end
section
theorem zTy_nf : ∀ ci, ci < 8 → ∀ k, k < zN ci → zTy ci k ≠ .float ∧ zTy ci k ≠ .double := by decide +kernel
section ZA
variable {p : Program} {l : Launch} {e : Env} {R : Room} {s : State} {m : MethodId} {args : Array Value} {below : List Frame} {meth : Method} {c : Code} {H : Heap} {locs : List Loc} {cells slots : Nat} {Q : State → Prop}
variable {cc : ByteArray} {own : String} {nL base : Nat} {D : va_G} {cA : Nat → ClassId} {ad : Nat → Nat} {ty : zTyp} {I : zIt} {L : zLt} {P : zPt}
variable {pc : Nat} {ls : Array Slot} {rest : List Value} {κ ci n k idx : Nat}
theorem z_iald (M : zM p s m c cc own nL base D cA) (hw : zH base D cA s H locs ad ty I L P) (hty : ty κ = some (8, n)) {i : Int32} (hin : vp_in i n) (hdg : decode cc pc = .ok (.iaload, 1))
    (kk : W p l e R s m args below meth c H locs cells slots Q (F0 m (pc + 1) ls (.int (I κ i.toNatClampNeg) :: rest))) : W p l e R s m args below meth c H locs cells slots Q (F0 m pc ls (.int i :: .ref (ad κ) :: rest)) := by
  obtain ⟨hx, hb, -, hown, hE, hKn, -⟩ := M
  have hlt : i.toNatClampNeg < n := Nat.not_le.mp fun q => hin (Or.inr q)
  have hc := (zAt.arr (e := 0)).mp (hw.1.1 κ _ hty).1
  exact W.iald (v := .int (I κ i.toNatClampNeg)) hx hb hc ((hKn.2 0 (by decide)).1 n _) (fun q => by cases q) (by rw [arrV_size]; exact hin) (by rw [arrV_read _ _ hlt]; rfl) rfl rfl hdg kk
theorem z_lald (M : zM p s m c cc own nL base D cA) (hw : zH base D cA s H locs ad ty I L P) (hty : ty κ = some (9, n)) {i : Int32} (hin : vp_in i n) (hdg : decode cc pc = .ok (.laload, 1))
    (kk : W p l e R s m args below meth c H locs cells slots Q (F0 m (pc + 1) ls (.long (L κ i.toNatClampNeg) :: rest))) : W p l e R s m args below meth c H locs cells slots Q (F0 m pc ls (.int i :: .ref (ad κ) :: rest)) := by
  obtain ⟨hx, hb, -, hown, hE, hKn, -⟩ := M
  have hlt : i.toNatClampNeg < n := Nat.not_le.mp fun q => hin (Or.inr q)
  have hc := (zAt.arr (e := 1)).mp (hw.1.1 κ _ hty).1
  exact W.lald (v := .long (L κ i.toNatClampNeg)) hx hb hc ((hKn.2 1 (by decide)).1 n _) (fun q => by cases q) (by rw [arrV_size]; exact hin) (by rw [arrV_read _ _ hlt]; rfl) rfl rfl hdg kk
theorem z_zald (M : zM p s m c cc own nL base D cA) (hw : zH base D cA s H locs ad ty I L P) (hty : ty κ = some (10, n)) {i : Int32} (hin : vp_in i n) (hdg : decode cc pc = .ok (.baload, 1))
    (kk : W p l e R s m args below meth c H locs cells slots Q (F0 m (pc + 1) ls (.int (I κ i.toNatClampNeg) :: rest))) : W p l e R s m args below meth c H locs cells slots Q (F0 m pc ls (.int i :: .ref (ad κ) :: rest)) := by
  obtain ⟨hx, hb, -, hown, hE, hKn, -⟩ := M
  have hlt : i.toNatClampNeg < n := Nat.not_le.mp fun q => hin (Or.inr q)
  have hc := (zAt.arr (e := 2)).mp (hw.1.1 κ _ hty).1
  exact W.zald (v := .int (I κ i.toNatClampNeg)) hx hb hc ((hKn.2 2 (by decide)).1 n _) (fun q => by cases q) (by rw [arrV_size]; exact hin) (by rw [arrV_read _ _ hlt]; rfl) rfl rfl hdg kk
theorem z_aald (M : zM p s m c cc own nL base D cA) (hw : zH base D cA s H locs ad ty I L P) {e9 : Nat} (hty : ty κ = some (8 + e9, n)) (he9 : e9 < 7 ∧ zkd (zEl e9) = 2) {i : Int32} (hin : vp_in i n) {κ' : Nat} (hp : P κ i.toNatClampNeg = some κ') (hdg : decode cc pc = .ok (.aaload, 1))
    (kk : W p l e R s m args below meth c H locs cells slots Q (F0 m (pc + 1) ls (.ref (ad κ') :: rest))) : W p l e R s m args below meth c H locs cells slots Q (F0 m pc ls (.int i :: .ref (ad κ) :: rest)) := by
  obtain ⟨hx, hb, -, hown, hE, hKn, -⟩ := M
  have hlt : i.toNatClampNeg < n := Nat.not_le.mp fun q => hin (Or.inr q)
  have hc := zAt.arr.mp (hw.1.1 κ _ hty).1
  have hr : (zEl e9).isReference = true := by
    have := he9.2
    revert this
    cases zEl e9 <;> intro h <;> first | rfl | (cases h)
  exact W.aald (v := .ref (ad κ')) hx hb hc ((hKn.2 e9 he9.1).1 n _) hr (fun q => by cases q) (by rw [arrV_size]; exact hin) (by rw [arrV_read _ _ hlt, z_ref he9.2 hp]) rfl rfl hdg kk
theorem z_alen (M : zM p s m c cc own nL base D cA) (hw : zH base D cA s H locs ad ty I L P) {e9 : Nat} (hty : ty κ = some (8 + e9, n)) (he9 : e9 < 7) (hdg : decode cc pc = .ok (.arraylength, 1))
    (kk : W p l e R s m args below meth c H locs cells slots Q (F0 m (pc + 1) ls (.int (nI n) :: rest))) : W p l e R s m args below meth c H locs cells slots Q (F0 m pc ls (.ref (ad κ) :: rest)) := by
  obtain ⟨hx, hb, -, hown, hE, hKn, -⟩ := M
  have hc := zAt.arr.mp (hw.1.1 κ _ hty).1
  exact W.alen (n := nI n) hx hb hc ((hKn.2 e9 he9).1 n _) (by rw [arrV_size]; rfl) rfl rfl hdg kk
/-- an array's cell behind a store -/
theorem z_arrput (hw : zH base D cA s H locs ad ty I L P) {e9 : Nat} (hty : ty κ = some (8 + e9, n)) {j : Nat} {v : Value} {H1 : Heap} {I' : zIt} {L' : zLt} {P' : zPt} (hI : ∀ κ', κ' ≠ κ → I' κ' = I κ') (hL : ∀ κ', κ' ≠ κ → L' κ' = L κ') (hP : ∀ κ', κ' ≠ κ → P' κ' = P κ') (hPc : ∀ k κ', P' κ k = some κ' → ∃ t, ty κ' = some t)
    (hV : ∀ q, updV (fun k => zv ad (zEl e9) (I κ k) (L κ k) (P κ k)) j v q = zv ad (zEl e9) (I' κ q) (L' κ q) (P' κ q))
    (e1 : H1[ad κ]? = some ((arrV (cA e9) n (fun k => zv ad (zEl e9) (I κ k) (L κ k) (P κ k))).setSlot j v)) (e2 : H1.size = H.size) (e3 : ∀ q, q ≠ ad κ → H1[q]? = H[q]?) : zH base D cA s H1 (locs ++ [⟨ad κ, j⟩]) ad ty I' L' P' := by
  obtain ⟨-, hba, -, -⟩ := hw.1.1 κ _ hty
  refine ⟨hw.1.put hty hI hL hP hPc (zAt.arr.mpr ?_) e2 e3, hw.2.put e2 e3 hba⟩
  rw [e1, arrV_store]
  congr 2
  funext q
  exact hV q
theorem z_iast (M : zM p s m c cc own nL base D cA) (hw : zH base D cA s H locs ad ty I L P) (hty : ty κ = some (8, n)) {i x : Int32} (hin : vp_in i n) (hdg : decode cc pc = .ok (.iastore, 1))
    (kk : ∀ (H : Heap) (locs : List Loc), zH base D cA s H locs ad ty (zu I κ i.toNatClampNeg x) L P → W p l e R s m args below meth c H locs cells slots Q (F0 m (pc + 1) ls rest)) : W p l e R s m args below meth c H locs cells slots Q (F0 m pc ls (.int x :: .int i :: .ref (ad κ) :: rest)) := by
  obtain ⟨hx, hb, -, hown, hE, hKn, -⟩ := M
  have hc := (zAt.arr (e := 0)).mp (hw.1.1 κ _ hty).1
  refine W.iast hx hb hc ((hKn.2 0 (by decide)).1 n _) (fun q => by cases q) (by rw [arrV_size]; exact hin) rfl rfl hdg fun H1 e1 e2 e3 => ?_
  refine kk H1 _ (z_arrput (e9 := 0) hw hty (fun κ' h => ?_) (fun _ _ => rfl) (fun _ _ => rfl) (fun k2 κ2 h => hw.1.2.2 κ k2 κ2 h) (fun q => ?_) e1 e2 e3)
  · funext b
    exact zu_ne _ _ (fun h2 => h h2.1)
  · by_cases hq : q = i.toNatClampNeg
    · subst hq
      rw [zu_self]
      simp [updV]
      rfl
    · rw [zu_ne _ _ (fun h2 => hq h2.2)]
      simp [updV, hq]
theorem z_zast (M : zM p s m c cc own nL base D cA) (hw : zH base D cA s H locs ad ty I L P) (hty : ty κ = some (10, n)) {i x : Int32} (hin : vp_in i n) (hn : narrow .boolean (.int x) = .int x) (hdg : decode cc pc = .ok (.bastore, 1))
    (kk : ∀ (H : Heap) (locs : List Loc), zH base D cA s H locs ad ty (zu I κ i.toNatClampNeg x) L P → W p l e R s m args below meth c H locs cells slots Q (F0 m (pc + 1) ls rest)) : W p l e R s m args below meth c H locs cells slots Q (F0 m pc ls (.int x :: .int i :: .ref (ad κ) :: rest)) := by
  obtain ⟨hx, hb, -, hown, hE, hKn, -⟩ := M
  have hc := (zAt.arr (e := 2)).mp (hw.1.1 κ _ hty).1
  refine W.zast hx hb hc ((hKn.2 2 (by decide)).1 n _) (fun q => by cases q) (by rw [arrV_size]; exact hin) rfl rfl hdg fun H1 e1 e2 e3 => ?_
  rw [hn] at e1
  refine kk H1 _ (z_arrput (e9 := 2) hw hty (fun κ' h => ?_) (fun _ _ => rfl) (fun _ _ => rfl) (fun k2 κ2 h => hw.1.2.2 κ k2 κ2 h) (fun q => ?_) e1 e2 e3)
  · funext b
    exact zu_ne _ _ (fun h2 => h h2.1)
  · by_cases hq : q = i.toNatClampNeg
    · subst hq
      rw [zu_self]
      simp [updV]
      rfl
    · rw [zu_ne _ _ (fun h2 => hq h2.2)]
      simp [updV, hq]
theorem z_last (M : zM p s m c cc own nL base D cA) (hw : zH base D cA s H locs ad ty I L P) (hty : ty κ = some (9, n)) {i : Int32} {x : Int64} (hin : vp_in i n) (hdg : decode cc pc = .ok (.lastore, 1))
    (kk : ∀ (H : Heap) (locs : List Loc), zH base D cA s H locs ad ty I (zu L κ i.toNatClampNeg x) P → W p l e R s m args below meth c H locs cells slots Q (F0 m (pc + 1) ls rest)) : W p l e R s m args below meth c H locs cells slots Q (F0 m pc ls (.long x :: .int i :: .ref (ad κ) :: rest)) := by
  obtain ⟨hx, hb, -, hown, hE, hKn, -⟩ := M
  have hc := (zAt.arr (e := 1)).mp (hw.1.1 κ _ hty).1
  refine W.last hx hb hc ((hKn.2 1 (by decide)).1 n _) (fun q => by cases q) (by rw [arrV_size]; exact hin) rfl rfl hdg fun H1 e1 e2 e3 => ?_
  refine kk H1 _ (z_arrput (e9 := 1) hw hty (fun _ _ => rfl) (fun κ' h => ?_) (fun _ _ => rfl) (fun k2 κ2 h => hw.1.2.2 κ k2 κ2 h) (fun q => ?_) e1 e2 e3)
  · funext b
    exact zu_ne _ _ (fun h2 => h h2.1)
  · by_cases hq : q = i.toNatClampNeg
    · subst hq
      rw [zu_self]
      simp [updV]
      rfl
    · rw [zu_ne _ _ (fun h2 => hq h2.2)]
      simp [updV, hq]
theorem z_aast (M : zM p s m c cc own nL base D cA) (hw : zH base D cA s H locs ad ty I L P) {e9 : Nat} (hty : ty κ = some (8 + e9, n)) (he9 : e9 < 7) {κ' : Nat} (hty' : ty κ' = some (ci, k)) (hci : ci < 8 ∧ zEl e9 = .object (zR ci)) {i : Int32} (hin : vp_in i n) (hdg : decode cc pc = .ok (.aastore, 1))
    (kk : ∀ (H : Heap) (locs : List Loc), zH base D cA s H locs ad ty I L (zu P κ i.toNatClampNeg (some κ')) → W p l e R s m args below meth c H locs cells slots Q (F0 m (pc + 1) ls rest)) : W p l e R s m args below meth c H locs cells slots Q (F0 m pc ls (.ref (ad κ') :: .int i :: .ref (ad κ) :: rest)) := by
  obtain ⟨hx, hb, -, hown, hE, hKn, -⟩ := M
  have hlt : i.toNatClampNeg < n := Nat.not_le.mp fun q => hin (Or.inr q)
  have h0 : ¬ i < 0 := fun q => hin (Or.inl q)
  obtain ⟨hci, hel⟩ := hci
  have hc := zAt.arr.mp (hw.1.1 κ _ hty).1
  obtain ⟨cellV, g1, g2, g3, -⟩ := (zAt.obj hci).mp (hw.1.1 κ' _ hty').1
  have hcls := (hKn.1 ci hci).2
  have hra := (hKn.2 e9 he9).2
  rw [hel] at hra
  obtain ⟨kA, comp, k1, k2, k3, -⟩ := hra
  have hcomp : comp = D.1 ci := Option.some.inj (k3.symm.trans hcls.1)
  subst hcomp
  obtain ⟨kC, hkC, -⟩ := hcls.2
  refine W.aast hx hb hc (fun q h => by cases h) (fun h => by cases h) k1 k2 rfl hkC ⟨h0, by rw [arrV_size]; exact hlt⟩ g1 (fun q h => by rw [g3] at h; cases h) (by rw [g2]; exact hkC) (by rw [g2]; exact va_assign hcls) rfl rfl hdg fun H1 e1 e2 e3 => ?_
  refine kk H1 _ (z_arrput (e9 := e9) hw hty (fun _ _ => rfl) (fun _ _ => rfl) (fun κ' h => ?_) (fun k2 κ2 h => ?_) (fun q => ?_) e1 e2 e3)
  · funext b
    exact zu_ne _ _ (fun h2 => h h2.1)
  · by_cases hk2 : k2 = i.toNatClampNeg
    · subst hk2
      rw [zu_self] at h
      cases h
      exact ⟨_, hty'⟩
    · rw [zu_ne _ _ (fun h2 => hk2 h2.2)] at h
      exact hw.1.2.2 κ k2 κ2 h
  · have hkd : zkd (zEl e9) = 2 := by rw [hel]; rfl
    by_cases hq : q = i.toNatClampNeg
    · subst hq
      rw [zu_self, zv_r hkd]
      simp [updV, va_rf]
    · rw [zu_ne _ _ (fun h2 => hq h2.2)]
      simp [updV, hq]
theorem z_new (M : zM p s m c cc own nL base D cA) (hw : zH base D cA s H locs ad ty I L P) (κ : Nat) (hfree : ty κ = none) (hci : ci < 8) (hcl : Cond.classLink own idx (zR ci) ∈ lw_tbl) (hins : Cond.instantiable (zR ci) (zN ci) ∈ lw_tbl) (hini : Cond.initialized (zR ci) ∈ lw_tbl) (hcells : cells + 1 ≤ R.cells) (hslots : slots + zN ci ≤ R.slots) (hdg : decode cc pc = .ok (.new idx, 3))
    (kk : ∀ (a : Nat) (H : Heap), zH base D cA s H locs (zs ad κ a) (zs ty κ (some (ci, 0))) (zs I κ (fun _ => 0)) (zs L κ (fun _ => 0)) (zs P κ (fun _ => none)) → W p l e R s m args below meth c H locs (cells + 1) (slots + zN ci) Q (F0 m (pc + 3) ls (.ref (zs ad κ a κ) :: rest))) : W p l e R s m args below meth c H locs cells slots Q (F0 m pc ls rest) := by
  obtain ⟨hx, hb, -, hown, hE, hKn, hX, hSt, hbs⟩ := M
  have hKc := hKn.1 ci hci
  refine W.newcK hx hb hown (hE.use hcl rfl) (hE.use hins rfl) (hE.use hini rfl) rfl hdg hcells hslots hKc.2.1 rfl fun H1 kC hkC e1 z1 o1 => ?_
  have hbH : base ≤ H.size := Nat.le_trans hbs hw.2.1
  have kk9 := kk H.size H1
  rw [zs_self] at kk9
  refine kk9 ⟨hw.1.make hfree (show ci < 15 by omega) hbH ((zAt.obj hci).mpr ?_) z1 o1, Nat.le_trans hw.2.1 (by omega), fun x h1 h2 => (o1 x (Nat.lt_of_lt_of_le h1 hw.2.1)).trans (hw.2.2.1 x h1 h2), hw.2.2.2⟩
  refine (u_born (args := args) (zTy ci) (hE.lays hci) (fun _ h => h) hKc hkC e1 (zTy_ok ci hci)).to fun k hk => ?_
  have hnf := zTy_nf ci hci k hk
  revert hnf
  cases zTy ci k <;> intro hnf <;> first | rfl | (exact absurd rfl hnf.1) | (exact absurd rfl hnf.2)
theorem z_newarr (M : zM p s m c cc own nL base D cA) (hw : zH base D cA s H locs ad ty I L P) (κ : Nat) (hfree : ty κ = none) {atype : ArrayType} {e9 N : Nat} (he9 : e9 < 3 ∧ newarray.typeOf atype = zEl e9) (harr : Cond.arrayClass (newarray.typeOf atype) ∈ lw_tbl) {i : Int32} (hn : ¬ i < 0) (hN : i.toNatClampNeg = N) (hbytes : N ≤ 1000) (hcells : cells + 1 ≤ R.cells) (hslots : slots + N ≤ R.slots) (hdg : decode cc pc = .ok (.newarray atype, 2))
    (kk : ∀ (a : Nat) (H : Heap), zH base D cA s H locs (zs ad κ a) (zs ty κ (some (8 + e9, N))) (zs I κ (fun _ => 0)) (zs L κ (fun _ => 0)) (zs P κ (fun _ => none)) → W p l e R s m args below meth c H locs (cells + 1) (slots + N) Q (F0 m (pc + 2) ls (.ref (zs ad κ a κ) :: rest))) : W p l e R s m args below meth c H locs cells slots Q (F0 m pc ls (.int i :: rest)) := by
  obtain ⟨hx, hb, -, hown, hE, hKn, hX, hSt, hbs⟩ := M
  obtain ⟨he3, het⟩ := he9
  have hbt : N * componentBytes (newarray.typeOf atype) ≤ 536870912 := by
    have : componentBytes (newarray.typeOf atype) ≤ 8 := by cases atype <;> decide
    have := Nat.mul_le_mul hbytes this
    omega
  refine va_newaK hx hb (hE.use harr rfl) rfl hdg rfl hn hN hbt hcells hslots rfl fun H1 cB e1 z1 o1 hAr hNm => ?_
  have hbH : base ≤ H.size := Nat.le_trans hbs hw.2.1
  have kk9 := kk H.size H1
  rw [zs_self] at kk9
  have hcB : cB = cA e9 := by
    have hra := (hKn.2 e9 (by omega)).2
    rw [← het] at hra
    have : s.vm.findClass ("[" ++ (newarray.typeOf atype).toString) = some (cA e9) := by
      revert hra
      cases atype <;> exact fun h => h
    exact Option.some.inj (hNm.symm.trans this)
  refine kk9 ⟨hw.1.make hfree (show 8 + e9 < 15 by omega) hbH (zAt.arr.mpr ?_) z1 o1, Nat.le_trans hw.2.1 (by omega), fun x h1 h2 => (o1 x (Nat.lt_of_lt_of_le h1 hw.2.1)).trans (hw.2.2.1 x h1 h2), hw.2.2.2⟩
  rw [e1, hcB, het]
  congr 2
  funext q
  match e9, he3 with
  | 0, _ => rfl
  | 1, _ => rfl
  | 2, _ => rfl
theorem z_anew (M : zM p s m c cc own nL base D cA) (hw : zH base D cA s H locs ad ty I L P) (κ : Nat) (hfree : ty κ = none) {e9 N : Nat} {C : String} (he9 : e9 < 7 ∧ zEl e9 = .object C) (hcl : Cond.classLink own idx C ∈ lw_tbl) (hover : Cond.arrayOver (.object C) ∈ lw_tbl ∧ zok (Cond.arrayOver (.object C)) = true) {i : Int32} (hn : ¬ i < 0) (hN : i.toNatClampNeg = N) (hbytes : N ≤ 1000) (hcells : cells + 1 ≤ R.cells) (hslots : slots + N ≤ R.slots) (hdg : decode cc pc = .ok (.anewarray idx, 3))
    (kk : ∀ (a : Nat) (H : Heap), zH base D cA s H locs (zs ad κ a) (zs ty κ (some (8 + e9, N))) (zs I κ (fun _ => 0)) (zs L κ (fun _ => 0)) (zs P κ (fun _ => none)) → W p l e R s m args below meth c H locs (cells + 1) (slots + N) Q (F0 m (pc + 3) ls (.ref (zs ad κ a κ) :: rest))) : W p l e R s m args below meth c H locs cells slots Q (F0 m pc ls (.int i :: rest)) := by
  obtain ⟨hx, hb, -, hown, hE, hKn, hX, hSt, hbs⟩ := M
  obtain ⟨he7, het⟩ := he9
  subst hN
  refine W.anew hx hb hown (hE.use hcl rfl) (hE.use hover.1 hover.2) rfl hdg rfl hn (by omega) hcells hslots fun cB kA comp f1 f2 f3 f4 => ?_
  have hbH : base ≤ H.size := Nat.le_trans hbs hw.2.1
  generalize hH1 : H.push ({ cls := cB, slots := Array.replicate i.toNatClampNeg .null, vm := .none } : Cell) = H1
  have z1 : H1.size = H.size + 1 := by rw [← hH1, Array.size_push]
  have e1 : H1[H.size]? = some (arrV cB i.toNatClampNeg (fun _ => .null)) := by rw [← hH1, Array.getElem?_push_size, ← arrV_new]
  have o1 : ∀ q : Nat, q < H.size → H1[q]? = H[q]? := fun q hq => by rw [← hH1, Array.getElem?_push, if_neg (Nat.ne_of_lt hq)]
  have kk9 := kk H.size H1
  rw [zs_self] at kk9
  have hcB : cB = cA e9 := by
    have hra := (hKn.2 e9 he7).2
    rw [het] at hra
    obtain ⟨_, _, _, _, _, h4⟩ := hra
    exact Option.some.inj (f1.symm.trans h4)
  refine kk9 ⟨hw.1.make hfree (show 8 + e9 < 15 by omega) hbH (zAt.arr.mpr ?_) z1 o1, Nat.le_trans hw.2.1 (by omega), fun x h1 h2 => (o1 x (Nat.lt_of_lt_of_le h1 hw.2.1)).trans (hw.2.2.1 x h1 h2), hw.2.2.2⟩
  rw [e1, hcB, het]
  rfl
end ZA
/-! the same by a number for the index -/
section ZAN
variable {p : Program} {l : Launch} {e : Env} {R : Room} {s : State} {m : MethodId} {args : Array Value} {below : List Frame} {meth : Method} {c : Code} {H : Heap} {locs : List Loc} {cells slots : Nat} {Q : State → Prop}
variable {cc : ByteArray} {own : String} {nL base : Nat} {D : va_G} {cA : Nat → ClassId} {ad : Nat → Nat} {ty : zTyp} {I : zIt} {L : zLt} {P : zPt}
variable {pc : Nat} {ls : Array Slot} {rest : List Value} {κ ci n k idx : Nat}
theorem z_ix {i : Int32} {k n : Nat} (hi : i = nI k) (hk : k < n ∧ n ≤ 4000) : vp_in i n ∧ i.toNatClampNeg = k := by
  subst hi
  exact ⟨vp_in_nI hk.1 (by omega), nI_clamp (by omega)⟩
theorem z_iNald (M : zM p s m c cc own nL base D cA) (hw : zH base D cA s H locs ad ty I L P) (hty : ty κ = some (8, n)) {i : Int32} (hi : i = nI k) (hk : k < n ∧ n ≤ 4000) (hdg : decode cc pc = .ok (.iaload, 1))
    (kk : W p l e R s m args below meth c H locs cells slots Q (F0 m (pc + 1) ls (.int (I κ k) :: rest))) : W p l e R s m args below meth c H locs cells slots Q (F0 m pc ls (.int i :: .ref (ad κ) :: rest)) :=
  z_iald M hw hty (z_ix hi hk).1 hdg (by rw [(z_ix hi hk).2]; exact kk)
theorem z_lNald (M : zM p s m c cc own nL base D cA) (hw : zH base D cA s H locs ad ty I L P) (hty : ty κ = some (9, n)) {i : Int32} (hi : i = nI k) (hk : k < n ∧ n ≤ 4000) (hdg : decode cc pc = .ok (.laload, 1))
    (kk : W p l e R s m args below meth c H locs cells slots Q (F0 m (pc + 1) ls (.long (L κ k) :: rest))) : W p l e R s m args below meth c H locs cells slots Q (F0 m pc ls (.int i :: .ref (ad κ) :: rest)) :=
  z_lald M hw hty (z_ix hi hk).1 hdg (by rw [(z_ix hi hk).2]; exact kk)
theorem z_zNald (M : zM p s m c cc own nL base D cA) (hw : zH base D cA s H locs ad ty I L P) (hty : ty κ = some (10, n)) {i : Int32} (hi : i = nI k) (hk : k < n ∧ n ≤ 4000) (hdg : decode cc pc = .ok (.baload, 1))
    (kk : W p l e R s m args below meth c H locs cells slots Q (F0 m (pc + 1) ls (.int (I κ k) :: rest))) : W p l e R s m args below meth c H locs cells slots Q (F0 m pc ls (.int i :: .ref (ad κ) :: rest)) :=
  z_zald M hw hty (z_ix hi hk).1 hdg (by rw [(z_ix hi hk).2]; exact kk)
theorem z_aNald (M : zM p s m c cc own nL base D cA) (hw : zH base D cA s H locs ad ty I L P) {e9 : Nat} (hty : ty κ = some (8 + e9, n)) (he9 : e9 < 7 ∧ zkd (zEl e9) = 2) {i : Int32} (hi : i = nI k) (hk : k < n ∧ n ≤ 4000) {κ' : Nat} (hp : P κ k = some κ') (hdg : decode cc pc = .ok (.aaload, 1))
    (kk : W p l e R s m args below meth c H locs cells slots Q (F0 m (pc + 1) ls (.ref (ad κ') :: rest))) : W p l e R s m args below meth c H locs cells slots Q (F0 m pc ls (.int i :: .ref (ad κ) :: rest)) :=
  z_aald M hw hty he9 (z_ix hi hk).1 (by rw [(z_ix hi hk).2]; exact hp) hdg kk
theorem z_iNast (M : zM p s m c cc own nL base D cA) (hw : zH base D cA s H locs ad ty I L P) (hty : ty κ = some (8, n)) {i x : Int32} (hi : i = nI k) (hk : k < n ∧ n ≤ 4000) (hdg : decode cc pc = .ok (.iastore, 1))
    (kk : ∀ (H : Heap) (locs : List Loc), zH base D cA s H locs ad ty (zu I κ k x) L P → W p l e R s m args below meth c H locs cells slots Q (F0 m (pc + 1) ls rest)) : W p l e R s m args below meth c H locs cells slots Q (F0 m pc ls (.int x :: .int i :: .ref (ad κ) :: rest)) :=
  z_iast M hw hty (z_ix hi hk).1 hdg (by rw [(z_ix hi hk).2]; exact kk)
theorem z_zNast (M : zM p s m c cc own nL base D cA) (hw : zH base D cA s H locs ad ty I L P) (hty : ty κ = some (10, n)) {i x : Int32} (hi : i = nI k) (hk : k < n ∧ n ≤ 4000) (hn : narrow .boolean (.int x) = .int x) (hdg : decode cc pc = .ok (.bastore, 1))
    (kk : ∀ (H : Heap) (locs : List Loc), zH base D cA s H locs ad ty (zu I κ k x) L P → W p l e R s m args below meth c H locs cells slots Q (F0 m (pc + 1) ls rest)) : W p l e R s m args below meth c H locs cells slots Q (F0 m pc ls (.int x :: .int i :: .ref (ad κ) :: rest)) :=
  z_zast M hw hty (z_ix hi hk).1 hn hdg (by rw [(z_ix hi hk).2]; exact kk)
theorem z_lNast (M : zM p s m c cc own nL base D cA) (hw : zH base D cA s H locs ad ty I L P) (hty : ty κ = some (9, n)) {i : Int32} {x : Int64} (hi : i = nI k) (hk : k < n ∧ n ≤ 4000) (hdg : decode cc pc = .ok (.lastore, 1))
    (kk : ∀ (H : Heap) (locs : List Loc), zH base D cA s H locs ad ty I (zu L κ k x) P → W p l e R s m args below meth c H locs cells slots Q (F0 m (pc + 1) ls rest)) : W p l e R s m args below meth c H locs cells slots Q (F0 m pc ls (.long x :: .int i :: .ref (ad κ) :: rest)) :=
  z_last M hw hty (z_ix hi hk).1 hdg (by rw [(z_ix hi hk).2]; exact kk)
theorem z_aNast (M : zM p s m c cc own nL base D cA) (hw : zH base D cA s H locs ad ty I L P) {e9 : Nat} (hty : ty κ = some (8 + e9, n)) (he9 : e9 < 7) {κ' n' : Nat} (hty' : ty κ' = some (ci, n')) (hci : ci < 8 ∧ zEl e9 = .object (zR ci)) {i : Int32} (hi : i = nI k) (hk : k < n ∧ n ≤ 4000) (hdg : decode cc pc = .ok (.aastore, 1))
    (kk : ∀ (H : Heap) (locs : List Loc), zH base D cA s H locs ad ty I L (zu P κ k (some κ')) → W p l e R s m args below meth c H locs cells slots Q (F0 m (pc + 1) ls rest)) : W p l e R s m args below meth c H locs cells slots Q (F0 m pc ls (.ref (ad κ') :: .int i :: .ref (ad κ) :: rest)) :=
  z_aast M hw hty he9 hty' hci (z_ix hi hk).1 hdg (by rw [(z_ix hi hk).2]; exact kk)
end ZAN
end
section
/-! CONTRACTS and CALLS over the keyed world. A contract: the arguments, the world before (W0), the answer r, the world behind (W1);
what lies below 'base' is never touched. A method that may throw: the place oc of its exception (0: none; then r and W1), the world as it was. -/
def zPc (base : Nat) (D : va_G) (cA : Nat → ClassId) (av : List Value) (W0 : Heap → Prop) : Array Value → State → Prop := va_Pc av (fun U => zG base D cA U ∧ W0 U.heap)
theorem zPc.blind {base : Nat} {D : va_G} {cA : Nat → ClassId} {av : List Value} {W0 : Heap → Prop} : FrameBlind (zPc base D cA av W0) := fun a _ g mk h => ⟨h.1, h.2.1.calling a g mk, h.2.2⟩
def zQi (base : Nat) (r : Int32) (W1 : Heap → Prop) : Array Value → State → Outcome → State → Prop := va_Qi (S := Unit) (fun v _ => v = r) (fun _ t => W1 t.heap) (fun q => base ≤ q)
def zQl (base : Nat) (r : Int64) (W1 : Heap → Prop) : Array Value → State → Outcome → State → Prop := va_Ql (S := Unit) (fun v _ => v = r) (fun _ t => W1 t.heap) (fun q => base ≤ q)
def zQv (base : Nat) (W1 : Heap → Prop) : Array Value → State → Outcome → State → Prop := va_Qv (S := Unit) (fun _ => True) (fun _ t => W1 t.heap) (fun q => base ≤ q)
def zXQi (base oc : Nat) (r : Int32) (W1 : Heap → Prop) : Array Value → State → Outcome → State → Prop := va_Qi (S := Unit) (fun v _ => v = r ∧ oc = 0) (fun _ t => W1 t.heap) (fun q => base ≤ q)
def zXQl (base oc : Nat) (r : Int64) (W1 : Heap → Prop) : Array Value → State → Outcome → State → Prop := va_Ql (S := Unit) (fun v _ => v = r ∧ oc = 0) (fun _ t => W1 t.heap) (fun q => base ≤ q)
def zXQv (base oc : Nat) (W1 : Heap → Prop) : Array Value → State → Outcome → State → Prop := va_Qv (S := Unit) (fun _ => oc = 0) (fun _ t => W1 t.heap) (fun q => base ≤ q)
def zEn (oc : Nat) : String := match oc with
  | 1 => "java/lang/IndexOutOfBoundsException" | 2 => "java/lang/IllegalArgumentException" | _ => "java/lang/IllegalStateException"
def zXC (base oc : Nat) (W0 : Heap → Prop) : String → State → State → Prop := vx_X (S := Unit) (fun _ => oc ≠ 0) (fun E _ t => E = zEn oc ∧ W0 t.heap) (fun q => base ≤ q)
abbrev zRm (fr lo mc ms : Nat) : Room := { frames := fr, cells := mc, slots := ms, locals := lo }
abbrev zMi (l : Launch) (base : Nat) (D : va_G) (cA : Nat → ClassId) (y : MethodName) (bytes : ByteArray) (maxL : Nat) (rt : FieldType) (fr lo mc ms : Nat) (av : List Value) (W0 : Heap → Prop) (r : Int32) (W1 : Heap → Prop) : Prop :=
  Met l y [Cond.code y bytes maxL (some rt)] (zRm fr lo mc ms) (zPc base D cA av W0) (zQi base r W1) mc ms (fun q => base ≤ q)
abbrev zMl (l : Launch) (base : Nat) (D : va_G) (cA : Nat → ClassId) (y : MethodName) (bytes : ByteArray) (maxL : Nat) (fr lo mc ms : Nat) (av : List Value) (W0 : Heap → Prop) (r : Int64) (W1 : Heap → Prop) : Prop :=
  Met l y [Cond.code y bytes maxL (some .long)] (zRm fr lo mc ms) (zPc base D cA av W0) (zQl base r W1) mc ms (fun q => base ≤ q)
abbrev zMv (l : Launch) (base : Nat) (D : va_G) (cA : Nat → ClassId) (y : MethodName) (bytes : ByteArray) (maxL : Nat) (fr lo mc ms : Nat) (av : List Value) (W0 : Heap → Prop) (W1 : Heap → Prop) : Prop :=
  Met l y [Cond.code y bytes maxL none] (zRm fr lo mc ms) (zPc base D cA av W0) (zQv base W1) mc ms (fun q => base ≤ q)
abbrev zXi (l : Launch) (base : Nat) (D : va_G) (cA : Nat → ClassId) (y : MethodName) (bytes : ByteArray) (maxL : Nat) (rt : FieldType) (fr lo mc ms : Nat) (av : List Value) (W0 : Heap → Prop) (oc : Nat) (r : Int32) (W1 : Heap → Prop) : Prop :=
  vx_Met l y [Cond.code y bytes maxL (some rt)] (zRm fr lo mc ms) (zPc base D cA av W0) (zXQi base oc r W1) (zXC base oc W0) mc ms (fun q => base ≤ q)
abbrev zXl (l : Launch) (base : Nat) (D : va_G) (cA : Nat → ClassId) (y : MethodName) (bytes : ByteArray) (maxL : Nat) (fr lo mc ms : Nat) (av : List Value) (W0 : Heap → Prop) (oc : Nat) (r : Int64) (W1 : Heap → Prop) : Prop :=
  vx_Met l y [Cond.code y bytes maxL (some .long)] (zRm fr lo mc ms) (zPc base D cA av W0) (zXQl base oc r W1) (zXC base oc W0) mc ms (fun q => base ≤ q)
abbrev zXv (l : Launch) (base : Nat) (D : va_G) (cA : Nat → ClassId) (y : MethodName) (bytes : ByteArray) (maxL : Nat) (fr lo mc ms : Nat) (av : List Value) (W0 : Heap → Prop) (oc : Nat) (W1 : Heap → Prop) : Prop :=
  vx_Met l y [Cond.code y bytes maxL none] (zRm fr lo mc ms) (zPc base D cA av W0) (zXQv base oc W1) (zXC base oc W0) mc ms (fun q => base ≤ q)
/-- a call's words -/
def zC (own : String) (idx : Nat) (y : MethodName) (bytes : ByteArray) (maxL : Nat) (ret : Option FieldType) (n : Nat) : Prop :=
  (Cond.methodLink own idx y ∈ lw_tbl ∨ ∃ host, Cond.methodLinkNest own idx y host ∈ lw_tbl) ∧ Cond.initialized y.cls ∈ lw_tbl ∧ Cond.code y bytes maxL ret ∈ lw_tbl ∧ (y.cls ≠ "java/lang/invoke/MethodHandle" ∧ y.cls ≠ "java/lang/invoke/VarHandle") ∧ (parseMethodDescriptor y.desc).map (fun d => d.parameters.length) = some n
def zCV (own : String) (idx : Nat) (y : MethodName) (bytes : ByteArray) (maxL : Nat) (ret : Option FieldType) (n ci : Nat) : Prop :=
  zC own idx y bytes maxL ret n ∧ Cond.instanceMethod y ∈ lw_tbl ∧ Cond.selects y.cls y y ∈ lw_tbl ∧ ci < 8 ∧ y.cls = zR ci
def zCS (own : String) (idx : Nat) (y : MethodName) (bytes : ByteArray) (maxL : Nat) (ret : Option FieldType) (n : Nat) : Prop :=
  zC own idx y bytes maxL ret n ∧ Cond.static y ∈ lw_tbl
def zCI (own : String) (idx : Nat) (y : MethodName) (bytes : ByteArray) (maxL n : Nat) : Prop :=
  zC own idx y bytes maxL none n ∧ Cond.instanceMethod y ∈ lw_tbl ∧ y.name = "<init>"
section ZC
variable {p : Program} {l : Launch} {e : Env} {R : Room} {s : State} {m : MethodId} {args : Array Value} {below : List Frame} {meth : Method} {c : Code} {H : Heap} {locs : List Loc} {cells slots : Nat} {Q : State → Prop}
variable {cc bytes : ByteArray} {own : String} {nL maxL base fr lo mc ms nA : Nat} {D : va_G} {cA : Nat → ClassId} {ad : Nat → Nat} {ty : zTyp} {I : zIt} {L : zLt} {P : zPt}
variable {pc : Nat} {ls : Array Slot} {rest st0 As : List Value} {κ ci n k idx : Nat} {y : MethodName} {ret : Option FieldType} {W0 W1 : Heap → Prop} {Qc : Array Value → State → Outcome → State → Prop} {XC : String → State → State → Prop} {free : Addr → Prop}
theorem z_CallB (hE : zEnv s) (hC : zC own idx y bytes maxL ret nA) (hR : fr + 1 ≤ R.frames ∧ 8 + (maxL + 11) + lo ≤ R.locals) (hl : (Cond.methodLink own idx y).before args s = true) : CallB R s args own idx y bytes maxL ret [Cond.code y bytes maxL ret] (zRm fr lo mc ms) mc ms nA := by
  obtain ⟨-, hini, hcode, hd1, hd2⟩ := hC
  refine ⟨rfl, rfl, hR.1, hR.2, ?_, List.mem_cons_self, hE.use hcode rfl, hE.use hini rfl, hd1, fun sig h => ?_, hl⟩
  · intro w hw a' U hW
    rw [List.mem_singleton.mp hw]
    exact zok_at (A := #[]) hW rfl (hE _ hcode rfl)
  · rw [h] at hd2
    exact (Option.some.inj hd2).symm
theorem z_CN (hE : zEnv s) (hC : zC own idx y bytes maxL ret nA) (hR : fr + 1 ≤ R.frames ∧ 8 + (maxL + 11) + lo ≤ R.locals) {host : String} (hl : (Cond.methodLinkNest own idx y host).before args s = true) : va_CN R s args own idx y host bytes maxL ret [Cond.code y bytes maxL ret] (zRm fr lo mc ms) mc ms nA := by
  obtain ⟨-, hini, hcode, hd1, hd2⟩ := hC
  refine ⟨⟨rfl, rfl, hR.1, hR.2, ?_, List.mem_cons_self⟩, hE.use hcode rfl, hE.use hini rfl, hd1, fun sig h => ?_, hl⟩
  · intro w hw a' U hW
    rw [List.mem_singleton.mp hw]
    exact zok_at (A := #[]) hW rfl (hE _ hcode rfl)
  · rw [h] at hd2
    exact (Option.some.inj hd2).symm
theorem z_mon : 2 * (F0 m pc ls st0).monitorRoom + (rest.map fun v => v.category).sum = (rest.map fun v => v.category).sum := by
  show 2 * 0 + _ = _
  omega
theorem z_preS (M : zM p s m c cc own nL base D cA) (hS : va_S (fun q => base ≤ q) s.heap H locs) (hW0 : W0 H) {av : List Value} : PreS s H (zPc base D cA av W0) av :=
  ⟨zPc.blind, fun U hU hW => ⟨rfl, M.2.2.2.2.go hS hU hW, by rw [hU]; exact hW0⟩⟩
theorem z_recv (M : zM p s m c cc own nL base D cA) (hw : zH base D cA s H locs ad ty I L P) (hty : ty κ = some (ci, n)) (h8 : ci < 8) : ∃ cellB : Cell, H[ad κ]? = some cellB ∧ cellB.vm.isStatics = false ∧ s.vm.findClass (zR ci) = some cellB.cls := by
  obtain ⟨cell, q1, q2, q3, -⟩ := (zAt.obj h8).mp (hw.1.1 κ _ hty).1
  exact ⟨cell, q1, by rw [q3]; rfl, by rw [q2]; exact (M.2.2.2.2.2.1.1 ci h8).2.1⟩
theorem z_runV (M : zM p s m c cc own nL base D cA) (hw : zH base D cA s H locs ad ty I L P) (hty : ty κ = some (ci, n)) (hC : zCV own idx y bytes maxL ret nA ci) (hM : Met l y [Cond.code y bytes maxL ret] (zRm fr lo mc ms) (zPc base D cA (.ref (ad κ) :: As) W0) Qc mc ms free) (hW0 : W0 H)
    (hst : st0 = As.reverse ++ .ref (ad κ) :: rest) (hn : As.length = nA) (hR : fr + 1 ≤ R.frames ∧ 8 + (maxL + 11) + lo ≤ R.locals) (hf : cells + mc ≤ R.cells ∧ slots + ms ≤ R.slots) (hsize : ls.size = nL) (hr8 : (rest.map fun v => v.category).sum ≤ 8) (hdg : decode cc pc = .ok (.invokevirtual idx, 3)) :
    va_Run p l e R s m args below meth c H locs cells slots mc ms (F0 m pc ls st0) rest (Qc (Value.ref (ad κ) :: As).toArray) free := by
  obtain ⟨hC, hin, hsel, h8, hyc⟩ := hC
  have hb : PreV s H (zR ci) (ad κ) (zPc base D cA (.ref (ad κ) :: As) W0) As := ⟨zPc.blind, z_recv M hw hty h8, (z_preS M hw.2 hW0).2⟩
  obtain ⟨hx, hbc, hml, hown, hE, hKn, -⟩ := M
  rw [hyc] at hsel
  have hW8 : 2 * (F0 m pc ls st0).monitorRoom + (rest.map fun v => v.category).sum ≤ 8 := by rw [z_mon]; exact hr8
  rcases id hC.1 with hl | ⟨host, hl⟩
  · exact va_runV (Ts := []) ⟨hx, hbc, hml, hown, fun _ h => nomatch h⟩ hM ⟨z_CallB hE hC hR (hE.use hl rfl), hE.use hin rfl, hE.use hsel rfl⟩ hb rfl hn hsize hst hW8 hdg hf
  · exact va_runVN (Ts := []) ⟨hx, hbc, hml, hown, fun _ h => nomatch h⟩ hM ⟨z_CN hE hC hR (hE.use hl rfl), hE.use hin rfl, hE.use hsel rfl⟩ hb rfl hn hsize hst hW8 hdg hf
theorem z_runS (M : zM p s m c cc own nL base D cA) (hS : va_S (fun q => base ≤ q) s.heap H locs) (hC : zCS own idx y bytes maxL ret nA) (hM : Met l y [Cond.code y bytes maxL ret] (zRm fr lo mc ms) (zPc base D cA As W0) Qc mc ms free) (hW0 : W0 H)
    (hst : st0 = As.reverse ++ rest) (hn : As.length = nA) (hR : fr + 1 ≤ R.frames ∧ 8 + (maxL + 11) + lo ≤ R.locals) (hf : cells + mc ≤ R.cells ∧ slots + ms ≤ R.slots) (hsize : ls.size = nL) (hr8 : (rest.map fun v => v.category).sum ≤ 8) (hdg : decode cc pc = .ok (.invokestatic idx, 3)) :
    va_Run p l e R s m args below meth c H locs cells slots mc ms (F0 m pc ls st0) rest (Qc As.toArray) free := by
  obtain ⟨hC, hstt⟩ := hC
  have hb := z_preS M hS hW0 (av := As)
  obtain ⟨hx, hbc, hml, hown, hE, hKn, -⟩ := M
  have hW8 : 2 * (F0 m pc ls st0).monitorRoom + (rest.map fun v => v.category).sum ≤ 8 := by rw [z_mon]; exact hr8
  rcases id hC.1 with hl | ⟨host, hl⟩
  · exact va_runS (Ts := []) ⟨hx, hbc, hml, hown, fun _ h => nomatch h⟩ hM ⟨z_CallB hE hC hR (hE.use hl rfl), hE.use hstt rfl⟩ hb rfl hn hsize hst hW8 hdg hf
  · exact va_runSN (Ts := []) ⟨hx, hbc, hml, hown, fun _ h => nomatch h⟩ hM ⟨z_CN hE hC hR (hE.use hl rfl), hE.use hstt rfl, trivial⟩ hb rfl hn hsize hst hW8 hdg hf
theorem z_runI (M : zM p s m c cc own nL base D cA) (hS : va_S (fun q => base ≤ q) s.heap H locs) {b : Addr} (hC : zCI own idx y bytes maxL nA) (hM : Met l y [Cond.code y bytes maxL none] (zRm fr lo mc ms) (zPc base D cA (.ref b :: As) W0) Qc mc ms free) (hW0 : W0 H)
    (hst : st0 = As.reverse ++ .ref b :: rest) (hn : As.length = nA) (hR : fr + 1 ≤ R.frames ∧ 8 + (maxL + 11) + lo ≤ R.locals) (hf : cells + mc ≤ R.cells ∧ slots + ms ≤ R.slots) (hsize : ls.size = nL) (hr8 : (rest.map fun v => v.category).sum ≤ 8) (hdg : decode cc pc = .ok (.invokespecial idx, 3)) :
    va_Run p l e R s m args below meth c H locs cells slots mc ms (F0 m pc ls st0) rest (Qc (Value.ref b :: As).toArray) free := by
  obtain ⟨hC, hin, hnm⟩ := hC
  have hb := z_preS M hS hW0 (av := .ref b :: As)
  obtain ⟨hx, hbc, hml, hown, hE, hKn, -⟩ := M
  have hW8 : 2 * (F0 m pc ls st0).monitorRoom + (rest.map fun v => v.category).sum ≤ 8 := by rw [z_mon]; exact hr8
  rcases id hC.1 with hl | ⟨host, hl⟩
  · exact va_runI (Ts := []) ⟨hx, hbc, hml, hown, fun _ h => nomatch h⟩ hM ⟨z_CallB hE hC hR (hE.use hl rfl), hnm, hE.use hin rfl⟩ hb rfl hn hsize hst hW8 hdg hf
  · exact va_runIN (Ts := []) ⟨hx, hbc, hml, hown, fun _ h => nomatch h⟩ hM ⟨z_CN hE hC hR (hE.use hl rfl), hnm, hE.use hin rfl⟩ hb rfl hn hsize hst hW8 hdg hf
/-- behind a call -/
theorem z_ci {a : Array Value} {r : Int32} (hr : va_Run p l e R s m args below meth c H locs cells slots mc ms (F0 m pc ls st0) rest (zQi base r W1 a) (fun q => base ≤ q)) (hS : va_S (fun q => base ≤ q) s.heap H locs)
    (kk : ∀ (H : Heap) (locs : List Loc), W1 H → va_S (fun q => base ≤ q) s.heap H locs → W p l e R s m args below meth c H locs (cells + mc) (slots + ms) Q (F0 m (pc + 3) ls (.int r :: rest))) : W p l e R s m args below meth c H locs cells slots Q (F0 m pc ls st0) := by
  refine va_calli hr hS (fun q _ h => h) (fun q h => h) fun v u t H1 locs1 ht _ hp hb _ _ hS1 => ?_
  cases hp
  exact kk H1 locs1 (by rw [← ht]; exact hb) hS1
theorem z_cl {a : Array Value} {r : Int64} (hr : va_Run p l e R s m args below meth c H locs cells slots mc ms (F0 m pc ls st0) rest (zQl base r W1 a) (fun q => base ≤ q)) (hS : va_S (fun q => base ≤ q) s.heap H locs)
    (kk : ∀ (H : Heap) (locs : List Loc), W1 H → va_S (fun q => base ≤ q) s.heap H locs → W p l e R s m args below meth c H locs (cells + mc) (slots + ms) Q (F0 m (pc + 3) ls (.long r :: rest))) : W p l e R s m args below meth c H locs cells slots Q (F0 m pc ls st0) := by
  refine va_calll hr hS (fun q _ h => h) (fun q h => h) fun v u t H1 locs1 ht _ hp hb _ _ hS1 => ?_
  cases hp
  exact kk H1 locs1 (by rw [← ht]; exact hb) hS1
theorem z_cv {a : Array Value} (hr : va_Run p l e R s m args below meth c H locs cells slots mc ms (F0 m pc ls st0) rest (zQv base W1 a) (fun q => base ≤ q)) (hS : va_S (fun q => base ≤ q) s.heap H locs)
    (kk : ∀ (H : Heap) (locs : List Loc), W1 H → va_S (fun q => base ≤ q) s.heap H locs → W p l e R s m args below meth c H locs (cells + mc) (slots + ms) Q (F0 m (pc + 3) ls rest)) : W p l e R s m args below meth c H locs cells slots Q (F0 m pc ls st0) := by
  refine va_callv hr hS (fun q _ h => h) (fun q h => h) fun u t H1 locs1 ht _ hp hb _ _ hS1 => ?_
  exact kk H1 locs1 (by rw [← ht]; exact hb) hS1
/-- .. where nothing is made -/
theorem z_ci0 {a : Array Value} {r : Int32} {I' : zIt} {L' : zLt} {P' : zPt} {ty' : zTyp} (hr : va_Run p l e R s m args below meth c H locs cells slots 0 0 (F0 m pc ls st0) rest (zQi base r (zW base D cA ad ty' I' L' P') a) (fun q => base ≤ q)) (hw : zH base D cA s H locs ad ty I L P)
    (kk : ∀ (H : Heap) (locs : List Loc), zH base D cA s H locs ad ty' I' L' P' → W p l e R s m args below meth c H locs cells slots Q (F0 m (pc + 3) ls (.int r :: rest))) : W p l e R s m args below meth c H locs cells slots Q (F0 m pc ls st0) :=
  z_ci hr hw.2 fun H locs h1 h2 => kk H locs ⟨h1, h2⟩
theorem z_cl0 {a : Array Value} {r : Int64} {I' : zIt} {L' : zLt} {P' : zPt} {ty' : zTyp} (hr : va_Run p l e R s m args below meth c H locs cells slots 0 0 (F0 m pc ls st0) rest (zQl base r (zW base D cA ad ty' I' L' P') a) (fun q => base ≤ q)) (hw : zH base D cA s H locs ad ty I L P)
    (kk : ∀ (H : Heap) (locs : List Loc), zH base D cA s H locs ad ty' I' L' P' → W p l e R s m args below meth c H locs cells slots Q (F0 m (pc + 3) ls (.long r :: rest))) : W p l e R s m args below meth c H locs cells slots Q (F0 m pc ls st0) :=
  z_cl hr hw.2 fun H locs h1 h2 => kk H locs ⟨h1, h2⟩
theorem z_cv0 {a : Array Value} {I' : zIt} {L' : zLt} {P' : zPt} {ty' : zTyp} (hr : va_Run p l e R s m args below meth c H locs cells slots 0 0 (F0 m pc ls st0) rest (zQv base (zW base D cA ad ty' I' L' P') a) (fun q => base ≤ q)) (hw : zH base D cA s H locs ad ty I L P)
    (kk : ∀ (H : Heap) (locs : List Loc), zH base D cA s H locs ad ty' I' L' P' → W p l e R s m args below meth c H locs cells slots Q (F0 m (pc + 3) ls rest)) : W p l e R s m args below meth c H locs cells slots Q (F0 m pc ls st0) :=
  z_cv hr hw.2 fun H locs h1 h2 => kk H locs ⟨h1, h2⟩
/-- a method's end -/
theorem z_iret (hx : p.tables.exec = Jvm.exec) (hb : c.code = cc) {rt : FieldType} (hr : meth.sig.returnType = some rt) {v r : Int32} (hv : v = r) (hn : narrow rt (.int v) = .int v) (hS : va_S (fun q => base ≤ q) s.heap H locs) (hW1 : W1 H) (hc : cells ≤ mc) (hs : slots ≤ ms) (hdg : decode cc pc = .ok (.ireturn, 1)) (hlocks : meth.locks = false) :
    W p l e R s m args below meth c H locs cells slots (MQ below (zQi base r W1) args s mc ms (fun q => base ≤ q)) (F0 m pc ls [.int v]) :=
  W.widen hc hs (W.zret hx hb hr hn (fun t ht _ => ⟨⟨v, (), rfl, hv, show W1 t.heap by rw [ht]; exact hW1⟩, hS.F ht⟩) hS.2.2 hdg hlocks)
theorem z_lret (hx : p.tables.exec = Jvm.exec) (hb : c.code = cc) (hr : meth.sig.returnType = some .long) {v r : Int64} (hv : v = r) (hS : va_S (fun q => base ≤ q) s.heap H locs) (hW1 : W1 H) (hc : cells ≤ mc) (hs : slots ≤ ms) (hdg : decode cc pc = .ok (.lreturn, 1)) (hlocks : meth.locks = false) :
    W p l e R s m args below meth c H locs cells slots (MQ below (zQl base r W1) args s mc ms (fun q => base ≤ q)) (F0 m pc ls [.long v]) :=
  W.widen hc hs (W.lret hx hb hr (fun t ht _ => ⟨⟨v, (), rfl, hv, show W1 t.heap by rw [ht]; exact hW1⟩, hS.F ht⟩) hS.2.2 hdg hlocks)
theorem z_vret (hx : p.tables.exec = Jvm.exec) (hb : c.code = cc) (hr : meth.sig.returnType = none) (hS : va_S (fun q => base ≤ q) s.heap H locs) (hW1 : W1 H) (hc : cells ≤ mc) (hs : slots ≤ ms) (hdg : decode cc pc = .ok (.return_, 1)) (hlocks : meth.locks = false) :
    W p l e R s m args below meth c H locs cells slots (MQ below (zQv base W1) args s mc ms (fun q => base ≤ q)) (F0 m pc ls []) :=
  W.widen hc hs (W.vret hx hb hr (fun t ht _ => ⟨⟨(), rfl, trivial, show W1 t.heap by rw [ht]; exact hW1⟩, hS.F ht⟩) hS.2.2 hdg hlocks)
theorem z_xiret (hx : p.tables.exec = Jvm.exec) (hb : c.code = cc) {rt : FieldType} (hr : meth.sig.returnType = some rt) {v r : Int32} {oc : Nat} (hv : v = r ∧ oc = 0) (hn : narrow rt (.int v) = .int v) (hS : va_S (fun q => base ≤ q) s.heap H locs) (hW1 : W1 H) (hc : cells ≤ mc) (hs : slots ≤ ms) (hdg : decode cc pc = .ok (.ireturn, 1)) (hlocks : meth.locks = false) :
    W p l e R s m args below meth c H locs cells slots (vx_MQ below (zXQi base oc r W1) XC args s mc ms (fun q => base ≤ q)) (F0 m pc ls [.int v]) :=
  W.widen hc hs (vx_ret (W.zret hx hb hr hn (fun t ht _ => ⟨⟨v, (), rfl, hv, show W1 t.heap by rw [ht]; exact hW1⟩, hS.F ht⟩) hS.2.2 hdg hlocks))
theorem z_xlret (hx : p.tables.exec = Jvm.exec) (hb : c.code = cc) (hr : meth.sig.returnType = some .long) {v r : Int64} {oc : Nat} (hv : v = r ∧ oc = 0) (hS : va_S (fun q => base ≤ q) s.heap H locs) (hW1 : W1 H) (hc : cells ≤ mc) (hs : slots ≤ ms) (hdg : decode cc pc = .ok (.lreturn, 1)) (hlocks : meth.locks = false) :
    W p l e R s m args below meth c H locs cells slots (vx_MQ below (zXQl base oc r W1) XC args s mc ms (fun q => base ≤ q)) (F0 m pc ls [.long v]) :=
  W.widen hc hs (vx_ret (W.lret hx hb hr (fun t ht _ => ⟨⟨v, (), rfl, hv, show W1 t.heap by rw [ht]; exact hW1⟩, hS.F ht⟩) hS.2.2 hdg hlocks))
theorem z_xvret (hx : p.tables.exec = Jvm.exec) (hb : c.code = cc) (hr : meth.sig.returnType = none) {oc : Nat} (hv : oc = 0) (hS : va_S (fun q => base ≤ q) s.heap H locs) (hW1 : W1 H) (hc : cells ≤ mc) (hs : slots ≤ ms) (hdg : decode cc pc = .ok (.return_, 1)) (hlocks : meth.locks = false) :
    W p l e R s m args below meth c H locs cells slots (vx_MQ below (zXQv base oc W1) XC args s mc ms (fun q => base ≤ q)) (F0 m pc ls []) :=
  W.widen hc hs (vx_ret (W.vret hx hb hr (fun t ht _ => ⟨⟨(), rfl, hv, show W1 t.heap by rw [ht]; exact hW1⟩, hS.F ht⟩) hS.2.2 hdg hlocks))
/-- calls of methods that may throw -/
theorem z_xrunV (M : zM p s m c cc own nL base D cA) (hw : zH base D cA s H locs ad ty I L P) (hty : ty κ = some (ci, n)) (hC : zCV own idx y bytes maxL ret nA ci) (hno : Cond.methodLink own idx y ∈ lw_tbl) (hM : vx_Met l y [Cond.code y bytes maxL ret] (zRm fr lo mc ms) (zPc base D cA (.ref (ad κ) :: As) W0) Qc XC mc ms free) (hW0 : W0 H)
    (hst : st0 = As.reverse ++ .ref (ad κ) :: rest) (hn : As.length = nA) (hR : fr + 1 ≤ R.frames ∧ 8 + (maxL + 11) + lo ≤ R.locals) (hf : cells + mc ≤ R.cells ∧ slots + ms ≤ R.slots) (hsize : ls.size = nL) (hr8 : (rest.map fun v => v.category).sum ≤ 8) (hdg : decode cc pc = .ok (.invokevirtual idx, 3)) :
    vx_Run p l e R s m args below meth c H locs cells slots mc ms (F0 m pc ls st0) rest (Qc (Value.ref (ad κ) :: As).toArray) XC free := by
  obtain ⟨hC, hin, hsel, h8, hyc⟩ := hC
  have hb : PreV s H (zR ci) (ad κ) (zPc base D cA (.ref (ad κ) :: As) W0) As := ⟨zPc.blind, z_recv M hw hty h8, (z_preS M hw.2 hW0).2⟩
  obtain ⟨hx, hbc, hml, hown, hE, hKn, -⟩ := M
  rw [hyc] at hsel
  have hW8 : 2 * (F0 m pc ls st0).monitorRoom + (rest.map fun v => v.category).sum ≤ 8 := by rw [z_mon]; exact hr8
  exact vx_runV (Ts := []) ⟨hx, hbc, hml, hown, fun _ h => nomatch h⟩ hM ⟨z_CallB hE hC hR (hE.use hno rfl), hE.use hin rfl, hE.use hsel rfl⟩ hb rfl hn hsize hst hW8 hdg hf
theorem z_xrunS (M : zM p s m c cc own nL base D cA) (hS : va_S (fun q => base ≤ q) s.heap H locs) (hC : zCS own idx y bytes maxL ret nA) (hno : Cond.methodLink own idx y ∈ lw_tbl) (hM : vx_Met l y [Cond.code y bytes maxL ret] (zRm fr lo mc ms) (zPc base D cA As W0) Qc XC mc ms free) (hW0 : W0 H)
    (hst : st0 = As.reverse ++ rest) (hn : As.length = nA) (hR : fr + 1 ≤ R.frames ∧ 8 + (maxL + 11) + lo ≤ R.locals) (hf : cells + mc ≤ R.cells ∧ slots + ms ≤ R.slots) (hsize : ls.size = nL) (hr8 : (rest.map fun v => v.category).sum ≤ 8) (hdg : decode cc pc = .ok (.invokestatic idx, 3)) :
    vx_Run p l e R s m args below meth c H locs cells slots mc ms (F0 m pc ls st0) rest (Qc As.toArray) XC free := by
  obtain ⟨hC, hstt⟩ := hC
  have hb := z_preS M hS hW0 (av := As)
  obtain ⟨hx, hbc, hml, hown, hE, hKn, -⟩ := M
  have hW8 : 2 * (F0 m pc ls st0).monitorRoom + (rest.map fun v => v.category).sum ≤ 8 := by rw [z_mon]; exact hr8
  exact vx_runS (Ts := []) ⟨hx, hbc, hml, hown, fun _ h => nomatch h⟩ hM ⟨z_CallB hE hC hR (hE.use hno rfl), hE.use hstt rfl⟩ hb rfl hn hsize hst hW8 hdg hf
/-- behind them: thrown (kx), or returned (kk) -/
theorem z_xcv {a : Array Value} {oc : Nat} (hr : vx_Run p l e R s m args below meth c H locs cells slots mc ms (F0 m pc ls st0) rest (zXQv base oc W1 a) (zXC base oc W0) (fun q => base ≤ q)) (hS : va_S (fun q => base ≤ q) s.heap H locs)
    (kx : oc ≠ 0 → ∀ (ce : Cell) (q : Addr) (H : Heap) (locs : List Loc), W0 H → va_S (fun q => base ≤ q) s.heap H locs → H[q]? = some ce → ce.vm = .none → s.vm.findClass (zEn oc) = some ce.cls → vx_W p l e R s m args below meth c H locs (cells + mc) (slots + ms) Q (F0 m pc ls rest) q)
    (kk : oc = 0 → ∀ (H : Heap) (locs : List Loc), W1 H → va_S (fun q => base ≤ q) s.heap H locs → W p l e R s m args below meth c H locs (cells + mc) (slots + ms) Q (F0 m (pc + 3) ls rest)) : W p l e R s m args below meth c H locs cells slots Q (F0 m pc ls st0) := by
  refine vx_callv hr hS (fun q _ h => h) (fun q h => h) (fun q _ h => h) (fun E ce q u t H1 locs1 ht _ hp hb _ _ hS1 h1 h2 h3 => ?_) fun u t H1 locs1 ht _ hp hb _ _ hS1 => ?_
  · exact kx hp ce q H1 locs1 (by rw [← ht]; exact hb.2) hS1 h1 h2 (by rw [← hb.1]; exact h3)
  · exact kk hp H1 locs1 (by rw [← ht]; exact hb) hS1
theorem z_xci {a : Array Value} {oc : Nat} {r : Int32} (hr : vx_Run p l e R s m args below meth c H locs cells slots mc ms (F0 m pc ls st0) rest (zXQi base oc r W1 a) (zXC base oc W0) (fun q => base ≤ q)) (hS : va_S (fun q => base ≤ q) s.heap H locs)
    (kx : oc ≠ 0 → ∀ (ce : Cell) (q : Addr) (H : Heap) (locs : List Loc), W0 H → va_S (fun q => base ≤ q) s.heap H locs → H[q]? = some ce → ce.vm = .none → s.vm.findClass (zEn oc) = some ce.cls → vx_W p l e R s m args below meth c H locs (cells + mc) (slots + ms) Q (F0 m pc ls rest) q)
    (kk : oc = 0 → ∀ (H : Heap) (locs : List Loc), W1 H → va_S (fun q => base ≤ q) s.heap H locs → W p l e R s m args below meth c H locs (cells + mc) (slots + ms) Q (F0 m (pc + 3) ls (.int r :: rest))) : W p l e R s m args below meth c H locs cells slots Q (F0 m pc ls st0) := by
  refine vx_calli hr hS (fun q _ h => h) (fun q h => h) (fun q _ h => h) (fun E ce q u t H1 locs1 ht _ hp hb _ _ hS1 h1 h2 h3 => ?_) fun v u t H1 locs1 ht _ hp hb _ _ hS1 => ?_
  · exact kx hp ce q H1 locs1 (by rw [← ht]; exact hb.2) hS1 h1 h2 (by rw [← hb.1]; exact h3)
  · obtain ⟨rfl, h0⟩ := hp
    exact kk h0 H1 locs1 (by rw [← ht]; exact hb) hS1
theorem z_xcl {a : Array Value} {oc : Nat} {r : Int64} (hr : vx_Run p l e R s m args below meth c H locs cells slots mc ms (F0 m pc ls st0) rest (zXQl base oc r W1 a) (zXC base oc W0) (fun q => base ≤ q)) (hS : va_S (fun q => base ≤ q) s.heap H locs)
    (kx : oc ≠ 0 → ∀ (ce : Cell) (q : Addr) (H : Heap) (locs : List Loc), W0 H → va_S (fun q => base ≤ q) s.heap H locs → H[q]? = some ce → ce.vm = .none → s.vm.findClass (zEn oc) = some ce.cls → vx_W p l e R s m args below meth c H locs (cells + mc) (slots + ms) Q (F0 m pc ls rest) q)
    (kk : oc = 0 → ∀ (H : Heap) (locs : List Loc), W1 H → va_S (fun q => base ≤ q) s.heap H locs → W p l e R s m args below meth c H locs (cells + mc) (slots + ms) Q (F0 m (pc + 3) ls (.long r :: rest))) : W p l e R s m args below meth c H locs cells slots Q (F0 m pc ls st0) := by
  refine vx_calll hr hS (fun q _ h => h) (fun q h => h) (fun q _ h => h) (fun E ce q u t H1 locs1 ht _ hp hb _ _ hS1 h1 h2 h3 => ?_) fun v u t H1 locs1 ht _ hp hb _ _ hS1 => ?_
  · exact kx hp ce q H1 locs1 (by rw [← ht]; exact hb.2) hS1 h1 h2 (by rw [← hb.1]; exact h3)
  · obtain ⟨rfl, h0⟩ := hp
    exact kk h0 H1 locs1 (by rw [← ht]; exact hb) hS1
end ZC
end
section
theorem tb (i : Nat) {w : Cond} (h : tables_1[i]? = some w) : w ∈ lw_tbl := List.mem_append_right _ (List.mem_of_getElem? h)
theorem tp (i : Nat) {w : Cond} (h : (k2_sels lw_privs)[i]? = some w) : w ∈ lw_tbl := List.mem_append_left _ (List.mem_of_getElem? h)
theorem zf_X6_11 : zF RX6 11 6 0 2 := ⟨by decide, by decide, rfl, rfl, Or.inl (tb 62 (by decide +kernel))⟩
theorem zf_X6_15 : zF RX6 15 6 1 0 := ⟨by decide, by decide, rfl, rfl, Or.inl (tb 63 (by decide +kernel))⟩
theorem zf_X6_22 : zF RX6 22 6 2 2 := ⟨by decide, by decide, rfl, rfl, Or.inl (tb 64 (by decide +kernel))⟩
theorem zf_X6_28 : zF RX6 28 6 3 2 := ⟨by decide, by decide, rfl, rfl, Or.inl (tb 65 (by decide +kernel))⟩
theorem zf_X6_32 : zF RX6 32 6 4 0 := ⟨by decide, by decide, rfl, rfl, Or.inl (tb 66 (by decide +kernel))⟩
theorem zf_X6_37 : zF RX6 37 6 5 2 := ⟨by decide, by decide, rfl, rfl, Or.inl (tb 67 (by decide +kernel))⟩
theorem zf_X6_41 : zF RX6 41 6 6 0 := ⟨by decide, by decide, rfl, rfl, Or.inl (tb 68 (by decide +kernel))⟩
theorem zf_X6_44 : zF RX6 44 6 7 0 := ⟨by decide, by decide, rfl, rfl, Or.inl (tb 69 (by decide +kernel))⟩
theorem zf_X6_48 : zF RX6 48 6 8 0 := ⟨by decide, by decide, rfl, rfl, Or.inl (tb 70 (by decide +kernel))⟩
theorem zf_X6_67 : zF RX6 67 2 1 0 := ⟨by decide, by decide, rfl, rfl, Or.inr ⟨"CableChart", tb 38 (by decide +kernel)⟩⟩
theorem zf_X6_79 : zF RX6 79 2 0 2 := ⟨by decide, by decide, rfl, rfl, Or.inr ⟨"CableChart", tb 36 (by decide +kernel)⟩⟩
theorem zf_X6_83 : zF RX6 83 0 4 0 := ⟨by decide, by decide, rfl, rfl, Or.inr ⟨"CableChart", tb 251 (by decide +kernel)⟩⟩
theorem zf_X6_104 : zF RX6 104 1 0 0 := ⟨by decide, by decide, rfl, rfl, Or.inr ⟨"CableChart", tb 195 (by decide +kernel)⟩⟩
theorem zf_X6_107 : zF RX6 107 1 1 0 := ⟨by decide, by decide, rfl, rfl, Or.inr ⟨"CableChart", tb 197 (by decide +kernel)⟩⟩
theorem zf_X6_118 : zF RX6 118 0 0 0 := ⟨by decide, by decide, rfl, rfl, Or.inr ⟨"CableChart", tb 241 (by decide +kernel)⟩⟩
theorem zf_X6_121 : zF RX6 121 0 1 0 := ⟨by decide, by decide, rfl, rfl, Or.inr ⟨"CableChart", tb 244 (by decide +kernel)⟩⟩
theorem zf_X6_155 : zF RX6 155 3 3 0 := ⟨by decide, by decide, rfl, rfl, Or.inr ⟨"CableChart", tb 321 (by decide +kernel)⟩⟩
theorem zf_X6_158 : zF RX6 158 3 1 0 := ⟨by decide, by decide, rfl, rfl, Or.inr ⟨"CableChart", tb 317 (by decide +kernel)⟩⟩
theorem zf_X6_159 : zF RX6 159 3 2 0 := ⟨by decide, by decide, rfl, rfl, Or.inr ⟨"CableChart", tb 319 (by decide +kernel)⟩⟩
theorem zf_X6_160 : zF RX6 160 3 4 0 := ⟨by decide, by decide, rfl, rfl, Or.inr ⟨"CableChart", tb 323 (by decide +kernel)⟩⟩
theorem zf_X6_163 : zF RX6 163 3 7 0 := ⟨by decide, by decide, rfl, rfl, Or.inr ⟨"CableChart", tb 329 (by decide +kernel)⟩⟩
theorem zf_X6_171 : zF RX6 171 4 6 2 := ⟨by decide, by decide, rfl, rfl, Or.inr ⟨"CableChart", tb 444 (by decide +kernel)⟩⟩
theorem zf_X6_180 : zF RX6 180 5 2 0 := ⟨by decide, by decide, rfl, rfl, Or.inr ⟨"CableChart", tb 422 (by decide +kernel)⟩⟩
theorem zf_X6_183 : zF RX6 183 5 3 0 := ⟨by decide, by decide, rfl, rfl, Or.inr ⟨"CableChart", tb 425 (by decide +kernel)⟩⟩
theorem zf_X6_186 : zF RX6 186 5 1 0 := ⟨by decide, by decide, rfl, rfl, Or.inr ⟨"CableChart", tb 419 (by decide +kernel)⟩⟩
theorem zf_X6_189 : zF RX6 189 4 0 0 := ⟨by decide, by decide, rfl, rfl, Or.inr ⟨"CableChart", tb 436 (by decide +kernel)⟩⟩
theorem zf_X6_192 : zF RX6 192 4 1 0 := ⟨by decide, by decide, rfl, rfl, Or.inr ⟨"CableChart", tb 438 (by decide +kernel)⟩⟩
theorem zf_X6_198 : zF RX6 198 4 7 1 := ⟨by decide, by decide, rfl, rfl, Or.inr ⟨"CableChart", tb 446 (by decide +kernel)⟩⟩
theorem zf_X6_202 : zF RX6 202 4 8 0 := ⟨by decide, by decide, rfl, rfl, Or.inr ⟨"CableChart", tb 448 (by decide +kernel)⟩⟩
theorem zf_X6_205 : zF RX6 205 4 9 0 := ⟨by decide, by decide, rfl, rfl, Or.inr ⟨"CableChart", tb 450 (by decide +kernel)⟩⟩
theorem zf_X6_208 : zF RX6 208 4 10 0 := ⟨by decide, by decide, rfl, rfl, Or.inr ⟨"CableChart", tb 452 (by decide +kernel)⟩⟩
theorem zf_X6_216 : zF RX6 216 0 2 0 := ⟨by decide, by decide, rfl, rfl, Or.inr ⟨"CableChart", tb 247 (by decide +kernel)⟩⟩
theorem zf_X6_259 : zF RX6 259 3 5 0 := ⟨by decide, by decide, rfl, rfl, Or.inr ⟨"CableChart", tb 325 (by decide +kernel)⟩⟩
theorem zf_X6_262 : zF RX6 262 3 6 0 := ⟨by decide, by decide, rfl, rfl, Or.inr ⟨"CableChart", tb 327 (by decide +kernel)⟩⟩
theorem zf_X0_9 : zF RX0 9 0 5 0 := ⟨by decide, by decide, rfl, rfl, Or.inl (tb 254 (by decide +kernel))⟩
theorem zf_X0_15 : zF RX0 15 0 0 0 := ⟨by decide, by decide, rfl, rfl, Or.inl (tb 240 (by decide +kernel))⟩
theorem zf_X0_18 : zF RX0 18 0 1 0 := ⟨by decide, by decide, rfl, rfl, Or.inl (tb 243 (by decide +kernel))⟩
theorem zf_X0_21 : zF RX0 21 0 2 0 := ⟨by decide, by decide, rfl, rfl, Or.inl (tb 246 (by decide +kernel))⟩
theorem zf_X0_24 : zF RX0 24 0 3 0 := ⟨by decide, by decide, rfl, rfl, Or.inl (tb 248 (by decide +kernel))⟩
theorem zf_X0_27 : zF RX0 27 0 4 0 := ⟨by decide, by decide, rfl, rfl, Or.inl (tb 250 (by decide +kernel))⟩
theorem zf_X1_7 : zF RX1 7 1 0 0 := ⟨by decide, by decide, rfl, rfl, Or.inl (tb 194 (by decide +kernel))⟩
theorem zf_X1_13 : zF RX1 13 1 1 0 := ⟨by decide, by decide, rfl, rfl, Or.inl (tb 196 (by decide +kernel))⟩
theorem zf_X2_11 : zF RX2 11 2 0 2 := ⟨by decide, by decide, rfl, rfl, Or.inl (tb 35 (by decide +kernel))⟩
theorem zf_X2_17 : zF RX2 17 2 1 0 := ⟨by decide, by decide, rfl, rfl, Or.inl (tb 37 (by decide +kernel))⟩
theorem zf_X2_21 : zF RX2 21 2 2 2 := ⟨by decide, by decide, rfl, rfl, Or.inl (tb 39 (by decide +kernel))⟩
theorem zf_X2_25 : zF RX2 25 2 3 0 := ⟨by decide, by decide, rfl, rfl, Or.inl (tb 40 (by decide +kernel))⟩
theorem zf_X2_28 : zF RX2 28 2 4 2 := ⟨by decide, by decide, rfl, rfl, Or.inl (tb 41 (by decide +kernel))⟩
theorem zf_X2_32 : zF RX2 32 2 5 2 := ⟨by decide, by decide, rfl, rfl, Or.inl (tb 42 (by decide +kernel))⟩
theorem zf_X2_35 : zF RX2 35 0 5 0 := ⟨by decide, by decide, rfl, rfl, Or.inr ⟨"CableChart", tb 255 (by decide +kernel)⟩⟩
theorem zf_X2_96 : zF RX2 96 0 0 0 := ⟨by decide, by decide, rfl, rfl, Or.inr ⟨"CableChart", tb 242 (by decide +kernel)⟩⟩
theorem zf_X2_99 : zF RX2 99 0 1 0 := ⟨by decide, by decide, rfl, rfl, Or.inr ⟨"CableChart", tb 245 (by decide +kernel)⟩⟩
theorem zf_X2_102 : zF RX2 102 0 4 0 := ⟨by decide, by decide, rfl, rfl, Or.inr ⟨"CableChart", tb 253 (by decide +kernel)⟩⟩
theorem zf_X3_9 : zF RX3 9 3 3 0 := ⟨by decide, by decide, rfl, rfl, Or.inl (tb 320 (by decide +kernel))⟩
theorem zf_X3_15 : zF RX3 15 3 4 0 := ⟨by decide, by decide, rfl, rfl, Or.inl (tb 322 (by decide +kernel))⟩
theorem zf_X3_18 : zF RX3 18 3 5 0 := ⟨by decide, by decide, rfl, rfl, Or.inl (tb 324 (by decide +kernel))⟩
theorem zf_X3_21 : zF RX3 21 3 6 0 := ⟨by decide, by decide, rfl, rfl, Or.inl (tb 326 (by decide +kernel))⟩
theorem zf_X3_24 : zF RX3 24 3 7 0 := ⟨by decide, by decide, rfl, rfl, Or.inl (tb 328 (by decide +kernel))⟩
theorem zf_X3_27 : zF RX3 27 3 1 0 := ⟨by decide, by decide, rfl, rfl, Or.inl (tb 316 (by decide +kernel))⟩
theorem zf_X3_30 : zF RX3 30 3 2 0 := ⟨by decide, by decide, rfl, rfl, Or.inl (tb 318 (by decide +kernel))⟩
theorem zf_X3_33 : zF RX3 33 3 0 0 := ⟨by decide, by decide, rfl, rfl, Or.inl (tb 315 (by decide +kernel))⟩
theorem zf_X4_12 : zF RX4 12 4 6 2 := ⟨by decide, by decide, rfl, rfl, Or.inl (tb 443 (by decide +kernel))⟩
theorem zf_X4_18 : zF RX4 18 4 7 1 := ⟨by decide, by decide, rfl, rfl, Or.inl (tb 445 (by decide +kernel))⟩
theorem zf_X4_22 : zF RX4 22 4 8 0 := ⟨by decide, by decide, rfl, rfl, Or.inl (tb 447 (by decide +kernel))⟩
theorem zf_X4_26 : zF RX4 26 4 9 0 := ⟨by decide, by decide, rfl, rfl, Or.inl (tb 449 (by decide +kernel))⟩
theorem zf_X4_29 : zF RX4 29 4 10 0 := ⟨by decide, by decide, rfl, rfl, Or.inl (tb 451 (by decide +kernel))⟩
theorem zf_X4_32 : zF RX4 32 4 0 0 := ⟨by decide, by decide, rfl, rfl, Or.inl (tb 435 (by decide +kernel))⟩
theorem zf_X4_35 : zF RX4 35 4 1 0 := ⟨by decide, by decide, rfl, rfl, Or.inl (tb 437 (by decide +kernel))⟩
theorem zf_X4_38 : zF RX4 38 4 2 0 := ⟨by decide, by decide, rfl, rfl, Or.inl (tb 439 (by decide +kernel))⟩
theorem zf_X4_41 : zF RX4 41 4 3 0 := ⟨by decide, by decide, rfl, rfl, Or.inl (tb 440 (by decide +kernel))⟩
theorem zf_X4_44 : zF RX4 44 4 4 0 := ⟨by decide, by decide, rfl, rfl, Or.inl (tb 441 (by decide +kernel))⟩
theorem zf_X4_47 : zF RX4 47 4 5 0 := ⟨by decide, by decide, rfl, rfl, Or.inl (tb 442 (by decide +kernel))⟩
theorem zf_X4_50 : zF RX4 50 5 1 0 := ⟨by decide, by decide, rfl, rfl, Or.inr ⟨"CableChart", tb 418 (by decide +kernel)⟩⟩
theorem zf_X4_57 : zF RX4 57 5 2 0 := ⟨by decide, by decide, rfl, rfl, Or.inr ⟨"CableChart", tb 421 (by decide +kernel)⟩⟩
theorem zf_X4_60 : zF RX4 60 5 3 0 := ⟨by decide, by decide, rfl, rfl, Or.inr ⟨"CableChart", tb 424 (by decide +kernel)⟩⟩
theorem zf_X5_9 : zF RX5 9 5 0 2 := ⟨by decide, by decide, rfl, rfl, Or.inl (tb 416 (by decide +kernel))⟩
theorem zf_X5_15 : zF RX5 15 5 1 0 := ⟨by decide, by decide, rfl, rfl, Or.inl (tb 417 (by decide +kernel))⟩
theorem zf_X5_19 : zF RX5 19 5 2 0 := ⟨by decide, by decide, rfl, rfl, Or.inl (tb 420 (by decide +kernel))⟩
theorem zf_X5_22 : zF RX5 22 5 3 0 := ⟨by decide, by decide, rfl, rfl, Or.inl (tb 423 (by decide +kernel))⟩
theorem zf_X5_25 : zF RX5 25 0 4 0 := ⟨by decide, by decide, rfl, rfl, Or.inr ⟨"CableChart", tb 252 (by decide +kernel)⟩⟩
theorem zf_X5_30 : zF RX5 30 0 3 0 := ⟨by decide, by decide, rfl, rfl, Or.inr ⟨"CableChart", tb 249 (by decide +kernel)⟩⟩
theorem zf_X7_7 : zF RX7 7 7 3 2 := ⟨by decide, by decide, rfl, rfl, Or.inl (tb 660 (by decide +kernel))⟩
theorem zf_X7_13 : zF RX7 13 7 4 2 := ⟨by decide, by decide, rfl, rfl, Or.inl (tb 661 (by decide +kernel))⟩
theorem zf_X7_16 : zF RX7 16 7 6 2 := ⟨by decide, by decide, rfl, rfl, Or.inl (tb 663 (by decide +kernel))⟩
theorem zf_X7_19 : zF RX7 19 7 7 2 := ⟨by decide, by decide, rfl, rfl, Or.inl (tb 664 (by decide +kernel))⟩
theorem zf_X7_22 : zF RX7 22 7 8 2 := ⟨by decide, by decide, rfl, rfl, Or.inl (tb 665 (by decide +kernel))⟩
theorem zf_X7_25 : zF RX7 25 7 9 2 := ⟨by decide, by decide, rfl, rfl, Or.inl (tb 666 (by decide +kernel))⟩
theorem zf_X7_28 : zF RX7 28 7 10 2 := ⟨by decide, by decide, rfl, rfl, Or.inl (tb 667 (by decide +kernel))⟩
theorem zf_X7_31 : zF RX7 31 7 12 2 := ⟨by decide, by decide, rfl, rfl, Or.inl (tb 669 (by decide +kernel))⟩
theorem zf_X7_34 : zF RX7 34 7 14 2 := ⟨by decide, by decide, rfl, rfl, Or.inl (tb 671 (by decide +kernel))⟩
theorem zf_X7_37 : zF RX7 37 7 15 2 := ⟨by decide, by decide, rfl, rfl, Or.inl (tb 672 (by decide +kernel))⟩
theorem zf_X7_40 : zF RX7 40 7 16 2 := ⟨by decide, by decide, rfl, rfl, Or.inl (tb 673 (by decide +kernel))⟩
theorem zf_X7_43 : zF RX7 43 7 17 2 := ⟨by decide, by decide, rfl, rfl, Or.inl (tb 674 (by decide +kernel))⟩
theorem zf_X7_46 : zF RX7 46 7 18 2 := ⟨by decide, by decide, rfl, rfl, Or.inl (tb 675 (by decide +kernel))⟩
theorem zf_X7_49 : zF RX7 49 7 19 2 := ⟨by decide, by decide, rfl, rfl, Or.inl (tb 676 (by decide +kernel))⟩
theorem zf_X7_52 : zF RX7 52 7 20 2 := ⟨by decide, by decide, rfl, rfl, Or.inl (tb 677 (by decide +kernel))⟩
theorem zf_X7_55 : zF RX7 55 7 22 2 := ⟨by decide, by decide, rfl, rfl, Or.inl (tb 679 (by decide +kernel))⟩
theorem zf_X7_58 : zF RX7 58 7 23 2 := ⟨by decide, by decide, rfl, rfl, Or.inl (tb 680 (by decide +kernel))⟩
theorem zf_X7_61 : zF RX7 61 7 24 2 := ⟨by decide, by decide, rfl, rfl, Or.inl (tb 681 (by decide +kernel))⟩
theorem zf_X7_64 : zF RX7 64 7 25 2 := ⟨by decide, by decide, rfl, rfl, Or.inl (tb 682 (by decide +kernel))⟩
theorem zf_X7_67 : zF RX7 67 7 26 2 := ⟨by decide, by decide, rfl, rfl, Or.inl (tb 683 (by decide +kernel))⟩
theorem zf_X7_70 : zF RX7 70 7 27 2 := ⟨by decide, by decide, rfl, rfl, Or.inl (tb 684 (by decide +kernel))⟩
theorem zf_X7_73 : zF RX7 73 7 28 2 := ⟨by decide, by decide, rfl, rfl, Or.inl (tb 685 (by decide +kernel))⟩
theorem zf_X7_77 : zF RX7 77 7 29 2 := ⟨by decide, by decide, rfl, rfl, Or.inl (tb 686 (by decide +kernel))⟩
theorem zf_X7_80 : zF RX7 80 7 30 2 := ⟨by decide, by decide, rfl, rfl, Or.inl (tb 687 (by decide +kernel))⟩
theorem zf_X7_84 : zF RX7 84 7 0 0 := ⟨by decide, by decide, rfl, rfl, Or.inl (tb 657 (by decide +kernel))⟩
theorem zf_X7_88 : zF RX7 88 7 2 0 := ⟨by decide, by decide, rfl, rfl, Or.inl (tb 659 (by decide +kernel))⟩
theorem zf_X7_95 : zF RX7 95 7 5 0 := ⟨by decide, by decide, rfl, rfl, Or.inl (tb 662 (by decide +kernel))⟩
theorem zf_X7_102 : zF RX7 102 7 13 0 := ⟨by decide, by decide, rfl, rfl, Or.inl (tb 670 (by decide +kernel))⟩
theorem zf_X7_105 : zF RX7 105 7 21 0 := ⟨by decide, by decide, rfl, rfl, Or.inl (tb 678 (by decide +kernel))⟩
theorem zf_X7_114 : zF RX7 114 7 11 0 := ⟨by decide, by decide, rfl, rfl, Or.inl (tb 668 (by decide +kernel))⟩
theorem zf_X7_166 : zF RX7 166 7 1 0 := ⟨by decide, by decide, rfl, rfl, Or.inl (tb 658 (by decide +kernel))⟩
theorem zc_X6_21 : zCI RX6 21 yX2_init cX2_init 1 0 := ⟨⟨Or.inr ⟨"CableChart", tb 29 (by decide +kernel)⟩, tb 2 (by decide +kernel), tb 31 (by decide +kernel), ⟨by decide +kernel, by decide +kernel⟩, by decide +kernel⟩, tb 30 (by decide +kernel), rfl⟩
theorem zc_X6_51 : zCS RX6 51 yX6_checkRange cX6_checkRange 3 none 3 := ⟨⟨Or.inl (tb 99 (by decide +kernel)), tb 1 (by decide +kernel), tb 101 (by decide +kernel), ⟨by decide +kernel, by decide +kernel⟩, by decide +kernel⟩, tb 100 (by decide +kernel)⟩
theorem zn_X6_51 : Cond.methodLink RX6 51 yX6_checkRange ∈ lw_tbl := tb 99 (by decide +kernel)
theorem zc_X6_55 : zCS RX6 55 yX6_checkRoom cX6_checkRoom 2 none 2 := ⟨⟨Or.inl (tb 170 (by decide +kernel)), tb 1 (by decide +kernel), tb 172 (by decide +kernel), ⟨by decide +kernel, by decide +kernel⟩, by decide +kernel⟩, tb 171 (by decide +kernel)⟩
theorem zn_X6_55 : Cond.methodLink RX6 55 yX6_checkRoom ∈ lw_tbl := tb 170 (by decide +kernel)
theorem zc_X6_59 : zCI RX6 59 yX1_init cX1_init 3 2 := ⟨⟨Or.inl (tb 190 (by decide +kernel)), tb 9 (by decide +kernel), tb 192 (by decide +kernel), ⟨by decide +kernel, by decide +kernel⟩, by decide +kernel⟩, tb 191 (by decide +kernel), rfl⟩
theorem zn_X6_59 : Cond.methodLink RX6 59 yX1_init ∈ lw_tbl := tb 190 (by decide +kernel)
theorem zc_X6_61 : zCS RX6 61 yX6_checkIndex cX6_checkIndex 2 none 2 := ⟨⟨Or.inl (tb 211 (by decide +kernel)), tb 1 (by decide +kernel), tb 213 (by decide +kernel), ⟨by decide +kernel, by decide +kernel⟩, by decide +kernel⟩, tb 212 (by decide +kernel)⟩
theorem zn_X6_61 : Cond.methodLink RX6 61 yX6_checkIndex ∈ lw_tbl := tb 211 (by decide +kernel)
theorem zc_X6_64 : zCS RX6 64 yX6_checkUnlike cX6_checkUnlike 2 none 2 := ⟨⟨Or.inl (tb 230 (by decide +kernel)), tb 1 (by decide +kernel), tb 232 (by decide +kernel), ⟨by decide +kernel, by decide +kernel⟩, by decide +kernel⟩, tb 231 (by decide +kernel)⟩
theorem zn_X6_64 : Cond.methodLink RX6 64 yX6_checkUnlike ∈ lw_tbl := tb 230 (by decide +kernel)
theorem zc_X6_72 : zCI RX6 72 yX0_init cX0_init 6 5 := ⟨⟨Or.inl (tb 236 (by decide +kernel)), tb 11 (by decide +kernel), tb 238 (by decide +kernel), ⟨by decide +kernel, by decide +kernel⟩, by decide +kernel⟩, tb 237 (by decide +kernel), rfl⟩
theorem zn_X6_72 : Cond.methodLink RX6 72 yX0_init ∈ lw_tbl := tb 236 (by decide +kernel)
theorem zc_X6_75 : zCV RX6 75 yX2_lay cX2_lay 2 (some .int) 1 2 := ⟨⟨Or.inl (tb 269 (by decide +kernel)), tb 2 (by decide +kernel), tb 272 (by decide +kernel), ⟨by decide +kernel, by decide +kernel⟩, by decide +kernel⟩, tb 270 (by decide +kernel), tb 271 (by decide +kernel), by decide, rfl⟩
theorem zn_X6_75 : Cond.methodLink RX6 75 yX2_lay ∈ lw_tbl := tb 269 (by decide +kernel)
theorem zc_X6_86 : zCV RX6 86 yX6_checkSpan cX6_checkSpan 3 none 2 6 := ⟨⟨Or.inl (tb 287 (by decide +kernel)), tb 1 (by decide +kernel), tb 290 (by decide +kernel), ⟨by decide +kernel, by decide +kernel⟩, by decide +kernel⟩, tb 289 (by decide +kernel), tp 1 (by decide +kernel), by decide, rfl⟩
theorem zn_X6_86 : Cond.methodLink RX6 86 yX6_checkSpan ∈ lw_tbl := tb 287 (by decide +kernel)
theorem zc_X6_89 : zCV RX6 89 yX0_hasFaultAt cX0_hasFaultAt 2 (some .boolean) 1 0 := ⟨⟨Or.inl (tb 291 (by decide +kernel)), tb 11 (by decide +kernel), tb 294 (by decide +kernel), ⟨by decide +kernel, by decide +kernel⟩, by decide +kernel⟩, tb 292 (by decide +kernel), tb 293 (by decide +kernel), by decide, rfl⟩
theorem zn_X6_89 : Cond.methodLink RX6 89 yX0_hasFaultAt ∈ lw_tbl := tb 291 (by decide +kernel)
theorem zc_X6_100 : zCV RX6 100 yX2_addFault cX2_addFault 3 (some .int) 2 2 := ⟨⟨Or.inl (tb 296 (by decide +kernel)), tb 2 (by decide +kernel), tb 299 (by decide +kernel), ⟨by decide +kernel, by decide +kernel⟩, by decide +kernel⟩, tb 297 (by decide +kernel), tb 298 (by decide +kernel), by decide, rfl⟩
theorem zn_X6_100 : Cond.methodLink RX6 100 yX2_addFault ∈ lw_tbl := tb 296 (by decide +kernel)
theorem zc_X6_110 : zCI RX6 110 yX3_init cX3_init 4 3 := ⟨⟨Or.inl (tb 311 (by decide +kernel)), tb 12 (by decide +kernel), tb 313 (by decide +kernel), ⟨by decide +kernel, by decide +kernel⟩, by decide +kernel⟩, tb 312 (by decide +kernel), rfl⟩
theorem zn_X6_110 : Cond.methodLink RX6 110 yX3_init ∈ lw_tbl := tb 311 (by decide +kernel)
theorem zc_X6_112 : zCS RX6 112 yX6_checkIdle cX6_checkIdle 1 none 1 := ⟨⟨Or.inl (tb 354 (by decide +kernel)), tb 1 (by decide +kernel), tb 356 (by decide +kernel), ⟨by decide +kernel, by decide +kernel⟩, by decide +kernel⟩, tb 355 (by decide +kernel)⟩
theorem zn_X6_112 : Cond.methodLink RX6 112 yX6_checkIdle ∈ lw_tbl := tb 354 (by decide +kernel)
theorem zc_X6_124 : zCV RX6 124 yX3_aimAt cX3_aimAt 3 none 2 3 := ⟨⟨Or.inl (tb 359 (by decide +kernel)), tb 12 (by decide +kernel), tb 362 (by decide +kernel), ⟨by decide +kernel, by decide +kernel⟩, by decide +kernel⟩, tb 360 (by decide +kernel), tb 361 (by decide +kernel), by decide, rfl⟩
theorem zn_X6_124 : Cond.methodLink RX6 124 yX3_aimAt ∈ lw_tbl := tb 359 (by decide +kernel)
theorem zc_X6_127 : zCV RX6 127 yX0_placeOfSpan cX0_placeOfSpan 4 (some .int) 3 0 := ⟨⟨Or.inl (tb 363 (by decide +kernel)), tb 11 (by decide +kernel), tb 366 (by decide +kernel), ⟨by decide +kernel, by decide +kernel⟩, by decide +kernel⟩, tb 364 (by decide +kernel), tb 365 (by decide +kernel), by decide, rfl⟩
theorem zn_X6_127 : Cond.methodLink RX6 127 yX0_placeOfSpan ∈ lw_tbl := tb 363 (by decide +kernel)
theorem zc_X6_131 : zCV RX6 131 yX6_setOff cX6_setOff 5 (some .int) 3 6 := ⟨⟨Or.inl (tb 367 (by decide +kernel)), tb 1 (by decide +kernel), tb 370 (by decide +kernel), ⟨by decide +kernel, by decide +kernel⟩, by decide +kernel⟩, tb 369 (by decide +kernel), tp 2 (by decide +kernel), by decide, rfl⟩
theorem zn_X6_131 : Cond.methodLink RX6 131 yX6_setOff ∈ lw_tbl := tb 367 (by decide +kernel)
theorem zc_X6_136 : zCI RX6 136 yX4_init cX4_init 7 6 := ⟨⟨Or.inl (tb 406 (by decide +kernel)), tb 14 (by decide +kernel), tb 408 (by decide +kernel), ⟨by decide +kernel, by decide +kernel⟩, by decide +kernel⟩, tb 407 (by decide +kernel), rfl⟩
theorem zn_X6_136 : Cond.methodLink RX6 136 yX4_init ∈ lw_tbl := tb 406 (by decide +kernel)
theorem zc_X6_139 : zCV RX6 139 yX6_passHour cX6_passHour 2 none 0 6 := ⟨⟨Or.inl (tb 483 (by decide +kernel)), tb 1 (by decide +kernel), tb 486 (by decide +kernel), ⟨by decide +kernel, by decide +kernel⟩, by decide +kernel⟩, tb 485 (by decide +kernel), tp 5 (by decide +kernel), by decide, rfl⟩
theorem zn_X6_139 : Cond.methodLink RX6 139 yX6_passHour ∈ lw_tbl := tb 483 (by decide +kernel)
theorem zc_X6_142 : zCV RX6 142 yX0_isWorking cX0_isWorking 1 (some .boolean) 0 0 := ⟨⟨Or.inl (tb 572 (by decide +kernel)), tb 11 (by decide +kernel), tb 575 (by decide +kernel), ⟨by decide +kernel, by decide +kernel⟩, by decide +kernel⟩, tb 573 (by decide +kernel), tb 574 (by decide +kernel), by decide, rfl⟩
theorem zn_X6_142 : Cond.methodLink RX6 142 yX0_isWorking ∈ lw_tbl := tb 572 (by decide +kernel)
theorem zc_X6_151 : zCV RX6 151 yX2_faultRanked cX2_faultRanked 2 (some .int) 1 2 := ⟨⟨Or.inl (tb 584 (by decide +kernel)), tb 2 (by decide +kernel), tb 587 (by decide +kernel), ⟨by decide +kernel, by decide +kernel⟩, by decide +kernel⟩, tb 585 (by decide +kernel), tb 586 (by decide +kernel), by decide, rfl⟩
theorem zn_X6_151 : Cond.methodLink RX6 151 yX2_faultRanked ∈ lw_tbl := tb 584 (by decide +kernel)
theorem zc_X6_168 : zCV RX6 168 yX6_findStaleWays cX6_findStaleWays 2 none 0 6 := ⟨⟨Or.inl (tb 503 (by decide +kernel)), tb 1 (by decide +kernel), tb 506 (by decide +kernel), ⟨by decide +kernel, by decide +kernel⟩, by decide +kernel⟩, tb 505 (by decide +kernel), tp 9 (by decide +kernel), by decide, rfl⟩
theorem zn_X6_168 : Cond.methodLink RX6 168 yX6_findStaleWays ∈ lw_tbl := tb 503 (by decide +kernel)
theorem zc_X6_175 : zCV RX6 175 yX5_cableAt cX5_cableAt 2 (some .int) 1 5 := ⟨⟨Or.inl (tb 603 (by decide +kernel)), tb 15 (by decide +kernel), tb 606 (by decide +kernel), ⟨by decide +kernel, by decide +kernel⟩, by decide +kernel⟩, tb 604 (by decide +kernel), tb 605 (by decide +kernel), by decide, rfl⟩
theorem zn_X6_175 : Cond.methodLink RX6 175 yX5_cableAt ∈ lw_tbl := tb 603 (by decide +kernel)
theorem zc_X6_195 : zCV RX6 195 yX2_priceByRounds cX2_priceByRounds 5 (some .int) 2 2 := ⟨⟨Or.inl (tb 621 (by decide +kernel)), tb 2 (by decide +kernel), tb 624 (by decide +kernel), ⟨by decide +kernel, by decide +kernel⟩, by decide +kernel⟩, tb 622 (by decide +kernel), tb 623 (by decide +kernel), by decide, rfl⟩
theorem zn_X6_195 : Cond.methodLink RX6 195 yX2_priceByRounds ∈ lw_tbl := tb 621 (by decide +kernel)
theorem zc_X6_211 : zCV RX6 211 yX2_reachedFrom cX2_reachedFrom 6 (some .int) 1 2 := ⟨⟨Or.inl (tb 647 (by decide +kernel)), tb 2 (by decide +kernel), tb 650 (by decide +kernel), ⟨by decide +kernel, by decide +kernel⟩, by decide +kernel⟩, tb 648 (by decide +kernel), tb 649 (by decide +kernel), by decide, rfl⟩
theorem zn_X6_211 : Cond.methodLink RX6 211 yX2_reachedFrom ∈ lw_tbl := tb 647 (by decide +kernel)
theorem zc_X6_230 : zCV RX6 230 yX2_findWay cX2_findWay 7 none 3 2 := ⟨⟨Or.inl (tb 507 (by decide +kernel)), tb 2 (by decide +kernel), tb 510 (by decide +kernel), ⟨by decide +kernel, by decide +kernel⟩, by decide +kernel⟩, tb 508 (by decide +kernel), tb 509 (by decide +kernel), by decide, rfl⟩
theorem zn_X6_230 : Cond.methodLink RX6 230 yX2_findWay ∈ lw_tbl := tb 507 (by decide +kernel)
theorem zc_X6_234 : zCV RX6 234 yX6_workHour cX6_workHour 2 none 1 6 := ⟨⟨Or.inl (tb 487 (by decide +kernel)), tb 1 (by decide +kernel), tb 490 (by decide +kernel), ⟨by decide +kernel, by decide +kernel⟩, by decide +kernel⟩, tb 489 (by decide +kernel), tp 6 (by decide +kernel), by decide, rfl⟩
theorem zn_X6_234 : Cond.methodLink RX6 234 yX6_workHour ∈ lw_tbl := tb 487 (by decide +kernel)
theorem zc_X6_237 : zCV RX6 237 yX4_settleHour cX4_settleHour 1 none 0 4 := ⟨⟨Or.inl (tb 554 (by decide +kernel)), tb 14 (by decide +kernel), tb 557 (by decide +kernel), ⟨by decide +kernel, by decide +kernel⟩, by decide +kernel⟩, tb 555 (by decide +kernel), tb 556 (by decide +kernel), by decide, rfl⟩
theorem zn_X6_237 : Cond.methodLink RX6 237 yX4_settleHour ∈ lw_tbl := tb 554 (by decide +kernel)
theorem zc_X6_240 : zCV RX6 240 yX6_goOn cX6_goOn 2 none 1 6 := ⟨⟨Or.inl (tb 491 (by decide +kernel)), tb 1 (by decide +kernel), tb 494 (by decide +kernel), ⟨by decide +kernel, by decide +kernel⟩, by decide +kernel⟩, tb 493 (by decide +kernel), tp 7 (by decide +kernel), by decide, rfl⟩
theorem zn_X6_240 : Cond.methodLink RX6 240 yX6_goOn ∈ lw_tbl := tb 491 (by decide +kernel)
theorem zc_X6_243 : zCV RX6 243 yX6_arrive cX6_arrive 2 none 1 6 := ⟨⟨Or.inl (tb 382 (by decide +kernel)), tb 1 (by decide +kernel), tb 385 (by decide +kernel), ⟨by decide +kernel, by decide +kernel⟩, by decide +kernel⟩, tb 384 (by decide +kernel), tp 3 (by decide +kernel), by decide, rfl⟩
theorem zn_X6_243 : Cond.methodLink RX6 243 yX6_arrive ∈ lw_tbl := tb 382 (by decide +kernel)
theorem zc_X6_246 : zCV RX6 246 yX3_begin cX3_begin 3 none 2 3 := ⟨⟨Or.inl (tb 378 (by decide +kernel)), tb 12 (by decide +kernel), tb 381 (by decide +kernel), ⟨by decide +kernel, by decide +kernel⟩, by decide +kernel⟩, tb 379 (by decide +kernel), tb 380 (by decide +kernel), by decide, rfl⟩
theorem zn_X6_246 : Cond.methodLink RX6 246 yX3_begin ∈ lw_tbl := tb 378 (by decide +kernel)
theorem zc_X6_249 : zCV RX6 249 yX6_mend cX6_mend 2 none 1 6 := ⟨⟨Or.inl (tb 495 (by decide +kernel)), tb 1 (by decide +kernel), tb 498 (by decide +kernel), ⟨by decide +kernel, by decide +kernel⟩, by decide +kernel⟩, tb 497 (by decide +kernel), tp 8 (by decide +kernel), by decide, rfl⟩
theorem zn_X6_249 : Cond.methodLink RX6 249 yX6_mend ∈ lw_tbl := tb 495 (by decide +kernel)
theorem zc_X6_252 : zCV RX6 252 yX3_hoursTo cX3_hoursTo 4 (some .int) 2 3 := ⟨⟨Or.inl (tb 371 (by decide +kernel)), tb 12 (by decide +kernel), tb 374 (by decide +kernel), ⟨by decide +kernel, by decide +kernel⟩, by decide +kernel⟩, tb 372 (by decide +kernel), tb 373 (by decide +kernel), by decide, rfl⟩
theorem zn_X6_252 : Cond.methodLink RX6 252 yX3_hoursTo ∈ lw_tbl := tb 371 (by decide +kernel)
theorem zc_X6_255 : zCV RX6 255 yX6_hasItsFault cX6_hasItsFault 2 (some .boolean) 1 6 := ⟨⟨Or.inl (tb 386 (by decide +kernel)), tb 1 (by decide +kernel), tb 389 (by decide +kernel), ⟨by decide +kernel, by decide +kernel⟩, by decide +kernel⟩, tb 388 (by decide +kernel), tp 4 (by decide +kernel), by decide, rfl⟩
theorem zn_X6_255 : Cond.methodLink RX6 255 yX6_hasItsFault ∈ lw_tbl := tb 386 (by decide +kernel)
theorem zc_X6_265 : zCV RX6 265 yX2_removeFault cX2_removeFault 5 none 2 2 := ⟨⟨Or.inl (tb 499 (by decide +kernel)), tb 2 (by decide +kernel), tb 502 (by decide +kernel), ⟨by decide +kernel, by decide +kernel⟩, by decide +kernel⟩, tb 500 (by decide +kernel), tb 501 (by decide +kernel), by decide, rfl⟩
theorem zn_X6_265 : Cond.methodLink RX6 265 yX2_removeFault ∈ lw_tbl := tb 499 (by decide +kernel)
theorem zc_X2_38 : zCS RX2 38 yX2_faultCode cX2_faultCode 2 (some .int) 2 := ⟨⟨Or.inl (tb 300 (by decide +kernel)), tb 2 (by decide +kernel), tb 302 (by decide +kernel), ⟨by decide +kernel, by decide +kernel⟩, by decide +kernel⟩, tb 301 (by decide +kernel)⟩
theorem zn_X2_38 : Cond.methodLink RX2 38 yX2_faultCode ∈ lw_tbl := tb 300 (by decide +kernel)
theorem zc_X2_42 : zCV RX2 42 yX5_end cX5_end 1 none 0 5 := ⟨⟨Or.inl (tb 511 (by decide +kernel)), tb 15 (by decide +kernel), tb 514 (by decide +kernel), ⟨by decide +kernel, by decide +kernel⟩, by decide +kernel⟩, tb 512 (by decide +kernel), tb 513 (by decide +kernel), by decide, rfl⟩
theorem zn_X2_42 : Cond.methodLink RX2 42 yX5_end ∈ lw_tbl := tb 511 (by decide +kernel)
theorem zc_X2_47 : zCV RX2 47 yX2_measureTo cX2_measureTo 5 none 1 2 := ⟨⟨Or.inl (tb 515 (by decide +kernel)), tb 2 (by decide +kernel), tb 518 (by decide +kernel), ⟨by decide +kernel, by decide +kernel⟩, by decide +kernel⟩, tb 517 (by decide +kernel), tp 10 (by decide +kernel), by decide, rfl⟩
theorem zn_X2_47 : Cond.methodLink RX2 47 yX2_measureTo ∈ lw_tbl := tb 515 (by decide +kernel)
theorem zc_X2_53 : zCV RX2 53 yX5_start cX5_start 1 none 0 5 := ⟨⟨Or.inl (tb 542 (by decide +kernel)), tb 15 (by decide +kernel), tb 545 (by decide +kernel), ⟨by decide +kernel, by decide +kernel⟩, by decide +kernel⟩, tb 543 (by decide +kernel), tb 544 (by decide +kernel), by decide, rfl⟩
theorem zn_X2_53 : Cond.methodLink RX2 53 yX5_start ∈ lw_tbl := tb 542 (by decide +kernel)
theorem zc_X2_56 : zCV RX2 56 yX2_lowestBestCable cX2_lowestBestCable 4 (some .int) 1 2 := ⟨⟨Or.inl (tb 546 (by decide +kernel)), tb 2 (by decide +kernel), tb 549 (by decide +kernel), ⟨by decide +kernel, by decide +kernel⟩, by decide +kernel⟩, tb 548 (by decide +kernel), tp 13 (by decide +kernel), by decide, rfl⟩
theorem zn_X2_56 : Cond.methodLink RX2 56 yX2_lowestBestCable ∈ lw_tbl := tb 546 (by decide +kernel)
theorem zc_X2_60 : zCV RX2 60 yX5_add cX5_add 3 none 2 5 := ⟨⟨Or.inl (tb 550 (by decide +kernel)), tb 15 (by decide +kernel), tb 553 (by decide +kernel), ⟨by decide +kernel, by decide +kernel⟩, by decide +kernel⟩, tb 551 (by decide +kernel), tb 552 (by decide +kernel), by decide, rfl⟩
theorem zn_X2_60 : Cond.methodLink RX2 60 yX5_add ∈ lw_tbl := tb 550 (by decide +kernel)
theorem zc_X2_64 : zCV RX2 64 yX0_leadsTo cX0_leadsTo 2 (some .int) 1 0 := ⟨⟨Or.inl (tb 531 (by decide +kernel)), tb 11 (by decide +kernel), tb 534 (by decide +kernel), ⟨by decide +kernel, by decide +kernel⟩, by decide +kernel⟩, tb 532 (by decide +kernel), tb 533 (by decide +kernel), by decide, rfl⟩
theorem zn_X2_64 : Cond.methodLink RX2 64 yX0_leadsTo ∈ lw_tbl := tb 531 (by decide +kernel)
theorem zc_X2_67 : zCS RX2 67 yJ7_fill_d0a16 cJ7_fill_d0a16 5 none 2 := ⟨⟨Or.inl (tb 520 (by decide +kernel)), tb 16 (by decide +kernel), tb 522 (by decide +kernel), ⟨by decide +kernel, by decide +kernel⟩, by decide +kernel⟩, tb 521 (by decide +kernel)⟩
theorem zn_X2_67 : Cond.methodLink RX2 67 yJ7_fill_d0a16 ∈ lw_tbl := tb 520 (by decide +kernel)
theorem zc_X2_73 : zCV RX2 73 yX2_nearestBeside cX2_nearestBeside 6 (some .int) 1 2 := ⟨⟨Or.inl (tb 523 (by decide +kernel)), tb 2 (by decide +kernel), tb 526 (by decide +kernel), ⟨by decide +kernel, by decide +kernel⟩, by decide +kernel⟩, tb 525 (by decide +kernel), tp 11 (by decide +kernel), by decide, rfl⟩
theorem zn_X2_73 : Cond.methodLink RX2 73 yX2_nearestBeside ∈ lw_tbl := tb 523 (by decide +kernel)
theorem zc_X2_76 : zCV RX2 76 yX2_spreadFrom cX2_spreadFrom 4 none 1 2 := ⟨⟨Or.inl (tb 527 (by decide +kernel)), tb 2 (by decide +kernel), tb 530 (by decide +kernel), ⟨by decide +kernel, by decide +kernel⟩, by decide +kernel⟩, tb 529 (by decide +kernel), tp 12 (by decide +kernel), by decide, rfl⟩
theorem zn_X2_76 : Cond.methodLink RX2 76 yX2_spreadFrom ∈ lw_tbl := tb 527 (by decide +kernel)
theorem zc_X2_79 : zCV RX2 79 yX0_cost cX0_cost 1 (some .long) 0 0 := ⟨⟨Or.inl (tb 535 (by decide +kernel)), tb 11 (by decide +kernel), tb 538 (by decide +kernel), ⟨by decide +kernel, by decide +kernel⟩, by decide +kernel⟩, tb 536 (by decide +kernel), tb 537 (by decide +kernel), by decide, rfl⟩
theorem zn_X2_79 : Cond.methodLink RX2 79 yX0_cost ∈ lw_tbl := tb 535 (by decide +kernel)
theorem zc_X2_83 : zCS RX2 83 yJ9_min_f86c9 cJ9_min_f86c9 4 (some .long) 2 := ⟨⟨Or.inl (tb 539 (by decide +kernel)), tb 13 (by decide +kernel), tb 541 (by decide +kernel), ⟨by decide +kernel, by decide +kernel⟩, by decide +kernel⟩, tb 540 (by decide +kernel)⟩
theorem zn_X2_83 : Cond.methodLink RX2 83 yJ9_min_f86c9 ∈ lw_tbl := tb 539 (by decide +kernel)
theorem zc_X2_89 : zCS RX2 89 yJ7_fill_53178 cJ7_fill_53178 4 none 2 := ⟨⟨Or.inl (tb 625 (by decide +kernel)), tb 16 (by decide +kernel), tb 627 (by decide +kernel), ⟨by decide +kernel, by decide +kernel⟩, by decide +kernel⟩, tb 626 (by decide +kernel)⟩
theorem zn_X2_89 : Cond.methodLink RX2 89 yJ7_fill_53178 ∈ lw_tbl := tb 625 (by decide +kernel)
theorem zc_X2_92 : zCV RX2 92 yX0_isWorking cX0_isWorking 1 (some .boolean) 0 0 := ⟨⟨Or.inl (tb 628 (by decide +kernel)), tb 11 (by decide +kernel), tb 575 (by decide +kernel), ⟨by decide +kernel, by decide +kernel⟩, by decide +kernel⟩, tb 573 (by decide +kernel), tb 574 (by decide +kernel), by decide, rfl⟩
theorem zn_X2_92 : Cond.methodLink RX2 92 yX0_isWorking ∈ lw_tbl := tb 628 (by decide +kernel)
theorem zc_X2_105 : zCV RX2 105 yX2_lowerSum cX2_lowerSum 4 none 3 2 := ⟨⟨Or.inl (tb 629 (by decide +kernel)), tb 2 (by decide +kernel), tb 632 (by decide +kernel), ⟨by decide +kernel, by decide +kernel⟩, by decide +kernel⟩, tb 631 (by decide +kernel), tp 15 (by decide +kernel), by decide, rfl⟩
theorem zn_X2_105 : Cond.methodLink RX2 105 yX2_lowerSum ∈ lw_tbl := tb 629 (by decide +kernel)
theorem zc_X3_36 : zCS RX3 36 yJ9_abs_0f7a4 cJ9_abs_0f7a4 1 (some .int) 1 := ⟨⟨Or.inl (tb 375 (by decide +kernel)), tb 13 (by decide +kernel), tb 377 (by decide +kernel), ⟨by decide +kernel, by decide +kernel⟩, by decide +kernel⟩, tb 376 (by decide +kernel)⟩
theorem zn_X3_36 : Cond.methodLink RX3 36 yJ9_abs_0f7a4 ∈ lw_tbl := tb 375 (by decide +kernel)
theorem zc_X4_11 : zCI RX4 11 yX5_init cX5_init 1 0 := ⟨⟨Or.inr ⟨"CableChart", tb 412 (by decide +kernel)⟩, tb 15 (by decide +kernel), tb 414 (by decide +kernel), ⟨by decide +kernel, by decide +kernel⟩, by decide +kernel⟩, tb 413 (by decide +kernel), rfl⟩
theorem zc_X4_53 : zCV RX4 53 yX4_credit cX4_credit 2 none 1 4 := ⟨⟨Or.inl (tb 558 (by decide +kernel)), tb 14 (by decide +kernel), tb 561 (by decide +kernel), ⟨by decide +kernel, by decide +kernel⟩, by decide +kernel⟩, tb 560 (by decide +kernel), tp 14 (by decide +kernel), by decide, rfl⟩
theorem zn_X4_53 : Cond.methodLink RX4 53 yX4_credit ∈ lw_tbl := tb 558 (by decide +kernel)
theorem zc_X4_63 : zCS RX4 63 yJ9_min_7cf53 cJ9_min_7cf53 2 (some .int) 2 := ⟨⟨Or.inl (tb 562 (by decide +kernel)), tb 13 (by decide +kernel), tb 564 (by decide +kernel), ⟨by decide +kernel, by decide +kernel⟩, by decide +kernel⟩, tb 563 (by decide +kernel)⟩
theorem zn_X4_63 : Cond.methodLink RX4 63 yJ9_min_7cf53 ∈ lw_tbl := tb 562 (by decide +kernel)
theorem zc_L_7 : zCV RL 7 yX6_island cX6_island 3 (some .int) 2 6 := ⟨⟨Or.inl (tb 95 (by decide +kernel)), tb 1 (by decide +kernel), tb 98 (by decide +kernel), ⟨by decide +kernel, by decide +kernel⟩, by decide +kernel⟩, tb 96 (by decide +kernel), tb 97 (by decide +kernel), by decide, rfl⟩
theorem zn_L_7 : Cond.methodLink RL 7 yX6_island ∈ lw_tbl := tb 95 (by decide +kernel)
theorem zc_L_17 : zCV RL 17 yX6_cable cX6_cable 6 (some .int) 5 6 := ⟨⟨Or.inl (tb 207 (by decide +kernel)), tb 1 (by decide +kernel), tb 210 (by decide +kernel), ⟨by decide +kernel, by decide +kernel⟩, by decide +kernel⟩, tb 208 (by decide +kernel), tb 209 (by decide +kernel), by decide, rfl⟩
theorem zn_L_17 : Cond.methodLink RL 17 yX6_cable ∈ lw_tbl := tb 207 (by decide +kernel)
theorem zc_L_23 : zCV RL 23 yX6_price cX6_price 4 (some .int) 2 6 := ⟨⟨Or.inl (tb 276 (by decide +kernel)), tb 1 (by decide +kernel), tb 279 (by decide +kernel), ⟨by decide +kernel, by decide +kernel⟩, by decide +kernel⟩, tb 277 (by decide +kernel), tb 278 (by decide +kernel), by decide, rfl⟩
theorem zn_L_23 : Cond.methodLink RL 23 yX6_price ∈ lw_tbl := tb 276 (by decide +kernel)
theorem zc_L_26 : zCV RL 26 yX6_fault cX6_fault 3 (some .int) 2 6 := ⟨⟨Or.inl (tb 283 (by decide +kernel)), tb 1 (by decide +kernel), tb 286 (by decide +kernel), ⟨by decide +kernel, by decide +kernel⟩, by decide +kernel⟩, tb 284 (by decide +kernel), tb 285 (by decide +kernel), by decide, rfl⟩
theorem zn_L_26 : Cond.methodLink RL 26 yX6_fault ∈ lw_tbl := tb 283 (by decide +kernel)
theorem zc_L_29 : zCV RL 29 yX6_ship cX6_ship 3 (some .int) 2 6 := ⟨⟨Or.inl (tb 306 (by decide +kernel)), tb 1 (by decide +kernel), tb 309 (by decide +kernel), ⟨by decide +kernel, by decide +kernel⟩, by decide +kernel⟩, tb 307 (by decide +kernel), tb 308 (by decide +kernel), by decide, rfl⟩
theorem zn_L_29 : Cond.methodLink RL 29 yX6_ship ∈ lw_tbl := tb 306 (by decide +kernel)
theorem zc_L_32 : zCV RL 32 yX6_send cX6_send 7 (some .int) 3 6 := ⟨⟨Or.inl (tb 350 (by decide +kernel)), tb 1 (by decide +kernel), tb 353 (by decide +kernel), ⟨by decide +kernel, by decide +kernel⟩, by decide +kernel⟩, tb 351 (by decide +kernel), tb 352 (by decide +kernel), by decide, rfl⟩
theorem zn_L_32 : Cond.methodLink RL 32 yX6_send ∈ lw_tbl := tb 350 (by decide +kernel)
theorem zc_L_36 : zCV RL 36 yX6_home cX6_home 3 (some .int) 2 6 := ⟨⟨Or.inl (tb 393 (by decide +kernel)), tb 1 (by decide +kernel), tb 396 (by decide +kernel), ⟨by decide +kernel, by decide +kernel⟩, by decide +kernel⟩, tb 394 (by decide +kernel), tb 395 (by decide +kernel), by decide, rfl⟩
theorem zn_L_36 : Cond.methodLink RL 36 yX6_home ∈ lw_tbl := tb 393 (by decide +kernel)
theorem zc_L_39 : zCV RL 39 yX6_trader cX6_trader 7 (some .int) 6 6 := ⟨⟨Or.inl (tb 400 (by decide +kernel)), tb 1 (by decide +kernel), tb 403 (by decide +kernel), ⟨by decide +kernel, by decide +kernel⟩, by decide +kernel⟩, tb 401 (by decide +kernel), tb 402 (by decide +kernel), by decide, rfl⟩
theorem zn_L_39 : Cond.methodLink RL 39 yX6_trader ∈ lw_tbl := tb 400 (by decide +kernel)
theorem zc_L_43 : zCV RL 43 yX6_pass cX6_pass 3 (some .int) 1 6 := ⟨⟨Or.inl (tb 479 (by decide +kernel)), tb 1 (by decide +kernel), tb 482 (by decide +kernel), ⟨by decide +kernel, by decide +kernel⟩, by decide +kernel⟩, tb 480 (by decide +kernel), tb 481 (by decide +kernel), by decide, rfl⟩
theorem zn_L_43 : Cond.methodLink RL 43 yX6_pass ∈ lw_tbl := tb 479 (by decide +kernel)
theorem zc_L_47 : zCV RL 47 yX6_works cX6_works 2 (some .boolean) 1 6 := ⟨⟨Or.inl (tb 568 (by decide +kernel)), tb 1 (by decide +kernel), tb 571 (by decide +kernel), ⟨by decide +kernel, by decide +kernel⟩, by decide +kernel⟩, tb 569 (by decide +kernel), tb 570 (by decide +kernel), by decide, rfl⟩
theorem zn_L_47 : Cond.methodLink RL 47 yX6_works ∈ lw_tbl := tb 568 (by decide +kernel)
theorem zc_L_51 : zCV RL 51 yX6_faultAt cX6_faultAt 2 (some .int) 1 6 := ⟨⟨Or.inl (tb 579 (by decide +kernel)), tb 1 (by decide +kernel), tb 582 (by decide +kernel), ⟨by decide +kernel, by decide +kernel⟩, by decide +kernel⟩, tb 580 (by decide +kernel), tb 581 (by decide +kernel), by decide, rfl⟩
theorem zn_L_51 : Cond.methodLink RL 51 yX6_faultAt ∈ lw_tbl := tb 579 (by decide +kernel)
theorem zc_L_54 : zCV RL 54 yX6_shipOf cX6_shipOf 4 (some .int) 2 6 := ⟨⟨Or.inl (tb 591 (by decide +kernel)), tb 1 (by decide +kernel), tb 594 (by decide +kernel), ⟨by decide +kernel, by decide +kernel⟩, by decide +kernel⟩, tb 592 (by decide +kernel), tb 593 (by decide +kernel), by decide, rfl⟩
theorem zn_L_54 : Cond.methodLink RL 54 yX6_shipOf ∈ lw_tbl := tb 591 (by decide +kernel)
theorem zc_L_57 : zCV RL 57 yX6_way cX6_way 3 (some .int) 2 6 := ⟨⟨Or.inl (tb 598 (by decide +kernel)), tb 1 (by decide +kernel), tb 601 (by decide +kernel), ⟨by decide +kernel, by decide +kernel⟩, by decide +kernel⟩, tb 599 (by decide +kernel), tb 600 (by decide +kernel), by decide, rfl⟩
theorem zn_L_57 : Cond.methodLink RL 57 yX6_way ∈ lw_tbl := tb 598 (by decide +kernel)
theorem zc_L_60 : zCV RL 60 yX6_sum cX6_sum 4 (some .int) 2 6 := ⟨⟨Or.inl (tb 610 (by decide +kernel)), tb 1 (by decide +kernel), tb 613 (by decide +kernel), ⟨by decide +kernel, by decide +kernel⟩, by decide +kernel⟩, tb 611 (by decide +kernel), tb 612 (by decide +kernel), by decide, rfl⟩
theorem zn_L_60 : Cond.methodLink RL 60 yX6_sum ∈ lw_tbl := tb 610 (by decide +kernel)
theorem zc_L_63 : zCV RL 63 yX6_sumAnew cX6_sumAnew 2 (some .int) 1 6 := ⟨⟨Or.inl (tb 617 (by decide +kernel)), tb 1 (by decide +kernel), tb 620 (by decide +kernel), ⟨by decide +kernel, by decide +kernel⟩, by decide +kernel⟩, tb 618 (by decide +kernel), tb 619 (by decide +kernel), by decide, rfl⟩
theorem zn_L_63 : Cond.methodLink RL 63 yX6_sumAnew ∈ lw_tbl := tb 617 (by decide +kernel)
theorem zc_L_66 : zCV RL 66 yX6_account cX6_account 4 (some .long) 2 6 := ⟨⟨Or.inl (tb 636 (by decide +kernel)), tb 1 (by decide +kernel), tb 639 (by decide +kernel), ⟨by decide +kernel, by decide +kernel⟩, by decide +kernel⟩, tb 637 (by decide +kernel), tb 638 (by decide +kernel), by decide, rfl⟩
theorem zn_L_66 : Cond.methodLink RL 66 yX6_account ∈ lw_tbl := tb 636 (by decide +kernel)
theorem zc_L_70 : zCV RL 70 yX6_reach cX6_reach 2 (some .int) 1 6 := ⟨⟨Or.inl (tb 643 (by decide +kernel)), tb 1 (by decide +kernel), tb 646 (by decide +kernel), ⟨by decide +kernel, by decide +kernel⟩, by decide +kernel⟩, tb 644 (by decide +kernel), tb 645 (by decide +kernel), by decide, rfl⟩
theorem zn_L_70 : Cond.methodLink RL 70 yX6_reach ∈ lw_tbl := tb 643 (by decide +kernel)
theorem zc_L_73 : zCI RL 73 yX6_init cX6_init 1 0 := ⟨⟨Or.inl (tb 19 (by decide +kernel)), tb 1 (by decide +kernel), tb 21 (by decide +kernel), ⟨by decide +kernel, by decide +kernel⟩, by decide +kernel⟩, tb 20 (by decide +kernel), rfl⟩
theorem zn_L_73 : Cond.methodLink RL 73 yX6_init ∈ lw_tbl := tb 19 (by decide +kernel)
theorem zc_L_76 : zCI RL 76 yX7_init cX7_init 1 0 := ⟨⟨Or.inl (tb 653 (by decide +kernel)), tb 3 (by decide +kernel), tb 655 (by decide +kernel), ⟨by decide +kernel, by decide +kernel⟩, by decide +kernel⟩, tb 654 (by decide +kernel), rfl⟩
theorem zn_L_76 : Cond.methodLink RL 76 yX7_init ∈ lw_tbl := tb 653 (by decide +kernel)
theorem zc_L_82 : zCV RL 82 yX7_island cX7_island 4 (some .int) 2 7 := ⟨⟨Or.inl (tb 756 (by decide +kernel)), tb 3 (by decide +kernel), tb 759 (by decide +kernel), ⟨by decide +kernel, by decide +kernel⟩, by decide +kernel⟩, tb 757 (by decide +kernel), tb 758 (by decide +kernel), by decide, rfl⟩
theorem zn_L_82 : Cond.methodLink RL 82 yX7_island ∈ lw_tbl := tb 756 (by decide +kernel)
theorem zc_L_83 : zCV RL 83 yX7_thrown cX7_thrown 1 (some .int) 0 7 := ⟨⟨Or.inl (tb 752 (by decide +kernel)), tb 3 (by decide +kernel), tb 755 (by decide +kernel), ⟨by decide +kernel, by decide +kernel⟩, by decide +kernel⟩, tb 753 (by decide +kernel), tb 754 (by decide +kernel), by decide, rfl⟩
theorem zn_L_83 : Cond.methodLink RL 83 yX7_thrown ∈ lw_tbl := tb 752 (by decide +kernel)
theorem zc_L_90 : zCV RL 90 yX7_cable cX7_cable 8 (some .int) 5 7 := ⟨⟨Or.inl (tb 767 (by decide +kernel)), tb 3 (by decide +kernel), tb 770 (by decide +kernel), ⟨by decide +kernel, by decide +kernel⟩, by decide +kernel⟩, tb 768 (by decide +kernel), tb 769 (by decide +kernel), by decide, rfl⟩
theorem zn_L_90 : Cond.methodLink RL 90 yX7_cable ∈ lw_tbl := tb 767 (by decide +kernel)
theorem zc_L_93 : zCV RL 93 yX7_price cX7_price 5 (some .int) 2 7 := ⟨⟨Or.inl (tb 775 (by decide +kernel)), tb 3 (by decide +kernel), tb 778 (by decide +kernel), ⟨by decide +kernel, by decide +kernel⟩, by decide +kernel⟩, tb 776 (by decide +kernel), tb 777 (by decide +kernel), by decide, rfl⟩
theorem zn_L_93 : Cond.methodLink RL 93 yX7_price ∈ lw_tbl := tb 775 (by decide +kernel)
theorem zc_L_96 : zCV RL 96 yX7_fault cX7_fault 4 (some .int) 2 7 := ⟨⟨Or.inl (tb 783 (by decide +kernel)), tb 3 (by decide +kernel), tb 786 (by decide +kernel), ⟨by decide +kernel, by decide +kernel⟩, by decide +kernel⟩, tb 784 (by decide +kernel), tb 785 (by decide +kernel), by decide, rfl⟩
theorem zn_L_96 : Cond.methodLink RL 96 yX7_fault ∈ lw_tbl := tb 783 (by decide +kernel)
theorem zc_L_99 : zCV RL 99 yX7_ship cX7_ship 4 (some .int) 2 7 := ⟨⟨Or.inl (tb 795 (by decide +kernel)), tb 3 (by decide +kernel), tb 798 (by decide +kernel), ⟨by decide +kernel, by decide +kernel⟩, by decide +kernel⟩, tb 796 (by decide +kernel), tb 797 (by decide +kernel), by decide, rfl⟩
theorem zn_L_99 : Cond.methodLink RL 99 yX7_ship ∈ lw_tbl := tb 795 (by decide +kernel)
theorem zc_L_103 : zCV RL 103 yX7_send cX7_send 6 (some .int) 3 7 := ⟨⟨Or.inl (tb 799 (by decide +kernel)), tb 3 (by decide +kernel), tb 802 (by decide +kernel), ⟨by decide +kernel, by decide +kernel⟩, by decide +kernel⟩, tb 800 (by decide +kernel), tb 801 (by decide +kernel), by decide, rfl⟩
theorem zn_L_103 : Cond.methodLink RL 103 yX7_send ∈ lw_tbl := tb 799 (by decide +kernel)
theorem zc_L_106 : zCV RL 106 yX7_home cX7_home 4 (some .int) 2 7 := ⟨⟨Or.inl (tb 821 (by decide +kernel)), tb 3 (by decide +kernel), tb 824 (by decide +kernel), ⟨by decide +kernel, by decide +kernel⟩, by decide +kernel⟩, tb 822 (by decide +kernel), tb 823 (by decide +kernel), by decide, rfl⟩
theorem zn_L_106 : Cond.methodLink RL 106 yX7_home ∈ lw_tbl := tb 821 (by decide +kernel)
theorem zc_L_110 : zCV RL 110 yX7_trader cX7_trader 9 (some .int) 6 7 := ⟨⟨Or.inl (tb 825 (by decide +kernel)), tb 3 (by decide +kernel), tb 828 (by decide +kernel), ⟨by decide +kernel, by decide +kernel⟩, by decide +kernel⟩, tb 826 (by decide +kernel), tb 827 (by decide +kernel), by decide, rfl⟩
theorem zn_L_110 : Cond.methodLink RL 110 yX7_trader ∈ lw_tbl := tb 825 (by decide +kernel)
theorem zc_L_114 : zCV RL 114 yX7_pass cX7_pass 4 (some .int) 1 7 := ⟨⟨Or.inl (tb 830 (by decide +kernel)), tb 3 (by decide +kernel), tb 833 (by decide +kernel), ⟨by decide +kernel, by decide +kernel⟩, by decide +kernel⟩, tb 831 (by decide +kernel), tb 832 (by decide +kernel), by decide, rfl⟩
theorem zn_L_114 : Cond.methodLink RL 114 yX7_pass ∈ lw_tbl := tb 830 (by decide +kernel)
theorem zc_L_117 : zCV RL 117 yX7_works cX7_works 2 (some .boolean) 1 7 := ⟨⟨Or.inl (tb 861 (by decide +kernel)), tb 3 (by decide +kernel), tb 864 (by decide +kernel), ⟨by decide +kernel, by decide +kernel⟩, by decide +kernel⟩, tb 862 (by decide +kernel), tb 863 (by decide +kernel), by decide, rfl⟩
theorem zn_L_117 : Cond.methodLink RL 117 yX7_works ∈ lw_tbl := tb 861 (by decide +kernel)
theorem zc_L_120 : zCV RL 120 yX7_faultAt cX7_faultAt 2 (some .int) 1 7 := ⟨⟨Or.inl (tb 865 (by decide +kernel)), tb 3 (by decide +kernel), tb 868 (by decide +kernel), ⟨by decide +kernel, by decide +kernel⟩, by decide +kernel⟩, tb 866 (by decide +kernel), tb 867 (by decide +kernel), by decide, rfl⟩
theorem zn_L_120 : Cond.methodLink RL 120 yX7_faultAt ∈ lw_tbl := tb 865 (by decide +kernel)
theorem zc_L_123 : zCV RL 123 yX7_shipOf cX7_shipOf 4 (some .int) 2 7 := ⟨⟨Or.inl (tb 869 (by decide +kernel)), tb 3 (by decide +kernel), tb 872 (by decide +kernel), ⟨by decide +kernel, by decide +kernel⟩, by decide +kernel⟩, tb 870 (by decide +kernel), tb 871 (by decide +kernel), by decide, rfl⟩
theorem zn_L_123 : Cond.methodLink RL 123 yX7_shipOf ∈ lw_tbl := tb 869 (by decide +kernel)
theorem zc_L_126 : zCV RL 126 yX7_way cX7_way 6 (some .int) 2 7 := ⟨⟨Or.inl (tb 873 (by decide +kernel)), tb 3 (by decide +kernel), tb 876 (by decide +kernel), ⟨by decide +kernel, by decide +kernel⟩, by decide +kernel⟩, tb 874 (by decide +kernel), tb 875 (by decide +kernel), by decide, rfl⟩
theorem zn_L_126 : Cond.methodLink RL 126 yX7_way ∈ lw_tbl := tb 873 (by decide +kernel)
theorem zc_L_129 : zCV RL 129 yX7_sum cX7_sum 6 (some .int) 2 7 := ⟨⟨Or.inl (tb 889 (by decide +kernel)), tb 3 (by decide +kernel), tb 892 (by decide +kernel), ⟨by decide +kernel, by decide +kernel⟩, by decide +kernel⟩, tb 890 (by decide +kernel), tb 891 (by decide +kernel), by decide, rfl⟩
theorem zn_L_129 : Cond.methodLink RL 129 yX7_sum ∈ lw_tbl := tb 889 (by decide +kernel)
theorem zc_L_132 : zCV RL 132 yX7_sumAnew cX7_sumAnew 2 (some .int) 1 7 := ⟨⟨Or.inl (tb 893 (by decide +kernel)), tb 3 (by decide +kernel), tb 896 (by decide +kernel), ⟨by decide +kernel, by decide +kernel⟩, by decide +kernel⟩, tb 894 (by decide +kernel), tb 895 (by decide +kernel), by decide, rfl⟩
theorem zn_L_132 : Cond.methodLink RL 132 yX7_sumAnew ∈ lw_tbl := tb 893 (by decide +kernel)
theorem zc_L_135 : zCV RL 135 yX7_account cX7_account 4 (some .long) 2 7 := ⟨⟨Or.inl (tb 897 (by decide +kernel)), tb 3 (by decide +kernel), tb 900 (by decide +kernel), ⟨by decide +kernel, by decide +kernel⟩, by decide +kernel⟩, tb 898 (by decide +kernel), tb 899 (by decide +kernel), by decide, rfl⟩
theorem zn_L_135 : Cond.methodLink RL 135 yX7_account ∈ lw_tbl := tb 897 (by decide +kernel)
theorem zc_L_138 : zCV RL 138 yX7_reach cX7_reach 4 (some .int) 1 7 := ⟨⟨Or.inl (tb 901 (by decide +kernel)), tb 3 (by decide +kernel), tb 904 (by decide +kernel), ⟨by decide +kernel, by decide +kernel⟩, by decide +kernel⟩, tb 902 (by decide +kernel), tb 903 (by decide +kernel), by decide, rfl⟩
theorem zn_L_138 : Cond.methodLink RL 138 yX7_reach ∈ lw_tbl := tb 901 (by decide +kernel)
theorem zc_X7_91 : zCS RX7 91 yX7_in cX7_in 3 (some .boolean) 3 := ⟨⟨Or.inl (tb 760 (by decide +kernel)), tb 3 (by decide +kernel), tb 762 (by decide +kernel), ⟨by decide +kernel, by decide +kernel⟩, by decide +kernel⟩, tb 761 (by decide +kernel)⟩
theorem zn_X7_91 : Cond.methodLink RX7 91 yX7_in ∈ lw_tbl := tb 760 (by decide +kernel)
theorem zc_X7_98 : zCV RX7 98 yX7_isCable cX7_isCable 2 (some .boolean) 1 7 := ⟨⟨Or.inl (tb 779 (by decide +kernel)), tb 3 (by decide +kernel), tb 782 (by decide +kernel), ⟨by decide +kernel, by decide +kernel⟩, by decide +kernel⟩, tb 781 (by decide +kernel), tp 18 (by decide +kernel), by decide, rfl⟩
theorem zn_X7_98 : Cond.methodLink RX7 98 yX7_isCable ∈ lw_tbl := tb 779 (by decide +kernel)
theorem zc_X7_108 : zCV RX7 108 yX7_goesWell cX7_goesWell 2 (some .boolean) 1 7 := ⟨⟨Or.inl (tb 763 (by decide +kernel)), tb 3 (by decide +kernel), tb 766 (by decide +kernel), ⟨by decide +kernel, by decide +kernel⟩, by decide +kernel⟩, tb 765 (by decide +kernel), tp 16 (by decide +kernel), by decide, rfl⟩
theorem zn_X7_108 : Cond.methodLink RX7 108 yX7_goesWell ∈ lw_tbl := tb 763 (by decide +kernel)
theorem zc_X7_111 : zCV RX7 111 yX7_isIsland cX7_isIsland 2 (some .boolean) 1 7 := ⟨⟨Or.inl (tb 771 (by decide +kernel)), tb 3 (by decide +kernel), tb 774 (by decide +kernel), ⟨by decide +kernel, by decide +kernel⟩, by decide +kernel⟩, tb 773 (by decide +kernel), tp 17 (by decide +kernel), by decide, rfl⟩
theorem zn_X7_111 : Cond.methodLink RX7 111 yX7_isIsland ∈ lw_tbl := tb 771 (by decide +kernel)
theorem zc_X7_117 : zCV RX7 117 yX7_isSpan cX7_isSpan 3 (some .boolean) 2 7 := ⟨⟨Or.inl (tb 787 (by decide +kernel)), tb 3 (by decide +kernel), tb 790 (by decide +kernel), ⟨by decide +kernel, by decide +kernel⟩, by decide +kernel⟩, tb 789 (by decide +kernel), tp 19 (by decide +kernel), by decide, rfl⟩
theorem zn_X7_117 : Cond.methodLink RX7 117 yX7_isSpan ∈ lw_tbl := tb 787 (by decide +kernel)
theorem zc_X7_121 : zCV RX7 121 yX7_placeOf cX7_placeOf 3 (some .int) 1 7 := ⟨⟨Or.inl (tb 791 (by decide +kernel)), tb 3 (by decide +kernel), tb 794 (by decide +kernel), ⟨by decide +kernel, by decide +kernel⟩, by decide +kernel⟩, tb 793 (by decide +kernel), tp 20 (by decide +kernel), by decide, rfl⟩
theorem zn_X7_121 : Cond.methodLink RX7 121 yX7_placeOf ∈ lw_tbl := tb 791 (by decide +kernel)
theorem zc_X7_125 : zCS RX7 125 yX7_size cX7_size 1 (some .int) 1 := ⟨⟨Or.inl (tb 814 (by decide +kernel)), tb 3 (by decide +kernel), tb 816 (by decide +kernel), ⟨by decide +kernel, by decide +kernel⟩, by decide +kernel⟩, tb 815 (by decide +kernel)⟩
theorem zn_X7_125 : Cond.methodLink RX7 125 yX7_size ∈ lw_tbl := tb 814 (by decide +kernel)
theorem zc_X7_128 : zCV RX7 128 yX7_come cX7_come 3 none 1 7 := ⟨⟨Or.inl (tb 817 (by decide +kernel)), tb 3 (by decide +kernel), tb 820 (by decide +kernel), ⟨by decide +kernel, by decide +kernel⟩, by decide +kernel⟩, tb 819 (by decide +kernel), tp 23 (by decide +kernel), by decide, rfl⟩
theorem zn_X7_128 : Cond.methodLink RX7 128 yX7_come ∈ lw_tbl := tb 817 (by decide +kernel)
theorem zc_X7_132 : zCV RX7 132 yX7_isShip cX7_isShip 2 (some .boolean) 1 7 := ⟨⟨Or.inl (tb 803 (by decide +kernel)), tb 3 (by decide +kernel), tb 806 (by decide +kernel), ⟨by decide +kernel, by decide +kernel⟩, by decide +kernel⟩, tb 805 (by decide +kernel), tp 21 (by decide +kernel), by decide, rfl⟩
theorem zn_X7_132 : Cond.methodLink RX7 132 yX7_isShip ∈ lw_tbl := tb 803 (by decide +kernel)
theorem zc_X7_135 : zCS RX7 135 yX7_between cX7_between 4 (some .int) 4 := ⟨⟨Or.inl (tb 807 (by decide +kernel)), tb 3 (by decide +kernel), tb 809 (by decide +kernel), ⟨by decide +kernel, by decide +kernel⟩, by decide +kernel⟩, tb 808 (by decide +kernel)⟩
theorem zn_X7_135 : Cond.methodLink RX7 135 yX7_between ∈ lw_tbl := tb 807 (by decide +kernel)
theorem zc_X7_139 : zCV RX7 139 yX7_sail cX7_sail 7 (some .int) 4 7 := ⟨⟨Or.inl (tb 810 (by decide +kernel)), tb 3 (by decide +kernel), tb 813 (by decide +kernel), ⟨by decide +kernel, by decide +kernel⟩, by decide +kernel⟩, tb 812 (by decide +kernel), tp 22 (by decide +kernel), by decide, rfl⟩
theorem zn_X7_139 : Cond.methodLink RX7 139 yX7_sail ∈ lw_tbl := tb 810 (by decide +kernel)
theorem zc_X7_142 : zCV RX7 142 yX7_mend cX7_mend 4 none 1 7 := ⟨⟨Or.inl (tb 838 (by decide +kernel)), tb 3 (by decide +kernel), tb 841 (by decide +kernel), ⟨by decide +kernel, by decide +kernel⟩, by decide +kernel⟩, tb 840 (by decide +kernel), tp 25 (by decide +kernel), by decide, rfl⟩
theorem zn_X7_142 : Cond.methodLink RX7 142 yX7_mend ∈ lw_tbl := tb 838 (by decide +kernel)
theorem zc_X7_152 : zCV RX7 152 yX7_doesWork cX7_doesWork 4 (some .boolean) 1 7 := ⟨⟨Or.inl (tb 851 (by decide +kernel)), tb 3 (by decide +kernel), tb 854 (by decide +kernel), ⟨by decide +kernel, by decide +kernel⟩, by decide +kernel⟩, tb 853 (by decide +kernel), tp 28 (by decide +kernel), by decide, rfl⟩
theorem zn_X7_152 : Cond.methodLink RX7 152 yX7_doesWork ∈ lw_tbl := tb 851 (by decide +kernel)
theorem zc_X7_155 : zCV RX7 155 yX7_costs cX7_costs 2 (some .long) 1 7 := ⟨⟨Or.inl (tb 855 (by decide +kernel)), tb 3 (by decide +kernel), tb 858 (by decide +kernel), ⟨by decide +kernel, by decide +kernel⟩, by decide +kernel⟩, tb 857 (by decide +kernel), tp 29 (by decide +kernel), by decide, rfl⟩
theorem zn_X7_155 : Cond.methodLink RX7 155 yX7_costs ∈ lw_tbl := tb 855 (by decide +kernel)
theorem zc_X7_159 : zCV RX7 159 yX7_across cX7_across 3 (some .int) 2 7 := ⟨⟨Or.inl (tb 885 (by decide +kernel)), tb 3 (by decide +kernel), tb 888 (by decide +kernel), ⟨by decide +kernel, by decide +kernel⟩, by decide +kernel⟩, tb 887 (by decide +kernel), tp 32 (by decide +kernel), by decide, rfl⟩
theorem zn_X7_159 : Cond.methodLink RX7 159 yX7_across ∈ lw_tbl := tb 885 (by decide +kernel)
theorem zc_X7_163 : zCV RX7 163 yX7_findWays cX7_findWays 8 none 1 7 := ⟨⟨Or.inl (tb 846 (by decide +kernel)), tb 3 (by decide +kernel), tb 849 (by decide +kernel), ⟨by decide +kernel, by decide +kernel⟩, by decide +kernel⟩, tb 848 (by decide +kernel), tp 27 (by decide +kernel), by decide, rfl⟩
theorem zn_X7_163 : Cond.methodLink RX7 163 yX7_findWays ∈ lw_tbl := tb 846 (by decide +kernel)
theorem zc_X7_169 : zCV RX7 169 yX7_goOn cX7_goOn 2 none 1 7 := ⟨⟨Or.inl (tb 834 (by decide +kernel)), tb 3 (by decide +kernel), tb 837 (by decide +kernel), ⟨by decide +kernel, by decide +kernel⟩, by decide +kernel⟩, tb 836 (by decide +kernel), tp 24 (by decide +kernel), by decide, rfl⟩
theorem zn_X7_169 : Cond.methodLink RX7 169 yX7_goOn ∈ lw_tbl := tb 834 (by decide +kernel)
theorem zc_X7_172 : zCV RX7 172 yX7_hourOf cX7_hourOf 7 none 1 7 := ⟨⟨Or.inl (tb 842 (by decide +kernel)), tb 3 (by decide +kernel), tb 845 (by decide +kernel), ⟨by decide +kernel, by decide +kernel⟩, by decide +kernel⟩, tb 844 (by decide +kernel), tp 26 (by decide +kernel), by decide, rfl⟩
theorem zn_X7_172 : Cond.methodLink RX7 172 yX7_hourOf ∈ lw_tbl := tb 842 (by decide +kernel)
theorem zc_X7_175 : zCV RX7 175 yX7_isTrader cX7_isTrader 2 (some .boolean) 1 7 := ⟨⟨Or.inl (tb 877 (by decide +kernel)), tb 3 (by decide +kernel), tb 880 (by decide +kernel), ⟨by decide +kernel, by decide +kernel⟩, by decide +kernel⟩, tb 879 (by decide +kernel), tp 30 (by decide +kernel), by decide, rfl⟩
theorem zn_X7_175 : Cond.methodLink RX7 175 yX7_isTrader ∈ lw_tbl := tb 877 (by decide +kernel)
theorem zc_X7_178 : zCV RX7 178 yX7_next cX7_next 4 (some .int) 1 7 := ⟨⟨Or.inl (tb 881 (by decide +kernel)), tb 3 (by decide +kernel), tb 884 (by decide +kernel), ⟨by decide +kernel, by decide +kernel⟩, by decide +kernel⟩, tb 883 (by decide +kernel), tp 31 (by decide +kernel), by decide, rfl⟩
theorem zn_X7_178 : Cond.methodLink RX7 178 yX7_next ∈ lw_tbl := tb 881 (by decide +kernel)
end
section
/-- the words of 'throw new E("text")' -/
abbrev zNs : List String := ["java/lang/RuntimeException", "java/lang/Exception"]
def zTh (own : String) (ik ic oc : Nat) : Prop := Cond.classLink own ik (zEn oc) ∈ lw_tbl ∧ Cond.initialized (zEn oc) ∈ lw_tbl ∧ ∀ w ∈ vx_atS own ic (zEn oc) zNs, w ∈ lw_tbl ∧ zok w = true ∧ vx_ot w = true
theorem zth_1 : zTh RX6 146 150 1 := ⟨tb 214 (by decide +kernel), tb 10 (by decide +kernel), by decide +kernel⟩
theorem zth_2 : zTh RX6 219 223 2 := ⟨tb 102 (by decide +kernel), tb 7 (by decide +kernel), by decide +kernel⟩
theorem zth_3 : zTh RX6 93 97 3 := ⟨tb 173 (by decide +kernel), tb 8 (by decide +kernel), by decide +kernel⟩
theorem zEn_fit (oc : Nat) : Bundle.fit (zEn oc) = true := by
  match oc with
  | 0 => decide +kernel
  | 1 => decide +kernel
  | 2 => decide +kernel
  | n + 3 => exact (by decide +kernel : Bundle.fit "java/lang/IllegalStateException" = true)
section ZT
variable {p : Program} {l : Launch} {e : Env} {R : Room} {s : State} {m : MethodId} {args : Array Value} {below : List Frame} {meth : Method} {c : Code} {H : Heap} {locs : List Loc} {cells slots : Nat}
variable {cc : ByteArray} {own : String} {nL base mc ms oc : Nat} {D : va_G} {cA : Nat → ClassId} {ad : Nat → Nat} {ty : zTyp} {I : zIt} {L : zLt} {P : zPt}
variable {pc : Nat} {ls : Array Slot} {rest : List Value} {Qc : Array Value → State → Outcome → State → Prop}
theorem z_throw (hl : l.stackTraces = false) (M : zM p s m c cc own nL base D cA) (hw : zH base D cA s H locs ad ty I L P) (hoc : oc ≠ 0) {ik is ic : Nat} {text : String} (hstr : (own, is, text) ∈ zstr) (hT : zTh own ik ic oc) (hsize : ls.size = nL)
    (d0 : decode cc pc = .ok (.new ik, 3)) (d3 : decode cc (pc + 3) = .ok (.dup, 1)) (d4 : decode cc (pc + 4) = .ok (.ldc is, 2)) (d6 : decode cc (pc + 6) = .ok (.invokespecial ic, 3)) (d9 : decode cc (pc + 9) = .ok (.athrow, 1))
    (hout : ∀ x ∈ c.exceptionTable.toList, False) (hR : 5 < R.frames ∧ (rest.map fun v => v.category).sum + 82 ≤ R.locals ∧ cells + 1 ≤ R.cells ∧ slots + 6 ≤ R.slots) (hc : cells + 1 ≤ mc) (hs : slots + 6 ≤ ms) (hlocks : meth.locks = false) :
    W p l e R s m args below meth c H locs cells slots (vx_MQ below Qc (zXC base oc (zW base D cA ad ty I L P)) args s mc ms (fun q => base ≤ q)) (F0 m pc ls rest) := by
  obtain ⟨hx, hb, hml, hown, hE, hKn, hX, hSt, hbs⟩ := M
  obtain ⟨hcl, hini, hat⟩ := hT
  obtain ⟨sa, hsa⟩ := hSt _ hstr
  refine vx_throwS hx hb hl (names := zNs) (A := fun q => base ≤ q) hown (zEn_fit oc) (by decide +kernel) (hE.use hcl rfl) (hE.use hini rfl) hsa (fun w hw => hE.use (hat w hw).1 (hat w hw).2.1) (fun w hw => ?_) hX.1 hX.2 hw.2 (hsize.trans hml.symm) d0 d3 d4 d6 d9 (fun x hx => (hout x hx).elim) hR.1 hR.2.1 hR.2.2.1 hR.2.2.2 hlocks (fun t _ h1 h2 => ?_) hw.2.2.2 hc hs
  · rcases List.mem_cons.mp hw with rfl | hw
    · rfl
    · rcases List.mem_cons.mp hw with rfl | hw
      · rfl
      · exact (hat w hw).2.2
  · exact ⟨(), hoc, ⟨rfl, hw.1.kept h1 h2⟩, Nat.le_trans hw.2.1 h1, fun q h3 h4 => (h2 q (Nat.lt_of_lt_of_le h3 hw.2.1)).trans (hw.2.2.1 q h3 h4)⟩
theorem z_throw_at {oc0 : Nat} (heq : oc = oc0) (hl : l.stackTraces = false) (M : zM p s m c cc own nL base D cA) (hw : zH base D cA s H locs ad ty I L P) (hoc : oc0 ≠ 0) {ik is ic : Nat} {text : String} (hstr : (own, is, text) ∈ zstr) (hT : zTh own ik ic oc0) (hsize : ls.size = nL)
    (d0 : decode cc pc = .ok (.new ik, 3)) (d3 : decode cc (pc + 3) = .ok (.dup, 1)) (d4 : decode cc (pc + 4) = .ok (.ldc is, 2)) (d6 : decode cc (pc + 6) = .ok (.invokespecial ic, 3)) (d9 : decode cc (pc + 9) = .ok (.athrow, 1))
    (hout : ∀ x ∈ c.exceptionTable.toList, False) (hR : 5 < R.frames ∧ (rest.map fun v => v.category).sum + 82 ≤ R.locals ∧ cells + 1 ≤ R.cells ∧ slots + 6 ≤ R.slots) (hc : cells + 1 ≤ mc) (hs : slots + 6 ≤ ms) (hlocks : meth.locks = false) :
    W p l e R s m args below meth c H locs cells slots (vx_MQ below Qc (zXC base oc (zW base D cA ad ty I L P)) args s mc ms (fun q => base ≤ q)) (F0 m pc ls rest) := by
  subst heq
  exact z_throw hl M hw hoc hstr hT hsize d0 d3 d4 d6 d9 hout hR hc hs hlocks
/-- thrown by a callee, not caught here: it goes on to the caller -/
theorem z_xout {oc' : Nat} {W0' : Heap → Prop} (hoc : oc ≠ 0) (he : oc' = oc) {ce : Cell} {q : Addr} (hW0 : W0' H) (hS : va_S (fun q => base ≤ q) s.heap H locs) (hq : H[q]? = some ce) (hv : ce.vm = .none) (hcl : s.vm.findClass (zEn oc) = some ce.cls)
    (hout : ∀ x ∈ c.exceptionTable.toList, False) (hc : cells ≤ mc) (hs : slots ≤ ms) (hlocks : meth.locks = false) :
    vx_W p l e R s m args below meth c H locs cells slots (vx_MQ below Qc (zXC base oc' W0') args s mc ms (fun q => base ≤ q)) (F0 m pc ls rest) q := by
  subst he
  exact vx_out (fun x hx => (hout x hx).elim) hlocks hq hv hcl (fun t ht _ => ⟨(), hoc, ⟨rfl, by rw [ht]; exact hW0⟩, hS.F ht⟩) hS.2.2 hc hs
end ZT
end
section
section ZS
variable {l : Launch} {base maxL fr lo mc ms : Nat} {D : va_G} {cA : Nat → ClassId} {y : MethodName} {cc : ByteArray} {ret : Option FieldType} {av : List Value} {W0 : Heap → Prop} {Qc : Array Value → State → Outcome → State → Prop} {XC : String → State → State → Prop} {free : Addr → Prop}
/-- the head of a method -/
theorem z_start (hy : plainName y.cls = true) (hav : (lg_sl av).length ≤ maxL)
    (body : ∀ (p : Program) (e : Env) (s : State) (m : MethodId) (below : List Frame) (meth : Method) (c : Code) (ls : Array Slot), zM p s m c cc y.cls maxL base D cA → W0 s.heap → va_S (fun q => base ≤ q) s.heap s.heap [] → lv_has ls maxL (lv_args 0 av) → meth.sig.returnType = ret → meth.locks = false → meth.name = y.name →
      W p l e (zRm fr lo mc ms) s m av.toArray below meth c s.heap [] 0 0 (MQ below Qc av.toArray s mc ms free) (F0 m 0 ls [])) : Met l y [Cond.code y cc maxL ret] (zRm fr lo mc ms) (zPc base D cA av W0) Qc mc ms free := by
  refine Met.ofW (cc := cc) (maxL := maxL) (ret := ret) hy rfl ?_
  intro p e s m args below meth c s₁ B hml hv
  obtain ⟨rfl, hG, hP⟩ := hv
  have hl := lv_entry av (n := maxL) hav
  rw [lg_entry_eq]
  generalize (lg_sl av ++ List.replicate (maxL - (lg_sl av).length) Slot.unset).toArray = ls at hl ⊢
  exact body p e s m below meth c ls ⟨B.exec, B.bytes, hml, findClass_of_methodNamed B.named, hG⟩ hP va_S.rf hl B.returns B.notSynchronized (name_of_methodNamed B.named B.method).1
theorem z_xstart (hy : plainName y.cls = true) (hav : (lg_sl av).length ≤ maxL)
    (body : ∀ (p : Program) (e : Env) (s : State) (m : MethodId) (below : List Frame) (meth : Method) (c : Code) (ls : Array Slot), zM p s m c cc y.cls maxL base D cA → W0 s.heap → va_S (fun q => base ≤ q) s.heap s.heap [] → lv_has ls maxL (lv_args 0 av) → meth.sig.returnType = ret → meth.locks = false → meth.name = y.name → (∀ x ∈ c.exceptionTable.toList, False) →
      W p l e (zRm fr lo mc ms) s m av.toArray below meth c s.heap [] 0 0 (vx_MQ below Qc XC av.toArray s mc ms free) (F0 m 0 ls [])) : vx_Met l y [Cond.code y cc maxL ret] (zRm fr lo mc ms) (zPc base D cA av W0) Qc XC mc ms free := by
  refine vx_ofW (cc := cc) (maxL := maxL) (ret := ret) hy rfl ?_
  intro p e s m args below meth c s₁ B hml hout hv
  obtain ⟨rfl, hG, hP⟩ := hv
  have hl := lv_entry av (n := maxL) hav
  rw [lg_entry_eq]
  generalize (lg_sl av ++ List.replicate (maxL - (lg_sl av).length) Slot.unset).toArray = ls at hl ⊢
  exact body p e s m below meth c ls ⟨B.exec, B.bytes, hml, findClass_of_methodNamed B.named, hG⟩ hP va_S.rf hl B.returns B.notSynchronized (name_of_methodNamed B.named B.method).1 hout
end ZS
/-- a truth as the machine has it -/
def zb (c : Prop) [Decidable c] : Int32 := if c then 1 else 0
theorem zb_1 {c : Prop} [Decidable c] (h : c) : zb c = 1 := if_pos h
theorem zb_0 {c : Prop} [Decidable c] (h : ¬ c) : zb c = 0 := if_neg h
theorem zb_eq0 {c : Prop} [Decidable c] : zb c = 0 ↔ ¬ c := by
  unfold zb
  by_cases h : c
  · rw [if_pos h]; exact ⟨fun e => absurd e (by decide), fun e => absurd h e⟩
  · rw [if_neg h]; exact ⟨fun _ => h, fun _ => rfl⟩
theorem zb_ne0 {c : Prop} [Decidable c] : ¬ zb c = 0 ↔ c := by rw [zb_eq0, Decidable.not_not]
theorem zb_nb (c : Prop) [Decidable c] : narrow .boolean (.int (zb c)) = .int (zb c) := by
  by_cases h : c
  · rw [zb_1 h]; rfl
  · rw [zb_0 h]; rfl
section ZL
variable {p : Program} {l : Launch} {e : Env} {R : Room} {s : State} {m : MethodId} {args : Array Value} {below : List Frame} {meth : Method} {c : Code} {cells slots : Nat} {Q : State → Prop} {pc : Nat} {st0 : List Value}
/-- a loop with a counter: k0 to N -/
theorem z_loop (N : Nat) (Inv : Nat → Heap → List Loc → Array Slot → Prop) (k0 : Nat) {H : Heap} {locs : List Loc} {ls : Array Slot} (h0 : Inv k0 H locs ls) (hk0 : k0 ≤ N)
    (hstep : ∀ k, k ≤ N → (k < N → ∀ (H : Heap) (locs : List Loc) (ls : Array Slot), Inv (k + 1) H locs ls → W p l e R s m args below meth c H locs cells slots Q (F0 m pc ls st0)) → ∀ (H : Heap) (locs : List Loc) (ls : Array Slot), Inv k H locs ls → W p l e R s m args below meth c H locs cells slots Q (F0 m pc ls st0)) :
    W p l e R s m args below meth c H locs cells slots Q (F0 m pc ls st0) := by
  have key : ∀ (n k : Nat), k ≤ N → N + 1 ≤ k + n → ∀ (H : Heap) (locs : List Loc) (ls : Array Slot), Inv k H locs ls → W p l e R s m args below meth c H locs cells slots Q (F0 m pc ls st0) := by
    intro n
    induction n with
    | zero => intro k h1 h2; exact absurd h2 (by omega)
    | succ n ih => intro k h1 h2; exact hstep k h1 fun h3 => ih (k + 1) (by omega) (by omega)
  exact key (N + 1) k0 hk0 (by omega) H locs ls h0
end ZL
section ZTP
variable {p : Program} {l : Launch} {e : Env} {R : Room} {s : State} {m : MethodId} {args : Array Value} {below : List Frame} {meth : Method} {c : Code} {H : Heap} {locs : List Loc} {cells slots : Nat} {Q : State → Prop} {pc : Nat} {ls : Array Slot} {rest : List Value}
theorem z_topi {x y : Int32} (h : x = y) (k : W p l e R s m args below meth c H locs cells slots Q (F0 m pc ls (.int y :: rest))) : W p l e R s m args below meth c H locs cells slots Q (F0 m pc ls (.int x :: rest)) := by rw [h]; exact k
theorem z_topl {x y : Int64} (h : x = y) (k : W p l e R s m args below meth c H locs cells slots Q (F0 m pc ls (.long y :: rest))) : W p l e R s m args below meth c H locs cells slots Q (F0 m pc ls (.long x :: rest)) := by rw [h]; exact k
end ZTP
end
section
/-! WHAT THE SMALL METHODS ANSWER, over the tables -/
def zabs (x : Int32) : Int32 := if 0 ≤ x then x else 0 - x
def zmin (x y : Int32) : Int32 := if y < x then y else x
def zminl (x y : Int64) : Int64 := if y < x then y else x
def zCleads (I : zIt) (κ : Nat) (x : Int32) : Int32 := if I κ 5 = 0 then (if x = I κ 0 then I κ 1 else if x = I κ 1 then I κ 0 else -1) else -1
abbrev zHasF (I : zIt) (κ : Nat) (k : Int32) : Prop := ¬ (I κ 5 >>> (k &&& 31)) &&& 1 = 0
def zPlace (k a b n : Int32) : Int32 := a + (2 * k + 1) * (b - a) / (2 * n)
def zCost (I : zIt) (κ : Nat) : Int64 := (I κ 4).toInt64 <<< ((17 : Int32).toInt64 &&& 63) + (I κ 3).toInt64 <<< ((4 : Int32).toInt64 &&& 63) + 1
def zHours (x y v a b : Int32) : Int32 := (zabs (a - x) + zabs (b - y) + v - 1) / v
/-- a row of longs filled from its beginning -/
def zfl {α : Type} (L : Nat → Nat → α) (κ k : Nat) (v : α) : Nat → Nat → α := fun a b => if a = κ ∧ b < k then v else L a b
theorem zfl_0 {α : Type} (L : Nat → Nat → α) (κ : Nat) (v : α) : zfl L κ 0 v = L := by
  funext a b
  simp [zfl]
theorem zfl_succ {α : Type} (L : Nat → Nat → α) (κ k : Nat) (v : α) : zu (zfl L κ k v) κ k v = zfl L κ (k + 1) v := by
  funext a b
  unfold zu zfl
  by_cases h : a = κ ∧ b = k
  · rw [if_pos h, if_pos ⟨h.1, by omega⟩]
  · rw [if_neg h]
    by_cases h2 : a = κ ∧ b < k
    · rw [if_pos h2, if_pos ⟨h2.1, by omega⟩]
    · rw [if_neg h2, if_neg (fun h3 => h ⟨h3.1, by
        have := h3.2
        have h4 : ¬ b < k := fun h5 => h2 ⟨h3.1, h5⟩
        omega⟩)]
end
section
set_option maxHeartbeats 4000000 in
set_option maxRecDepth 100000 in
theorem c_J7_fill_d0a16 (l : Launch) (base : Nat) (D : va_G) (cA : Nat → ClassId) (ad : Nat → Nat) (ty : zTyp) (I : zIt) (L : zLt) (P : zPt) (κ n : Nat) (v : Int64) (ht : ty κ = some (9, n)) (hn : n ≤ 4000) : zMv l base D cA yJ7_fill_d0a16 cJ7_fill_d0a16 5 0 0 0 0 [.ref (ad κ), .long v] (zW base D cA ad ty I L P) (zW base D cA ad ty I (zfl L κ n v) P) := by
  refine z_start (by decide +kernel) (Nat.le_of_ble_eq_true rfl) fun p e s m below meth c ls M hP hS hl hr hlocks hnm => ?_
  have M : zM p s m c cJ7_fill_d0a16 RJ7 5 base D cA := M
  have hw : zH base D cA s s.heap [] ad ty I L P := ⟨hP, hS⟩
  obtain ⟨hx, hb, -⟩ := id M
  have hl : lv_has ls 5 [(0, .ref (ad κ)), (1, .long v)] := hl
  refine lv_iconst (v := 0) hx hb dJ7_fill_d0a16_0 (by decide) ?_
  refine lv_istore_n (lv' := [(3, .int 0), (0, .ref (ad κ)), (1, .long v)]) hx hb dJ7_fill_d0a16_1 rfl hl (by decide) rfl (fun ls hl => ?_)
  refine lv_aload_n hx hb dJ7_fill_d0a16_2 rfl (lv_at hl 1 rfl) ?_
  refine z_alen M hw (e9 := 1) ht (by decide) dJ7_fill_d0a16_3 ?_
  refine lv_istore (lv' := [(4, .int (nI n)), (3, .int 0), (0, .ref (ad κ)), (1, .long v)]) hx hb dJ7_fill_d0a16_4 hl (by decide) rfl (fun ls hl => ?_)
  refine z_loop (n) (fun (k : Nat) H locs ls => zH base D cA s H locs ad ty I (zfl L κ k v) P ∧ lv_has ls 5 [(0, .ref (ad κ)), (1, .long v), (3, .int (nI k)), (4, .int (nI n))]) 0 ⟨(by rw [zfl_0]; exact hw), lv_sub hl [2, 3, 1, 0] rfl⟩ (by omega) (fun k hk_k ih_k H locs ls hI => ?_)
  obtain ⟨hw, hl⟩ := hI
  refine lv_iload_n hx hb dJ7_fill_d0a16_6 rfl (lv_at hl 2 rfl) ?_
  refine lv_iload hx hb dJ7_fill_d0a16_7 (lv_at hl 3 rfl) ?_
  refine lv_icmp_ge (tgt := 22) hx hb dJ7_fill_d0a16_9 (by decide) (fun c1 => ?_) (fun c1 => ?_)
  · skip
    have hkn : k = n := by
          rcases Nat.lt_or_ge k n with h | h
          · exact absurd c1 (nI_ge h (by omega))
          · omega
    exact z_vret hx hb hr hw.2 (by rw [hkn] at hw; exact hw.1) (Nat.le_of_ble_eq_true rfl) (Nat.le_of_ble_eq_true rfl) dJ7_fill_d0a16_22 hlocks
  · skip
    have hlt : k < n := by
          rcases Nat.lt_or_ge k n with h | h
          · exact h
          · exact absurd (nI_le h (by omega)) c1
    refine lv_aload_n hx hb dJ7_fill_d0a16_12 rfl (lv_at hl 0 rfl) ?_
    refine lv_iload_n hx hb dJ7_fill_d0a16_13 rfl (lv_at hl 2 rfl) ?_
    refine lv_lload_n hx hb dJ7_fill_d0a16_14 rfl (lv_at hl 1 rfl) ?_
    refine z_lNast M hw ht rfl ⟨hlt, by omega⟩ dJ7_fill_d0a16_15 (fun H locs hw => ?_)
    refine lv_iinc (v := nI (k + 1)) (lv' := [(3, .int (nI (k + 1))), (0, .ref (ad κ)), (1, .long v), (4, .int (nI n))]) hx hb dJ7_fill_d0a16_16 hl (k := 2) rfl (nI_succ _).symm (by decide) rfl (fun ls hl => ?_)
    refine lv_goto (tgt := 6) hx hb dJ7_fill_d0a16_19 (by decide) ?_
    exact ih_k hlt _ _ _ ⟨(by rw [zfl_succ] at hw; exact hw), lv_sub hl [1, 2, 0, 3] rfl⟩
set_option maxHeartbeats 4000000 in
set_option maxRecDepth 100000 in
theorem c_J7_fill_53178 (l : Launch) (base : Nat) (D : va_G) (cA : Nat → ClassId) (ad : Nat → Nat) (ty : zTyp) (I : zIt) (L : zLt) (P : zPt) (κ n : Nat) (v : Int32) (ht : ty κ = some (8, n)) (hn : n ≤ 4000) : zMv l base D cA yJ7_fill_53178 cJ7_fill_53178 4 0 0 0 0 [.ref (ad κ), .int v] (zW base D cA ad ty I L P) (zW base D cA ad ty (zfl I κ n v) L P) := by
  refine z_start (by decide +kernel) (Nat.le_of_ble_eq_true rfl) fun p e s m below meth c ls M hP hS hl hr hlocks hnm => ?_
  have M : zM p s m c cJ7_fill_53178 RJ7 4 base D cA := M
  have hw : zH base D cA s s.heap [] ad ty I L P := ⟨hP, hS⟩
  obtain ⟨hx, hb, -⟩ := id M
  have hl : lv_has ls 4 [(0, .ref (ad κ)), (1, .int v)] := hl
  refine lv_iconst (v := 0) hx hb dJ7_fill_53178_0 (by decide) ?_
  refine lv_istore_n (lv' := [(2, .int 0), (0, .ref (ad κ)), (1, .int v)]) hx hb dJ7_fill_53178_1 rfl hl (by decide) rfl (fun ls hl => ?_)
  refine lv_aload_n hx hb dJ7_fill_53178_2 rfl (lv_at hl 1 rfl) ?_
  refine z_alen M hw (e9 := 0) ht (by decide) dJ7_fill_53178_3 ?_
  refine lv_istore_n (lv' := [(3, .int (nI n)), (2, .int 0), (0, .ref (ad κ)), (1, .int v)]) hx hb dJ7_fill_53178_4 rfl hl (by decide) rfl (fun ls hl => ?_)
  refine z_loop (n) (fun (k : Nat) H locs ls => zH base D cA s H locs ad ty (zfl I κ k v) L P ∧ lv_has ls 4 [(0, .ref (ad κ)), (1, .int v), (2, .int (nI k)), (3, .int (nI n))]) 0 ⟨(by rw [zfl_0]; exact hw), lv_sub hl [2, 3, 1, 0] rfl⟩ (by omega) (fun k hk_k ih_k H locs ls hI => ?_)
  obtain ⟨hw, hl⟩ := hI
  refine lv_iload_n hx hb dJ7_fill_53178_5 rfl (lv_at hl 2 rfl) ?_
  refine lv_iload_n hx hb dJ7_fill_53178_6 rfl (lv_at hl 3 rfl) ?_
  refine lv_icmp_ge (tgt := 20) hx hb dJ7_fill_53178_7 (by decide) (fun c1 => ?_) (fun c1 => ?_)
  · skip
    have hkn : k = n := by
          rcases Nat.lt_or_ge k n with h | h
          · exact absurd c1 (nI_ge h (by omega))
          · omega
    exact z_vret hx hb hr hw.2 (by rw [hkn] at hw; exact hw.1) (Nat.le_of_ble_eq_true rfl) (Nat.le_of_ble_eq_true rfl) dJ7_fill_53178_20 hlocks
  · skip
    have hlt : k < n := by
          rcases Nat.lt_or_ge k n with h | h
          · exact h
          · exact absurd (nI_le h (by omega)) c1
    refine lv_aload_n hx hb dJ7_fill_53178_10 rfl (lv_at hl 0 rfl) ?_
    refine lv_iload_n hx hb dJ7_fill_53178_11 rfl (lv_at hl 2 rfl) ?_
    refine lv_iload_n hx hb dJ7_fill_53178_12 rfl (lv_at hl 1 rfl) ?_
    refine z_iNast M hw ht rfl ⟨hlt, by omega⟩ dJ7_fill_53178_13 (fun H locs hw => ?_)
    refine lv_iinc (v := nI (k + 1)) (lv' := [(2, .int (nI (k + 1))), (0, .ref (ad κ)), (1, .int v), (3, .int (nI n))]) hx hb dJ7_fill_53178_14 hl (k := 2) rfl (nI_succ _).symm (by decide) rfl (fun ls hl => ?_)
    refine lv_goto (tgt := 5) hx hb dJ7_fill_53178_17 (by decide) ?_
    exact ih_k hlt _ _ _ ⟨(by rw [zfl_succ] at hw; exact hw), lv_sub hl [1, 2, 0, 3] rfl⟩
set_option maxHeartbeats 4000000 in
set_option maxRecDepth 100000 in
theorem c_X0_isWorking (l : Launch) (base : Nat) (D : va_G) (cA : Nat → ClassId) (ad : Nat → Nat) (ty : zTyp) (I : zIt) (L : zLt) (P : zPt) (κ n : Nat) (ht : ty κ = some (0, n)) : zMi l base D cA yX0_isWorking cX0_isWorking 1 .boolean 0 0 0 0 [.ref (ad κ)] (zW base D cA ad ty I L P) (zb (I κ 5 = 0)) (zW base D cA ad ty I L P) := by
  refine z_start (by decide +kernel) (Nat.le_of_ble_eq_true rfl) fun p e s m below meth c ls M hP hS hl hr hlocks hnm => ?_
  have M : zM p s m c cX0_isWorking RX0 1 base D cA := M
  have hw : zH base D cA s s.heap [] ad ty I L P := ⟨hP, hS⟩
  obtain ⟨hx, hb, -⟩ := id M
  have hl : lv_has ls 1 [(0, .ref (ad κ))] := hl
  refine lv_aload_n hx hb dX0_isWorking_0 rfl (lv_at hl 0 rfl) ?_
  refine z_geti M hw ht zf_X0_9 dX0_isWorking_1 ?_
  refine lv_if_ne (tgt := 11) hx hb dX0_isWorking_4 (by decide) (fun c1 => ?_) (fun c1 => ?_)
  · skip
    refine lv_iconst (v := 0) hx hb dX0_isWorking_11 (by decide) ?_
    exact z_iret hx hb hr (by unfold zb; (try first | rw [if_pos c1] | rw [if_neg c1] | rw [if_neg (fun h => h c1)])) rfl hw.2 hw.1 (Nat.le_of_ble_eq_true rfl) (Nat.le_of_ble_eq_true rfl) dX0_isWorking_12 hlocks
  · skip
    refine lv_iconst (v := 1) hx hb dX0_isWorking_7 (by decide) ?_
    refine lv_goto (tgt := 12) hx hb dX0_isWorking_8 (by decide) ?_
    exact z_iret hx hb hr (by unfold zb; (try first | rw [if_pos c1] | rw [if_neg c1] | rw [if_neg (fun h => h c1)])) rfl hw.2 hw.1 (Nat.le_of_ble_eq_true rfl) (Nat.le_of_ble_eq_true rfl) dX0_isWorking_12 hlocks
set_option maxHeartbeats 4000000 in
set_option maxRecDepth 100000 in
theorem c_X0_hasFaultAt (l : Launch) (base : Nat) (D : va_G) (cA : Nat → ClassId) (ad : Nat → Nat) (ty : zTyp) (I : zIt) (L : zLt) (P : zPt) (κ n : Nat) (ht : ty κ = some (0, n)) (k : Int32) : zMi l base D cA yX0_hasFaultAt cX0_hasFaultAt 2 .boolean 0 0 0 0 [.ref (ad κ), .int k] (zW base D cA ad ty I L P) (zb (zHasF I κ k)) (zW base D cA ad ty I L P) := by
  refine z_start (by decide +kernel) (Nat.le_of_ble_eq_true rfl) fun p e s m below meth c ls M hP hS hl hr hlocks hnm => ?_
  have M : zM p s m c cX0_hasFaultAt RX0 2 base D cA := M
  have hw : zH base D cA s s.heap [] ad ty I L P := ⟨hP, hS⟩
  obtain ⟨hx, hb, -⟩ := id M
  have hl : lv_has ls 2 [(0, .ref (ad κ)), (1, .int k)] := hl
  refine lv_aload_n hx hb dX0_hasFaultAt_0 rfl (lv_at hl 0 rfl) ?_
  refine z_geti M hw ht zf_X0_9 dX0_hasFaultAt_1 ?_
  refine lv_iload_n hx hb dX0_hasFaultAt_4 rfl (lv_at hl 1 rfl) ?_
  refine lv_ishr hx hb dX0_hasFaultAt_5 ?_
  refine lv_iconst (v := 1) hx hb dX0_hasFaultAt_6 (by decide) ?_
  refine lv_iand hx hb dX0_hasFaultAt_7 ?_
  refine lv_if_eq (tgt := 15) hx hb dX0_hasFaultAt_8 (by decide) (fun c1 => ?_) (fun c1 => ?_)
  · skip
    refine lv_iconst (v := 0) hx hb dX0_hasFaultAt_15 (by decide) ?_
    exact z_iret hx hb hr (by unfold zb; (try first | rw [if_pos c1] | rw [if_neg c1] | rw [if_neg (fun h => h c1)])) rfl hw.2 hw.1 (Nat.le_of_ble_eq_true rfl) (Nat.le_of_ble_eq_true rfl) dX0_hasFaultAt_16 hlocks
  · skip
    refine lv_iconst (v := 1) hx hb dX0_hasFaultAt_11 (by decide) ?_
    refine lv_goto (tgt := 16) hx hb dX0_hasFaultAt_12 (by decide) ?_
    exact z_iret hx hb hr (by unfold zb; (try first | rw [if_pos c1] | rw [if_neg c1] | rw [if_neg (fun h => h c1)])) rfl hw.2 hw.1 (Nat.le_of_ble_eq_true rfl) (Nat.le_of_ble_eq_true rfl) dX0_hasFaultAt_16 hlocks
set_option maxHeartbeats 4000000 in
set_option maxRecDepth 100000 in
theorem c_X0_leadsTo (l : Launch) (base : Nat) (D : va_G) (cA : Nat → ClassId) (ad : Nat → Nat) (ty : zTyp) (I : zIt) (L : zLt) (P : zPt) (κ n : Nat) (ht : ty κ = some (0, n)) (x : Int32) : zMi l base D cA yX0_leadsTo cX0_leadsTo 2 .int 0 0 0 0 [.ref (ad κ), .int x] (zW base D cA ad ty I L P) (zCleads I κ x) (zW base D cA ad ty I L P) := by
  refine z_start (by decide +kernel) (Nat.le_of_ble_eq_true rfl) fun p e s m below meth c ls M hP hS hl hr hlocks hnm => ?_
  have M : zM p s m c cX0_leadsTo RX0 2 base D cA := M
  have hw : zH base D cA s s.heap [] ad ty I L P := ⟨hP, hS⟩
  obtain ⟨hx, hb, -⟩ := id M
  have hl : lv_has ls 2 [(0, .ref (ad κ)), (1, .int x)] := hl
  refine lv_aload_n hx hb dX0_leadsTo_0 rfl (lv_at hl 0 rfl) ?_
  refine z_geti M hw ht zf_X0_9 dX0_leadsTo_1 ?_
  refine lv_if_eq (tgt := 9) hx hb dX0_leadsTo_4 (by decide) (fun c1 => ?_) (fun c1 => ?_)
  · skip
    refine lv_iload_n hx hb dX0_leadsTo_9 rfl (lv_at hl 1 rfl) ?_
    refine lv_aload_n hx hb dX0_leadsTo_10 rfl (lv_at hl 0 rfl) ?_
    refine z_geti M hw ht zf_X0_15 dX0_leadsTo_11 ?_
    refine lv_icmp_ne (tgt := 22) hx hb dX0_leadsTo_14 (by decide) (fun c2 => ?_) (fun c2 => ?_)
    · skip
      refine lv_iload_n hx hb dX0_leadsTo_22 rfl (lv_at hl 1 rfl) ?_
      refine lv_aload_n hx hb dX0_leadsTo_23 rfl (lv_at hl 0 rfl) ?_
      refine z_geti M hw ht zf_X0_18 dX0_leadsTo_24 ?_
      refine lv_icmp_ne (tgt := 37) hx hb dX0_leadsTo_27 (by decide) (fun c3 => ?_) (fun c3 => ?_)
      · skip
        refine lv_iconst (v := (-1)) hx hb dX0_leadsTo_37 (by decide) ?_
        exact z_iret hx hb hr (by unfold zCleads; (try first | rw [if_pos c1] | rw [if_neg c1] | rw [if_neg (fun h => h c1)]); (try first | rw [if_pos c2] | rw [if_neg c2] | rw [if_neg (fun h => h c2)]); (try first | rw [if_pos c3] | rw [if_neg c3] | rw [if_neg (fun h => h c3)])) rfl hw.2 hw.1 (Nat.le_of_ble_eq_true rfl) (Nat.le_of_ble_eq_true rfl) dX0_leadsTo_38 hlocks
      · skip
        refine lv_aload_n hx hb dX0_leadsTo_30 rfl (lv_at hl 0 rfl) ?_
        refine z_geti M hw ht zf_X0_15 dX0_leadsTo_31 ?_
        refine lv_goto (tgt := 38) hx hb dX0_leadsTo_34 (by decide) ?_
        exact z_iret hx hb hr (by unfold zCleads; (try first | rw [if_pos c1] | rw [if_neg c1] | rw [if_neg (fun h => h c1)]); (try first | rw [if_pos c2] | rw [if_neg c2] | rw [if_neg (fun h => h c2)]); (try first | rw [if_pos c3] | rw [if_neg c3] | rw [if_neg (fun h => h c3)])) rfl hw.2 hw.1 (Nat.le_of_ble_eq_true rfl) (Nat.le_of_ble_eq_true rfl) dX0_leadsTo_38 hlocks
    · skip
      refine lv_aload_n hx hb dX0_leadsTo_17 rfl (lv_at hl 0 rfl) ?_
      refine z_geti M hw ht zf_X0_18 dX0_leadsTo_18 ?_
      exact z_iret hx hb hr (by unfold zCleads; (try first | rw [if_pos c1] | rw [if_neg c1] | rw [if_neg (fun h => h c1)]); (try first | rw [if_pos c2] | rw [if_neg c2] | rw [if_neg (fun h => h c2)])) rfl hw.2 hw.1 (Nat.le_of_ble_eq_true rfl) (Nat.le_of_ble_eq_true rfl) dX0_leadsTo_21 hlocks
  · skip
    refine lv_iconst (v := (-1)) hx hb dX0_leadsTo_7 (by decide) ?_
    exact z_iret hx hb hr (by unfold zCleads; (try first | rw [if_pos c1] | rw [if_neg c1] | rw [if_neg (fun h => h c1)])) rfl hw.2 hw.1 (Nat.le_of_ble_eq_true rfl) (Nat.le_of_ble_eq_true rfl) dX0_leadsTo_8 hlocks
set_option maxHeartbeats 4000000 in
set_option maxRecDepth 100000 in
theorem c_X0_placeOfSpan (l : Launch) (base : Nat) (D : va_G) (cA : Nat → ClassId) (ad : Nat → Nat) (ty : zTyp) (I : zIt) (L : zLt) (P : zPt) (κ n : Nat) (ht : ty κ = some (0, n)) (k a b : Int32) (hne : ¬ 2 * I κ 2 = 0) : zMi l base D cA yX0_placeOfSpan cX0_placeOfSpan 4 .int 0 0 0 0 [.ref (ad κ), .int k, .int a, .int b] (zW base D cA ad ty I L P) (zPlace k a b (I κ 2)) (zW base D cA ad ty I L P) := by
  refine z_start (by decide +kernel) (Nat.le_of_ble_eq_true rfl) fun p e s m below meth c ls M hP hS hl hr hlocks hnm => ?_
  have M : zM p s m c cX0_placeOfSpan RX0 4 base D cA := M
  have hw : zH base D cA s s.heap [] ad ty I L P := ⟨hP, hS⟩
  obtain ⟨hx, hb, -⟩ := id M
  have hl : lv_has ls 4 [(0, .ref (ad κ)), (1, .int k), (2, .int a), (3, .int b)] := hl
  refine lv_iload_n hx hb dX0_placeOfSpan_0 rfl (lv_at hl 2 rfl) ?_
  refine lv_iconst (v := 2) hx hb dX0_placeOfSpan_1 (by decide) ?_
  refine lv_iload_n hx hb dX0_placeOfSpan_2 rfl (lv_at hl 1 rfl) ?_
  refine lv_imul hx hb dX0_placeOfSpan_3 ?_
  refine lv_iconst (v := 1) hx hb dX0_placeOfSpan_4 (by decide) ?_
  refine lv_iadd hx hb dX0_placeOfSpan_5 ?_
  refine lv_iload_n hx hb dX0_placeOfSpan_6 rfl (lv_at hl 3 rfl) ?_
  refine lv_iload_n hx hb dX0_placeOfSpan_7 rfl (lv_at hl 2 rfl) ?_
  refine lv_isub hx hb dX0_placeOfSpan_8 ?_
  refine lv_imul hx hb dX0_placeOfSpan_9 ?_
  refine lv_iconst (v := 2) hx hb dX0_placeOfSpan_10 (by decide) ?_
  refine lv_aload_n hx hb dX0_placeOfSpan_11 rfl (lv_at hl 0 rfl) ?_
  refine z_geti M hw ht zf_X0_21 dX0_placeOfSpan_12 ?_
  refine lv_imul hx hb dX0_placeOfSpan_15 ?_
  refine lv_idiv hx hb dX0_placeOfSpan_16 hne ?_
  refine lv_iadd hx hb dX0_placeOfSpan_17 ?_
  exact z_iret hx hb hr (by rfl) rfl hw.2 hw.1 (Nat.le_of_ble_eq_true rfl) (Nat.le_of_ble_eq_true rfl) dX0_placeOfSpan_18 hlocks
set_option maxHeartbeats 4000000 in
set_option maxRecDepth 100000 in
theorem c_X0_cost (l : Launch) (base : Nat) (D : va_G) (cA : Nat → ClassId) (ad : Nat → Nat) (ty : zTyp) (I : zIt) (L : zLt) (P : zPt) (κ n : Nat) (ht : ty κ = some (0, n)) : zMl l base D cA yX0_cost cX0_cost 1 0 0 0 0 [.ref (ad κ)] (zW base D cA ad ty I L P) (zCost I κ) (zW base D cA ad ty I L P) := by
  refine z_start (by decide +kernel) (Nat.le_of_ble_eq_true rfl) fun p e s m below meth c ls M hP hS hl hr hlocks hnm => ?_
  have M : zM p s m c cX0_cost RX0 1 base D cA := M
  have hw : zH base D cA s s.heap [] ad ty I L P := ⟨hP, hS⟩
  obtain ⟨hx, hb, -⟩ := id M
  have hl : lv_has ls 1 [(0, .ref (ad κ))] := hl
  refine lv_aload_n hx hb dX0_cost_0 rfl (lv_at hl 0 rfl) ?_
  refine z_geti M hw ht zf_X0_27 dX0_cost_1 ?_
  refine lv_i2l hx hb dX0_cost_4 rfl ?_
  refine lv_bipush (v := 17) hx hb dX0_cost_5 (by decide) ?_
  refine lv_lshl hx hb dX0_cost_7 rfl ?_
  refine lv_aload_n hx hb dX0_cost_8 rfl (lv_at hl 0 rfl) ?_
  refine z_geti M hw ht zf_X0_24 dX0_cost_9 ?_
  refine lv_i2l hx hb dX0_cost_12 rfl ?_
  refine lv_iconst (v := 4) hx hb dX0_cost_13 (by decide) ?_
  refine lv_lshl hx hb dX0_cost_14 rfl ?_
  refine lv_ladd hx hb dX0_cost_15 ?_
  refine lv_lconst (v := 1) hx hb dX0_cost_16 (by decide) ?_
  refine lv_ladd hx hb dX0_cost_17 ?_
  exact z_lret hx hb hr (by rfl) hw.2 hw.1 (Nat.le_of_ble_eq_true rfl) (Nat.le_of_ble_eq_true rfl) dX0_cost_18 hlocks
set_option maxHeartbeats 4000000 in
set_option maxRecDepth 100000 in
theorem c_X5_end (l : Launch) (base : Nat) (D : va_G) (cA : Nat → ClassId) (ad : Nat → Nat) (ty : zTyp) (I : zIt) (L : zLt) (P : zPt) (κ n : Nat) (ht : ty κ = some (5, n)) : zMv l base D cA yX5_end cX5_end 1 0 0 0 0 [.ref (ad κ)] (zW base D cA ad ty I L P) (zW base D cA ad ty (zu (zu (zu I κ 1 (-1)) κ 2 (-1)) κ 3 (-1)) L P) := by
  refine z_start (by decide +kernel) (Nat.le_of_ble_eq_true rfl) fun p e s m below meth c ls M hP hS hl hr hlocks hnm => ?_
  have M : zM p s m c cX5_end RX5 1 base D cA := M
  have hw : zH base D cA s s.heap [] ad ty I L P := ⟨hP, hS⟩
  obtain ⟨hx, hb, -⟩ := id M
  have hl : lv_has ls 1 [(0, .ref (ad κ))] := hl
  refine lv_aload_n hx hb dX5_end_0 rfl (lv_at hl 0 rfl) ?_
  refine lv_iconst (v := (-1)) hx hb dX5_end_1 (by decide) ?_
  refine z_puti M hw ht zf_X5_15 (Or.inl rfl) rfl rfl dX5_end_2 (fun H locs hw => ?_)
  refine lv_aload_n hx hb dX5_end_5 rfl (lv_at hl 0 rfl) ?_
  refine lv_iconst (v := (-1)) hx hb dX5_end_6 (by decide) ?_
  refine z_puti M hw ht zf_X5_19 (Or.inl rfl) rfl rfl dX5_end_7 (fun H locs hw => ?_)
  refine lv_aload_n hx hb dX5_end_10 rfl (lv_at hl 0 rfl) ?_
  refine lv_iconst (v := (-1)) hx hb dX5_end_11 (by decide) ?_
  refine z_puti M hw ht zf_X5_22 (Or.inl rfl) rfl rfl dX5_end_12 (fun H locs hw => ?_)
  exact z_vret hx hb hr hw.2 hw.1 (Nat.le_of_ble_eq_true rfl) (Nat.le_of_ble_eq_true rfl) dX5_end_15 hlocks
set_option maxHeartbeats 4000000 in
set_option maxRecDepth 100000 in
theorem c_X5_start (l : Launch) (base : Nat) (D : va_G) (cA : Nat → ClassId) (ad : Nat → Nat) (ty : zTyp) (I : zIt) (L : zLt) (P : zPt) (κ n : Nat) (ht : ty κ = some (5, n)) : zMv l base D cA yX5_start cX5_start 1 0 0 0 0 [.ref (ad κ)] (zW base D cA ad ty I L P) (zW base D cA ad ty (zu (zu (zu I κ 1 0) κ 2 0) κ 3 0) L P) := by
  refine z_start (by decide +kernel) (Nat.le_of_ble_eq_true rfl) fun p e s m below meth c ls M hP hS hl hr hlocks hnm => ?_
  have M : zM p s m c cX5_start RX5 1 base D cA := M
  have hw : zH base D cA s s.heap [] ad ty I L P := ⟨hP, hS⟩
  obtain ⟨hx, hb, -⟩ := id M
  have hl : lv_has ls 1 [(0, .ref (ad κ))] := hl
  refine lv_aload_n hx hb dX5_start_0 rfl (lv_at hl 0 rfl) ?_
  refine lv_iconst (v := 0) hx hb dX5_start_1 (by decide) ?_
  refine z_puti M hw ht zf_X5_15 (Or.inl rfl) rfl rfl dX5_start_2 (fun H locs hw => ?_)
  refine lv_aload_n hx hb dX5_start_5 rfl (lv_at hl 0 rfl) ?_
  refine lv_iconst (v := 0) hx hb dX5_start_6 (by decide) ?_
  refine z_puti M hw ht zf_X5_19 (Or.inl rfl) rfl rfl dX5_start_7 (fun H locs hw => ?_)
  refine lv_aload_n hx hb dX5_start_10 rfl (lv_at hl 0 rfl) ?_
  refine lv_iconst (v := 0) hx hb dX5_start_11 (by decide) ?_
  refine z_puti M hw ht zf_X5_22 (Or.inl rfl) rfl rfl dX5_start_12 (fun H locs hw => ?_)
  exact z_vret hx hb hr hw.2 hw.1 (Nat.le_of_ble_eq_true rfl) (Nat.le_of_ble_eq_true rfl) dX5_start_15 hlocks
set_option maxHeartbeats 4000000 in
set_option maxRecDepth 100000 in
theorem c_X5_cableAt (l : Launch) (base : Nat) (D : va_G) (cA : Nat → ClassId) (ad : Nat → Nat) (ty : zTyp) (I : zIt) (L : zLt) (P : zPt) (κ n : Nat) (ht : ty κ = some (5, n)) (ρ : Nat) (hr0 : ty ρ = some (8, 9)) (hp0 : P κ 0 = some ρ) (q : Int32) (hq : q < I κ 1 → q = nI q.toNatClampNeg ∧ q.toNatClampNeg < 9) : zMi l base D cA yX5_cableAt cX5_cableAt 2 .int 0 0 0 0 [.ref (ad κ), .int q] (zW base D cA ad ty I L P) (if q < I κ 1 then I ρ q.toNatClampNeg else -1) (zW base D cA ad ty I L P) := by
  refine z_start (by decide +kernel) (Nat.le_of_ble_eq_true rfl) fun p e s m below meth c ls M hP hS hl hr hlocks hnm => ?_
  have M : zM p s m c cX5_cableAt RX5 2 base D cA := M
  have hw : zH base D cA s s.heap [] ad ty I L P := ⟨hP, hS⟩
  obtain ⟨hx, hb, -⟩ := id M
  have hl : lv_has ls 2 [(0, .ref (ad κ)), (1, .int q)] := hl
  refine lv_iload_n hx hb dX5_cableAt_0 rfl (lv_at hl 1 rfl) ?_
  refine lv_aload_n hx hb dX5_cableAt_1 rfl (lv_at hl 0 rfl) ?_
  refine z_geti M hw ht zf_X5_15 dX5_cableAt_2 ?_
  refine lv_icmp_ge (tgt := 17) hx hb dX5_cableAt_5 (by decide) (fun c1 => ?_) (fun c1 => ?_)
  · skip
    refine lv_iconst (v := (-1)) hx hb dX5_cableAt_17 (by decide) ?_
    exact z_iret hx hb hr (by rw [if_neg (by simpa using c1)]) rfl hw.2 hw.1 (Nat.le_of_ble_eq_true rfl) (Nat.le_of_ble_eq_true rfl) dX5_cableAt_18 hlocks
  · skip
    have c1 : q < I κ 1 := by simpa using c1
    refine lv_aload_n hx hb dX5_cableAt_8 rfl (lv_at hl 0 rfl) ?_
    refine z_getr M hw ht zf_X5_9 hp0 dX5_cableAt_9 ?_
    refine lv_iload_n hx hb dX5_cableAt_12 rfl (lv_at hl 1 rfl) ?_
    refine z_iNald M hw hr0 (hq c1).1 ⟨(hq c1).2, by omega⟩ dX5_cableAt_13 ?_
    refine lv_goto (tgt := 18) hx hb dX5_cableAt_14 (by decide) ?_
    exact z_iret hx hb hr (by rw [if_pos c1]) rfl hw.2 hw.1 (Nat.le_of_ble_eq_true rfl) (Nat.le_of_ble_eq_true rfl) dX5_cableAt_18 hlocks
set_option maxHeartbeats 4000000 in
set_option maxRecDepth 100000 in
theorem c_X5_add (l : Launch) (base : Nat) (D : va_G) (cA : Nat → ClassId) (ad : Nat → Nat) (ty : zTyp) (I : zIt) (L : zLt) (P : zPt) (κ n : Nat) (ht : ty κ = some (5, n)) (ρ : Nat) (hr0 : ty ρ = some (8, 9)) (hp0 : P κ 0 = some ρ) (q : Int32) (μ n' : Nat) (hm : ty μ = some (0, n')) (j : Nat) (hj : I κ 1 = nI j) (hj9 : j < 9) (hne : ρ ≠ κ) (hmk : μ ≠ κ) (hmr : μ ≠ ρ) : zMv l base D cA yX5_add cX5_add 3 0 0 0 0 [.ref (ad κ), .int q, .ref (ad μ)] (zW base D cA ad ty I L P) (zW base D cA ad ty (zu (zu (zu (zu I ρ j q) κ 1 (nI (j + 1))) κ 2 (I κ 2 + I μ 4)) κ 3 (I κ 3 + I μ 3)) L P) := by
  refine z_start (by decide +kernel) (Nat.le_of_ble_eq_true rfl) fun p e s m below meth c ls M hP hS hl hr hlocks hnm => ?_
  have M : zM p s m c cX5_add RX5 3 base D cA := M
  have hw : zH base D cA s s.heap [] ad ty I L P := ⟨hP, hS⟩
  obtain ⟨hx, hb, -⟩ := id M
  have hl : lv_has ls 3 [(0, .ref (ad κ)), (1, .int q), (2, .ref (ad μ))] := hl
  refine lv_aload_n hx hb dX5_add_0 rfl (lv_at hl 0 rfl) ?_
  refine z_geti M hw ht zf_X5_15 dX5_add_1 ?_
  refine lv_if_lt (tgt := 19) hx hb dX5_add_4 (by decide) (fun c1 => ?_) (fun c1 => ?_)
  · skip
    exact absurd c1 (by rw [hj]; exact nI_pos (by omega))
  · skip
    refine lv_aload_n hx hb dX5_add_7 rfl (lv_at hl 0 rfl) ?_
    refine z_geti M hw ht zf_X5_15 dX5_add_8 ?_
    refine lv_aload_n hx hb dX5_add_11 rfl (lv_at hl 0 rfl) ?_
    refine z_getr M hw ht zf_X5_9 hp0 dX5_add_12 ?_
    refine z_alen M hw (e9 := 0) hr0 (by decide) dX5_add_15 ?_
    refine lv_icmp_lt (tgt := 20) hx hb dX5_add_16 (by decide) (fun c2 => ?_) (fun c2 => ?_)
    · skip
      refine lv_aload_n hx hb dX5_add_20 rfl (lv_at hl 0 rfl) ?_
      refine z_getr M hw ht zf_X5_9 hp0 dX5_add_21 ?_
      refine lv_aload_n hx hb dX5_add_24 rfl (lv_at hl 0 rfl) ?_
      refine z_geti M hw ht zf_X5_15 dX5_add_25 ?_
      refine lv_iload_n hx hb dX5_add_28 rfl (lv_at hl 1 rfl) ?_
      refine z_iNast M hw hr0 hj ⟨hj9, by omega⟩ dX5_add_29 (fun H locs hw => ?_)
      refine lv_aload_n hx hb dX5_add_30 rfl (lv_at hl 0 rfl) ?_
      refine lv_dup hx hb dX5_add_31 rfl ?_
      refine z_geti M hw ht zf_X5_15 dX5_add_32 ?_
      refine z_topi (y := I κ 1) (by rw [zu_ne _ _ (by omega)]) ?_
      refine lv_iconst (v := 1) hx hb dX5_add_35 (by decide) ?_
      refine lv_iadd hx hb dX5_add_36 ?_
      refine z_puti M hw ht zf_X5_15 (Or.inl rfl) rfl rfl dX5_add_37 (fun H locs hw => ?_)
      refine lv_aload_n hx hb dX5_add_40 rfl (lv_at hl 0 rfl) ?_
      refine lv_dup hx hb dX5_add_41 rfl ?_
      refine z_geti M hw ht zf_X5_19 dX5_add_42 ?_
      refine z_topi (y := I κ 2) (by rw [zu_ne _ _ (by omega), zu_ne _ _ (by omega)]) ?_
      refine lv_aload_n hx hb dX5_add_45 rfl (lv_at hl 2 rfl) ?_
      refine z_geti M hw hm zf_X5_25 dX5_add_46 ?_
      refine z_topi (y := I μ 4) (by rw [zu_ne _ _ (by omega), zu_ne _ _ (by omega)]) ?_
      refine lv_iadd hx hb dX5_add_49 ?_
      refine z_puti M hw ht zf_X5_19 (Or.inl rfl) rfl rfl dX5_add_50 (fun H locs hw => ?_)
      refine lv_aload_n hx hb dX5_add_53 rfl (lv_at hl 0 rfl) ?_
      refine lv_dup hx hb dX5_add_54 rfl ?_
      refine z_geti M hw ht zf_X5_22 dX5_add_55 ?_
      refine z_topi (y := I κ 3) (by rw [zu_ne _ _ (by omega), zu_ne _ _ (by omega), zu_ne _ _ (by omega)]) ?_
      refine lv_aload_n hx hb dX5_add_58 rfl (lv_at hl 2 rfl) ?_
      refine z_geti M hw hm zf_X5_30 dX5_add_59 ?_
      refine z_topi (y := I μ 3) (by rw [zu_ne _ _ (by omega), zu_ne _ _ (by omega), zu_ne _ _ (by omega)]) ?_
      refine lv_iadd hx hb dX5_add_62 ?_
      refine z_puti M hw ht zf_X5_22 (Or.inl rfl) rfl rfl dX5_add_63 (fun H locs hw => ?_)
      exact z_vret hx hb hr hw.2 (by first | exact hw.1 | (rw [← nI_succ] at hw; exact hw.1) | (rw [hj, ← nI_succ] at hw; exact hw.1)) (Nat.le_of_ble_eq_true rfl) (Nat.le_of_ble_eq_true rfl) dX5_add_66 hlocks
    · skip
      exact absurd (by rw [hj]; exact nI_lt hj9 (by omega)) c2
set_option maxHeartbeats 4000000 in
set_option maxRecDepth 100000 in
theorem c_X3_aimAt (l : Launch) (base : Nat) (D : va_G) (cA : Nat → ClassId) (ad : Nat → Nat) (ty : zTyp) (I : zIt) (L : zLt) (P : zPt) (κ n : Nat) (ht : ty κ = some (3, n)) (a b : Int32) : zMv l base D cA yX3_aimAt cX3_aimAt 3 0 0 0 0 [.ref (ad κ), .int a, .int b] (zW base D cA ad ty I L P) (zW base D cA ad ty (zu (zu I κ 5 a) κ 6 b) L P) := by
  refine z_start (by decide +kernel) (Nat.le_of_ble_eq_true rfl) fun p e s m below meth c ls M hP hS hl hr hlocks hnm => ?_
  have M : zM p s m c cX3_aimAt RX3 3 base D cA := M
  have hw : zH base D cA s s.heap [] ad ty I L P := ⟨hP, hS⟩
  obtain ⟨hx, hb, -⟩ := id M
  have hl : lv_has ls 3 [(0, .ref (ad κ)), (1, .int a), (2, .int b)] := hl
  refine lv_aload_n hx hb dX3_aimAt_0 rfl (lv_at hl 0 rfl) ?_
  refine lv_iload_n hx hb dX3_aimAt_1 rfl (lv_at hl 1 rfl) ?_
  refine z_puti M hw ht zf_X3_18 (Or.inl rfl) rfl rfl dX3_aimAt_2 (fun H locs hw => ?_)
  refine lv_aload_n hx hb dX3_aimAt_5 rfl (lv_at hl 0 rfl) ?_
  refine lv_iload_n hx hb dX3_aimAt_6 rfl (lv_at hl 2 rfl) ?_
  refine z_puti M hw ht zf_X3_21 (Or.inl rfl) rfl rfl dX3_aimAt_7 (fun H locs hw => ?_)
  exact z_vret hx hb hr hw.2 hw.1 (Nat.le_of_ble_eq_true rfl) (Nat.le_of_ble_eq_true rfl) dX3_aimAt_10 hlocks
set_option maxHeartbeats 4000000 in
set_option maxRecDepth 100000 in
theorem c_X3_begin (l : Launch) (base : Nat) (D : va_G) (cA : Nat → ClassId) (ad : Nat → Nat) (ty : zTyp) (I : zIt) (L : zLt) (P : zPt) (κ n : Nat) (ht : ty κ = some (3, n)) (a b : Int32) : zMv l base D cA yX3_begin cX3_begin 3 0 0 0 0 [.ref (ad κ), .int a, .int b] (zW base D cA ad ty I L P) (zW base D cA ad ty (zu (zu I κ 3 a) κ 4 b) L P) := by
  refine z_start (by decide +kernel) (Nat.le_of_ble_eq_true rfl) fun p e s m below meth c ls M hP hS hl hr hlocks hnm => ?_
  have M : zM p s m c cX3_begin RX3 3 base D cA := M
  have hw : zH base D cA s s.heap [] ad ty I L P := ⟨hP, hS⟩
  obtain ⟨hx, hb, -⟩ := id M
  have hl : lv_has ls 3 [(0, .ref (ad κ)), (1, .int a), (2, .int b)] := hl
  refine lv_aload_n hx hb dX3_begin_0 rfl (lv_at hl 0 rfl) ?_
  refine lv_iload_n hx hb dX3_begin_1 rfl (lv_at hl 1 rfl) ?_
  refine z_puti M hw ht zf_X3_9 (Or.inl rfl) rfl rfl dX3_begin_2 (fun H locs hw => ?_)
  refine lv_aload_n hx hb dX3_begin_5 rfl (lv_at hl 0 rfl) ?_
  refine lv_iload_n hx hb dX3_begin_6 rfl (lv_at hl 2 rfl) ?_
  refine z_puti M hw ht zf_X3_15 (Or.inl rfl) rfl rfl dX3_begin_7 (fun H locs hw => ?_)
  exact z_vret hx hb hr hw.2 hw.1 (Nat.le_of_ble_eq_true rfl) (Nat.le_of_ble_eq_true rfl) dX3_begin_10 hlocks
set_option maxHeartbeats 4000000 in
set_option maxRecDepth 100000 in
theorem c_X3_hoursTo (l : Launch) (base : Nat) (D : va_G) (cA : Nat → ClassId) (ad : Nat → Nat) (ty : zTyp) (I : zIt) (L : zLt) (P : zPt) (κ n : Nat) (ht : ty κ = some (3, n)) (a b : Int32) (hne : ¬ I κ 0 = 0) : zMi l base D cA yX3_hoursTo cX3_hoursTo 4 .int 1 20 0 0 [.ref (ad κ), .int a, .int b] (zW base D cA ad ty I L P) (zHours (I κ 1) (I κ 2) (I κ 0) a b) (zW base D cA ad ty I L P) := by
  refine z_start (by decide +kernel) (Nat.le_of_ble_eq_true rfl) fun p e s m below meth c ls M hP hS hl hr hlocks hnm => ?_
  have M : zM p s m c cX3_hoursTo RX3 4 base D cA := M
  have hw : zH base D cA s s.heap [] ad ty I L P := ⟨hP, hS⟩
  obtain ⟨hx, hb, -⟩ := id M
  have hl : lv_has ls 4 [(0, .ref (ad κ)), (1, .int a), (2, .int b)] := hl
  refine lv_iload_n hx hb dX3_hoursTo_0 rfl (lv_at hl 1 rfl) ?_
  refine lv_aload_n hx hb dX3_hoursTo_1 rfl (lv_at hl 0 rfl) ?_
  refine z_geti M hw ht zf_X3_27 dX3_hoursTo_2 ?_
  refine lv_isub hx hb dX3_hoursTo_5 ?_
  refine va_mabs hx hb (M.2.2.1.trans hl.1.symm) M.2.2.2.1 (M.2.2.2.2.1.use (tb 375 (by decide +kernel)) rfl) (M.2.2.2.2.1.use (tb 376 (by decide +kernel)) rfl) (M.2.2.2.2.1.use (tb 13 (by decide +kernel)) rfl) (M.2.2.2.2.1.use (tb 377 (by decide +kernel)) rfl) (Nat.le_of_ble_eq_true rfl) (Nat.le_of_ble_eq_true rfl) (Nat.le_of_ble_eq_true rfl) (Nat.le_of_ble_eq_true rfl) dX3_hoursTo_6 ?_
  refine W.eq (g2 := F0 m 9 ls [.int (zabs (a - (I κ 1)))]) rfl ?_
  refine lv_iload_n hx hb dX3_hoursTo_9 rfl (lv_at hl 2 rfl) ?_
  refine lv_aload_n hx hb dX3_hoursTo_10 rfl (lv_at hl 0 rfl) ?_
  refine z_geti M hw ht zf_X3_30 dX3_hoursTo_11 ?_
  refine lv_isub hx hb dX3_hoursTo_14 ?_
  refine va_mabs hx hb (M.2.2.1.trans hl.1.symm) M.2.2.2.1 (M.2.2.2.2.1.use (tb 375 (by decide +kernel)) rfl) (M.2.2.2.2.1.use (tb 376 (by decide +kernel)) rfl) (M.2.2.2.2.1.use (tb 13 (by decide +kernel)) rfl) (M.2.2.2.2.1.use (tb 377 (by decide +kernel)) rfl) (Nat.le_of_ble_eq_true rfl) (Nat.le_of_ble_eq_true rfl) (Nat.le_of_ble_eq_true rfl) (Nat.le_of_ble_eq_true rfl) dX3_hoursTo_15 ?_
  refine W.eq (g2 := F0 m 18 ls [.int (zabs (b - (I κ 2))), .int (zabs (a - (I κ 1)))]) rfl ?_
  refine lv_iadd hx hb dX3_hoursTo_18 ?_
  refine lv_topi (fun x1 ex1 => ?_)
  refine lv_istore_n (lv' := [(3, .int x1), (0, .ref (ad κ)), (1, .int a), (2, .int b)]) hx hb dX3_hoursTo_19 rfl hl (by decide) rfl (fun ls hl => ?_)
  refine lv_iload_n hx hb dX3_hoursTo_20 rfl (lv_at hl 0 rfl) ?_
  refine lv_aload_n hx hb dX3_hoursTo_21 rfl (lv_at hl 1 rfl) ?_
  refine z_geti M hw ht zf_X3_33 dX3_hoursTo_22 ?_
  refine lv_iadd hx hb dX3_hoursTo_25 ?_
  refine lv_iconst (v := 1) hx hb dX3_hoursTo_26 (by decide) ?_
  refine lv_isub hx hb dX3_hoursTo_27 ?_
  refine lv_aload_n hx hb dX3_hoursTo_28 rfl (lv_at hl 1 rfl) ?_
  refine z_geti M hw ht zf_X3_33 dX3_hoursTo_29 ?_
  refine lv_idiv hx hb dX3_hoursTo_32 hne ?_
  exact z_iret hx hb hr (by unfold zHours; simp only [ex1]) rfl hw.2 hw.1 (Nat.le_of_ble_eq_true rfl) (Nat.le_of_ble_eq_true rfl) dX3_hoursTo_33 hlocks
set_option maxHeartbeats 4000000 in
set_option maxRecDepth 100000 in
theorem c_X4_credit (l : Launch) (base : Nat) (D : va_G) (cA : Nat → ClassId) (ad : Nat → Nat) (ty : zTyp) (I : zIt) (L : zLt) (P : zPt) (κ n : Nat) (ht : ty κ = some (4, n)) (a : Int32) : zMv l base D cA yX4_credit cX4_credit 2 1 21 0 0 [.ref (ad κ), .int a] (zW base D cA ad ty I L P) (zW base D cA ad ty (zu I κ 8 (zmin (I κ 5) (I κ 8 + a))) L P) := by
  refine z_start (by decide +kernel) (Nat.le_of_ble_eq_true rfl) fun p e s m below meth c ls M hP hS hl hr hlocks hnm => ?_
  have M : zM p s m c cX4_credit RX4 2 base D cA := M
  have hw : zH base D cA s s.heap [] ad ty I L P := ⟨hP, hS⟩
  obtain ⟨hx, hb, -⟩ := id M
  have hl : lv_has ls 2 [(0, .ref (ad κ)), (1, .int a)] := hl
  refine lv_aload_n hx hb dX4_credit_0 rfl (lv_at hl 0 rfl) ?_
  refine lv_aload_n hx hb dX4_credit_1 rfl (lv_at hl 0 rfl) ?_
  refine z_geti M hw ht zf_X4_47 dX4_credit_2 ?_
  refine lv_aload_n hx hb dX4_credit_5 rfl (lv_at hl 0 rfl) ?_
  refine z_geti M hw ht zf_X4_22 dX4_credit_6 ?_
  refine lv_iload_n hx hb dX4_credit_9 rfl (lv_at hl 1 rfl) ?_
  refine lv_iadd hx hb dX4_credit_10 ?_
  refine va_mmin hx hb (M.2.2.1.trans hl.1.symm) M.2.2.2.1 (M.2.2.2.2.1.use (tb 562 (by decide +kernel)) rfl) (M.2.2.2.2.1.use (tb 563 (by decide +kernel)) rfl) (M.2.2.2.2.1.use (tb 13 (by decide +kernel)) rfl) (M.2.2.2.2.1.use (tb 564 (by decide +kernel)) rfl) (Nat.le_of_ble_eq_true rfl) (Nat.le_of_ble_eq_true rfl) (Nat.le_of_ble_eq_true rfl) (Nat.le_of_ble_eq_true rfl) dX4_credit_11 ?_
  refine W.eq (g2 := F0 m 14 ls [.int (zmin (I κ 5) ((I κ 8) + a)), .ref (ad κ)]) rfl ?_
  refine z_puti M hw ht zf_X4_22 (Or.inl rfl) rfl rfl dX4_credit_14 (fun H locs hw => ?_)
  exact z_vret hx hb hr hw.2 hw.1 (Nat.le_of_ble_eq_true rfl) (Nat.le_of_ble_eq_true rfl) dX4_credit_17 hlocks
end
section
/-! THE SHAPES: which keys there are, and what refers to what. Class: 0 chart, 1 net, 2 islands, 3 cables, 4 ships, 5 traders, 6 faultsByAge, 7 costs, 8 sums;
16+i island, 32+i cable, 48+i ship, 64+i trader, 80+i its way, 96+i the way's row. Reference: 128, its array of field k: 128+k. 160: the law's 'out'. -/
def zcT : List (Nat × (Nat × Nat)) := [(0, (6, 0)), (1, (2, 0)), (2, (12, 10)), (3, (11, 16)), (4, (13, 4)), (5, (14, 12)), (6, (8, 128)), (7, (9, 10)), (8, (8, 10))]
def zcP : List (Nat × Nat × Nat) := [(0, 0, 2), (0, 2, 1), (0, 3, 4), (0, 5, 5), (1, 0, 3), (1, 2, 6), (1, 4, 7), (1, 5, 8)]
def zcls (ni nc ns nt : Nat) (ty : zTyp) (P : zPt) : Prop := ((∀ q ∈ zcT, ty q.1 = some q.2) ∧ ∀ q ∈ zcP, P q.1 q.2.1 = some q.2.2) ∧ (ni ≤ 10 ∧ nc ≤ 16 ∧ ns ≤ 4 ∧ nt ≤ 12) ∧
  (∀ i, i < ni → ty (16 + i) = some (1, 0) ∧ P 2 i = some (16 + i)) ∧ (∀ i, i < nc → ty (32 + i) = some (0, 0) ∧ P 3 i = some (32 + i)) ∧ (∀ i, i < ns → ty (48 + i) = some (3, 0) ∧ P 4 i = some (48 + i)) ∧
  ∀ i, i < nt → (ty (64 + i) = some (4, 0) ∧ P 5 i = some (64 + i)) ∧ (ty (80 + i) = some (5, 0) ∧ P (64 + i) 6 = some (80 + i)) ∧ ty (96 + i) = some (8, 9) ∧ P (80 + i) 0 = some (96 + i)
section ZCL
variable {ni nc ns nt : Nat} {ty : zTyp} {P : zPt}
theorem zc_t0 (h : zcls ni nc ns nt ty P) : ty 0 = some (6, 0) := h.1.1 (0, (6, 0)) (by decide)
theorem zc_t1 (h : zcls ni nc ns nt ty P) : ty 1 = some (2, 0) := h.1.1 (1, (2, 0)) (by decide)
theorem zc_t2 (h : zcls ni nc ns nt ty P) : ty 2 = some (12, 10) := h.1.1 (2, (12, 10)) (by decide)
theorem zc_t3 (h : zcls ni nc ns nt ty P) : ty 3 = some (11, 16) := h.1.1 (3, (11, 16)) (by decide)
theorem zc_t4 (h : zcls ni nc ns nt ty P) : ty 4 = some (13, 4) := h.1.1 (4, (13, 4)) (by decide)
theorem zc_t5 (h : zcls ni nc ns nt ty P) : ty 5 = some (14, 12) := h.1.1 (5, (14, 12)) (by decide)
theorem zc_t6 (h : zcls ni nc ns nt ty P) : ty 6 = some (8, 128) := h.1.1 (6, (8, 128)) (by decide)
theorem zc_t7 (h : zcls ni nc ns nt ty P) : ty 7 = some (9, 10) := h.1.1 (7, (9, 10)) (by decide)
theorem zc_t8 (h : zcls ni nc ns nt ty P) : ty 8 = some (8, 10) := h.1.1 (8, (8, 10)) (by decide)
theorem zc_p00 (h : zcls ni nc ns nt ty P) : P 0 0 = some 2 := h.1.2 (0, 0, 2) (by decide)
theorem zc_p02 (h : zcls ni nc ns nt ty P) : P 0 2 = some 1 := h.1.2 (0, 2, 1) (by decide)
theorem zc_p03 (h : zcls ni nc ns nt ty P) : P 0 3 = some 4 := h.1.2 (0, 3, 4) (by decide)
theorem zc_p05 (h : zcls ni nc ns nt ty P) : P 0 5 = some 5 := h.1.2 (0, 5, 5) (by decide)
theorem zc_p10 (h : zcls ni nc ns nt ty P) : P 1 0 = some 3 := h.1.2 (1, 0, 3) (by decide)
theorem zc_p12 (h : zcls ni nc ns nt ty P) : P 1 2 = some 6 := h.1.2 (1, 2, 6) (by decide)
theorem zc_p14 (h : zcls ni nc ns nt ty P) : P 1 4 = some 7 := h.1.2 (1, 4, 7) (by decide)
theorem zc_p15 (h : zcls ni nc ns nt ty P) : P 1 5 = some 8 := h.1.2 (1, 5, 8) (by decide)
theorem zc_b (h : zcls ni nc ns nt ty P) : ni ≤ 10 ∧ nc ≤ 16 ∧ ns ≤ 4 ∧ nt ≤ 12 := h.2.1
theorem zc_tI (h : zcls ni nc ns nt ty P) {i : Nat} (hi : i < ni) : ty (16 + i) = some (1, 0) := (h.2.2.1 i hi).1
theorem zc_pI (h : zcls ni nc ns nt ty P) {i : Nat} (hi : i < ni) : P 2 i = some (16 + i) := (h.2.2.1 i hi).2
theorem zc_tC (h : zcls ni nc ns nt ty P) {i : Nat} (hi : i < nc) : ty (32 + i) = some (0, 0) := (h.2.2.2.1 i hi).1
theorem zc_pC (h : zcls ni nc ns nt ty P) {i : Nat} (hi : i < nc) : P 3 i = some (32 + i) := (h.2.2.2.1 i hi).2
theorem zc_tS (h : zcls ni nc ns nt ty P) {i : Nat} (hi : i < ns) : ty (48 + i) = some (3, 0) := (h.2.2.2.2.1 i hi).1
theorem zc_pS (h : zcls ni nc ns nt ty P) {i : Nat} (hi : i < ns) : P 4 i = some (48 + i) := (h.2.2.2.2.1 i hi).2
theorem zc_tT (h : zcls ni nc ns nt ty P) {i : Nat} (hi : i < nt) : ty (64 + i) = some (4, 0) := (h.2.2.2.2.2 i hi).1.1
theorem zc_pT (h : zcls ni nc ns nt ty P) {i : Nat} (hi : i < nt) : P 5 i = some (64 + i) := (h.2.2.2.2.2 i hi).1.2
theorem zc_tW (h : zcls ni nc ns nt ty P) {i : Nat} (hi : i < nt) : ty (80 + i) = some (5, 0) := (h.2.2.2.2.2 i hi).2.1.1
theorem zc_pW (h : zcls ni nc ns nt ty P) {i : Nat} (hi : i < nt) : P (64 + i) 6 = some (80 + i) := (h.2.2.2.2.2 i hi).2.1.2
theorem zc_tR (h : zcls ni nc ns nt ty P) {i : Nat} (hi : i < nt) : ty (96 + i) = some (8, 9) := (h.2.2.2.2.2 i hi).2.2.1
theorem zc_pR (h : zcls ni nc ns nt ty P) {i : Nat} (hi : i < nt) : P (80 + i) 0 = some (96 + i) := (h.2.2.2.2.2 i hi).2.2.2
end ZCL
def zrT : List (Nat × (Nat × Nat)) := [(128, (7, 0)), (131, (8, 10)), (132, (8, 10)), (134, (8, 16)), (135, (8, 16)), (136, (8, 16)), (137, (8, 16)), (138, (8, 16)), (140, (8, 128)), (142, (8, 4)), (143, (8, 4)), (144, (8, 4)), (145, (8, 4)), (146, (8, 4)), (147, (8, 4)), (148, (8, 4)), (150, (8, 12)), (151, (8, 12)), (152, (8, 12)), (153, (8, 12)), (154, (8, 12)), (155, (8, 12)), (156, (9, 48)), (157, (9, 10)), (158, (10, 16))]
def zrP : List Nat := [3, 4, 6, 7, 8, 9, 10, 12, 14, 15, 16, 17, 18, 19, 20, 22, 23, 24, 25, 26, 27, 28, 29, 30]
def zref (ty : zTyp) (P : zPt) : Prop := (∀ q ∈ zrT, ty q.1 = some q.2) ∧ ∀ k ∈ zrP, P 128 k = some (128 + k)
theorem zr_t {ty : zTyp} {P : zPt} (h : zref ty P) (κ a b : Nat) (hm : (κ, (a, b)) ∈ zrT) : ty κ = some (a, b) := h.1 _ hm
theorem zr_p {ty : zTyp} {P : zPt} (h : zref ty P) (k : Nat) (hm : k ∈ zrP) : P 128 k = some (128 + k) := h.2 _ hm
theorem zu_zs {α : Type} (T : Nat → Nat → α) (κ : Nat) (f : Nat → α) (k : Nat) (x : α) : zu (zs T κ f) κ k x = zs T κ (zs f k x) := by
  funext a b
  by_cases h : a = κ
  · subst h
    by_cases h2 : b = k
    · subst h2; simp [zu, zs]
    · simp [zu, zs, h2]
  · simp [zu, zs, h]
theorem zs_zs {α : Type} (T : Nat → α) (κ : Nat) (f g : α) : zs (zs T κ f) κ g = zs T κ g := by
  funext a
  by_cases h : a = κ <;> simp [zs, h]
theorem zu_row {α : Type} (T : Nat → Nat → α) (κ k : Nat) (x : α) : zu T κ k x = zs T κ (zs (T κ) k x) := by
  funext a b
  by_cases h : a = κ
  · subst h
    by_cases h2 : b = k
    · subst h2; simp [zu, zs]
    · simp [zu, zs, h2]
  · simp [zu, zs, h]
theorem zs_id {α : Type} (T : Nat → α) (κ : Nat) : zs T κ (T κ) = T := by
  funext a
  by_cases h : a = κ
  · subst h; simp [zs]
  · simp [zs, h]
/-- the first number below n with p -/
def zfst (p : Nat → Bool) (n : Nat) : Option Nat := (List.range n).find? p
theorem zfst_none {p : Nat → Bool} {n : Nat} (h : ∀ j, j < n → p j = false) : zfst p n = none := by
  unfold zfst
  rw [List.find?_eq_none]
  intro j hj
  rw [h j (List.mem_range.mp hj)]
  decide
theorem zfst_some {p : Nat → Bool} {n k : Nat} (hk : k < n) (hp : p k = true) (h : ∀ j, j < k → p j = false) : zfst p n = some k := by
  unfold zfst
  rw [List.find?_range_eq_some]
  exact ⟨hp, List.mem_range.mpr hk, fun j hj => by rw [h j hj]; rfl⟩
theorem zfst_spec {p : Nat → Bool} {n k : Nat} (h : zfst p n = some k) : k < n ∧ p k = true ∧ ∀ j, j < k → p j = false := by
  unfold zfst at h
  rw [List.find?_range_eq_some] at h
  exact ⟨List.mem_range.mp h.2.1, h.1, fun j hj => by have := h.2.2 j hj; simpa using this⟩
theorem zfst_no {p : Nat → Bool} {n : Nat} (h : zfst p n = none) : ∀ j, j < n → p j = false := by
  unfold zfst at h
  rw [List.find?_eq_none] at h
  intro j hj
  have := h j (List.mem_range.mpr hj)
  simpa using this
theorem zfst_congr {p q : Nat → Bool} {n : Nat} (h : ∀ j, j < n → p j = q j) : zfst p n = zfst q n := by
  cases hq : zfst q n with
  | none => exact zfst_none fun j hj => (h j hj).trans (zfst_no hq j hj)
  | some k =>
    obtain ⟨h1, h2, h3⟩ := zfst_spec hq
    exact zfst_some h1 ((h k h1).trans h2) fun j hj => (h j (by omega)).trans (h3 j hj)
def zoi (o : Option Nat) : Int32 := match o with | none => -1 | some k => nI k
end
section
/-! WHAT THE NET'S METHODS DO, over the tables -/
abbrev zUNR : Int64 := 1152921504606846976
def zNb1 (f : Nat → Int64) (st : Int32) (k : Nat) (q : Int32 × Int64) : Int32 × Int64 :=
  if (st >>> (nI k &&& 31)) &&& 1 = 0 then (if 0 ≤ lg_cmp (f k) q.2 then q else (nI k, f k)) else q
def zNb (f : Nat → Int64) (st : Int32) : Nat → Int32 × Int64
  | 0 => (-1, zUNR)
  | k + 1 => zNb1 f st k (zNb f st k)
def zSp1 (I : zIt) (u : Nat) (f : Nat → Int64) (i : Nat) : Nat → Int64 :=
  if zCleads I (32 + i) (nI u) = -1 then f else zs f (zCleads I (32 + i) (nI u)).toNatClampNeg (zminl (f (zCleads I (32 + i) (nI u)).toNatClampNeg) (f u + zCost I (32 + i)))
def zSp (I : zIt) (u : Nat) (f : Nat → Int64) : Nat → Nat → Int64
  | 0 => f
  | k + 1 => zSp1 I u (zSp I u f k) k
def zLbc (I : zIt) (f : Nat → Int64) (u i : Nat) : Bool := decide (¬ zCleads I (32 + i) (nI u) = -1 ∧ lg_cmp (f u) (f (zCleads I (32 + i) (nI u)).toNatClampNeg + zCost I (32 + i)) = 0)
def zMt1 (I : zIt) (nc : Nat) (q : Int32 × (Nat → Int64)) : Int32 × (Nat → Int64) :=
  if (zNb q.2 q.1 10).1 = -1 then q else (q.1 ||| (1 <<< ((zNb q.2 q.1 10).1 &&& 31)), zSp I (zNb q.2 q.1 10).1.toNatClampNeg q.2 nc)
def zMt (I : zIt) (nc : Nat) (f : Nat → Int64) : Nat → Int32 × (Nat → Int64)
  | 0 => (0, f)
  | k + 1 => zMt1 I nc (zMt I nc f k)
def zM0 (f : Nat → Int64) (v : Nat) : Nat → Int64 := zs (fun b => if b < 10 then zUNR else f b) v 0
theorem zNb_in (f : Nat → Int64) (st : Int32) : ∀ k, k ≤ 10 → (zNb f st k).1 = -1 ∨ ∃ j, j < k ∧ (zNb f st k).1 = nI j := by
  intro k
  induction k with
  | zero => intro _; exact Or.inl rfl
  | succ k ih =>
    intro hk
    show (zNb1 f st k (zNb f st k)).1 = -1 ∨ ∃ j, j < k + 1 ∧ (zNb1 f st k (zNb f st k)).1 = nI j
    have h := ih (by omega)
    unfold zNb1
    split
    · split
      · rcases h with h | ⟨j, h1, h2⟩
        · exact Or.inl h
        · exact Or.inr ⟨j, by omega, h2⟩
      · exact Or.inr ⟨k, by omega, rfl⟩
    · rcases h with h | ⟨j, h1, h2⟩
      · exact Or.inl h
      · exact Or.inr ⟨j, by omega, h2⟩
theorem zNb_ix {f : Nat → Int64} {st : Int32} (h : ¬ (zNb f st 10).1 = -1) : (zNb f st 10).1 = nI (zNb f st 10).1.toNatClampNeg ∧ (zNb f st 10).1.toNatClampNeg < 10 := by
  rcases zNb_in f st 10 (Nat.le_refl _) with h1 | ⟨j, h1, h2⟩
  · exact absurd h1 h
  · rw [h2, nI_clamp (by omega)]
    exact ⟨rfl, h1⟩
/-- the cables' ends are numbers of islands -/
def zEnds (I : zIt) (nc : Nat) : Prop := ∀ i, i < nc → (∃ a, a < 10 ∧ I (32 + i) 0 = nI a) ∧ ∃ b, b < 10 ∧ I (32 + i) 1 = nI b
theorem zCl_in {I : zIt} {nc i : Nat} {x : Int32} (hE : zEnds I nc) (hi : i < nc) (h : ¬ zCleads I (32 + i) x = -1) : zCleads I (32 + i) x = nI (zCleads I (32 + i) x).toNatClampNeg ∧ (zCleads I (32 + i) x).toNatClampNeg < 10 := by
  obtain ⟨⟨a, ha, ea⟩, b, hb, eb⟩ := hE i hi
  have : (∃ j, j < 10 ∧ zCleads I (32 + i) x = nI j) := by
    unfold zCleads at h ⊢
    split at h
    · rename_i h1
      rw [if_pos h1]
      split at h
      · rename_i h2; rw [if_pos h2]; exact ⟨b, hb, eb⟩
      · rename_i h2
        rw [if_neg h2]
        split at h
        · rename_i h3; rw [if_pos h3]; exact ⟨a, ha, ea⟩
        · exact absurd rfl h
    · exact absurd rfl h
  obtain ⟨j, h1, h2⟩ := this
  rw [h2, nI_clamp (by omega)]
  exact ⟨rfl, h1⟩
theorem zMt_stop {I : zIt} {nc : Nat} {f : Nat → Int64} {k : Nat} (h : (zNb (zMt I nc f k).2 (zMt I nc f k).1 10).1 = -1) : ∀ j, zMt I nc f (k + j) = zMt I nc f k := by
  intro j
  induction j with
  | zero => rfl
  | succ j ih =>
    show zMt1 I nc (zMt I nc f (k + j)) = _
    rw [ih]
    unfold zMt1
    rw [if_pos h]
theorem zfl_row (L : zLt) (κ : Nat) (v : Int64) (n : Nat) : zfl L κ n v = zs L κ (fun b => if b < n then v else L κ b) := by
  funext a b
  by_cases h : a = κ
  · subst h; simp [zfl, zs]
  · simp [zfl, zs, h]
theorem zfl_rowi (L : zIt) (κ : Nat) (v : Int32) (n : Nat) : zfl L κ n v = zs L κ (fun b => if b < n then v else L κ b) := by
  funext a b
  by_cases h : a = κ
  · subst h; simp [zfl, zs]
  · simp [zfl, zs, h]
theorem z_lt {k n : Nat} (h : ¬ nI n ≤ nI k) (hk : k < 2 ^ 31) : k < n := by
  rcases Nat.lt_or_ge k n with q | q
  · exact q
  · exact absurd (nI_le q hk) h
theorem z_ge {k n : Nat} (h : nI n ≤ nI k) (hn : n < 2 ^ 31) (_ : k < 2 ^ 31) : n ≤ k := by
  rcases Nat.lt_or_ge k n with q | q
  · exact absurd h (nI_ge q hn)
  · exact q
end
section
set_option maxHeartbeats 4000000 in
set_option maxRecDepth 100000 in
theorem c_X2_nearestBeside (l : Launch) (base : Nat) (D : va_G) (cA : Nat → ClassId) (ad : Nat → Nat) (ty : zTyp) (I : zIt) (L : zLt) (P : zPt) (ni nc ns nt : Nat) (hC : zcls ni nc ns nt ty P) (st : Int32) : zMi l base D cA yX2_nearestBeside cX2_nearestBeside 6 .int 0 0 0 0 [.ref (ad 1), .int st] (zW base D cA ad ty I L P) ((zNb (L 7) st 10).1) (zW base D cA ad ty I L P) := by
  refine z_start (by decide +kernel) (Nat.le_of_ble_eq_true rfl) fun p e s m below meth c ls M hP hS hl hr hlocks hnm => ?_
  have M : zM p s m c cX2_nearestBeside RX2 6 base D cA := M
  have hw : zH base D cA s s.heap [] ad ty I L P := ⟨hP, hS⟩
  obtain ⟨hx, hb, -⟩ := id M
  have hl : lv_has ls 6 [(0, .ref (ad 1)), (1, .int st)] := hl
  obtain ⟨hb1, hb2, hb3, hb4⟩ := zc_b hC
  refine lv_iconst (v := (-1)) hx hb dX2_nearestBeside_0 (by decide) ?_
  refine lv_istore_n (lv' := [(2, .int (-1)), (0, .ref (ad 1)), (1, .int st)]) hx hb dX2_nearestBeside_1 rfl hl (by decide) rfl (fun ls hl => ?_)
  refine lv_ldc2 (v := 1152921504606846976) hx hb M.2.2.2.1 (M.2.2.2.2.1.use (tb 519 (by decide +kernel)) rfl) dX2_nearestBeside_2 ?_
  refine lv_lstore_n (lv' := [(3, .long 1152921504606846976), (2, .int (-1)), (0, .ref (ad 1)), (1, .int st)]) hx hb dX2_nearestBeside_5 rfl hl (by decide) rfl (fun ls hl => ?_)
  refine lv_iconst (v := 0) hx hb dX2_nearestBeside_6 (by decide) ?_
  refine lv_istore (lv' := [(5, .int 0), (3, .long 1152921504606846976), (2, .int (-1)), (0, .ref (ad 1)), (1, .int st)]) hx hb dX2_nearestBeside_7 hl (by decide) rfl (fun ls hl => ?_)
  refine z_loop (10) (fun (k : Nat) H locs ls => ∃ (a : Int32), ∃ (b : Int64), (zNb (L 7) st k = (a, b)) ∧ zH base D cA s H locs ad ty I L P ∧ lv_has ls 6 [(0, .ref (ad 1)), (1, .int st), (2, .int a), (3, .long b), (5, .int (nI k))]) 0 ⟨_, _, rfl, hw, lv_sub hl [3, 4, 2, 1, 0] rfl⟩ (by omega) (fun k hk_k ih_k H locs ls hI => ?_)
  obtain ⟨a, b, hq, hw, hl⟩ := hI
  refine lv_iload hx hb dX2_nearestBeside_9 (lv_at hl 4 rfl) ?_
  refine lv_bipush (v := 10) hx hb dX2_nearestBeside_11 (by decide) ?_
  refine lv_icmp_ge (tgt := 54) hx hb dX2_nearestBeside_13 (by decide) (fun c1 => ?_) (fun c1 => ?_)
  · skip
    have hge : 10 = k := Nat.le_antisymm (z_ge (show nI 10 ≤ nI k from c1) (by omega) (by omega)) (by omega)
    subst hge
    refine lv_iload_n hx hb dX2_nearestBeside_54 rfl (lv_at hl 2 rfl) ?_
    exact z_iret hx hb hr (by rw [hq]) rfl hw.2 hw.1 (Nat.le_of_ble_eq_true rfl) (Nat.le_of_ble_eq_true rfl) dX2_nearestBeside_55 hlocks
  · skip
    have hlt : k < 10 := z_lt (show ¬ nI 10 ≤ nI k from c1) (by omega)
    refine lv_iload_n hx hb dX2_nearestBeside_16 rfl (lv_at hl 1 rfl) ?_
    refine lv_iload hx hb dX2_nearestBeside_17 (lv_at hl 4 rfl) ?_
    refine lv_ishr hx hb dX2_nearestBeside_19 ?_
    refine lv_iconst (v := 1) hx hb dX2_nearestBeside_20 (by decide) ?_
    refine lv_iand hx hb dX2_nearestBeside_21 ?_
    refine lv_if_ne (tgt := 48) hx hb dX2_nearestBeside_22 (by decide) (fun c2 => ?_) (fun c2 => ?_)
    · skip
      refine lv_iinc (v := nI (k + 1)) (lv' := [(5, .int (nI (k + 1))), (0, .ref (ad 1)), (1, .int st), (2, .int a), (3, .long b)]) hx hb dX2_nearestBeside_48 hl (k := 4) rfl (nI_succ _).symm (by decide) rfl (fun ls hl => ?_)
      refine lv_goto (tgt := 9) hx hb dX2_nearestBeside_51 (by decide) ?_
      exact ih_k hlt _ _ _ ⟨_, _, (by show zNb1 (L 7) st k (zNb (L 7) st k) = _; rw [hq]; unfold zNb1; dsimp only; (try first | rw [if_pos c2] | rw [if_neg c2])), hw, lv_sub hl [1, 2, 3, 4, 0] rfl⟩
    · skip
      refine lv_aload_n hx hb dX2_nearestBeside_25 rfl (lv_at hl 0 rfl) ?_
      refine z_getr M hw (zc_t1 hC) zf_X2_28 (zc_p14 hC) dX2_nearestBeside_26 ?_
      refine lv_iload hx hb dX2_nearestBeside_29 (lv_at hl 4 rfl) ?_
      refine z_lNald M hw (zc_t7 hC) rfl ⟨by omega, by omega⟩ dX2_nearestBeside_31 ?_
      refine lv_lload_n hx hb dX2_nearestBeside_32 rfl (lv_at hl 3 rfl) ?_
      refine W.lcmp hx hb dX2_nearestBeside_33 ?_
      refine lv_if_ge (tgt := 48) hx hb dX2_nearestBeside_34 (by decide) (fun c3 => ?_) (fun c3 => ?_)
      · skip
        refine lv_iinc (v := nI (k + 1)) (lv' := [(5, .int (nI (k + 1))), (0, .ref (ad 1)), (1, .int st), (2, .int a), (3, .long b)]) hx hb dX2_nearestBeside_48 hl (k := 4) rfl (nI_succ _).symm (by decide) rfl (fun ls hl => ?_)
        refine lv_goto (tgt := 9) hx hb dX2_nearestBeside_51 (by decide) ?_
        exact ih_k hlt _ _ _ ⟨_, _, (by show zNb1 (L 7) st k (zNb (L 7) st k) = _; rw [hq]; unfold zNb1; dsimp only; (try first | rw [if_pos c2] | rw [if_neg c2]); (try first | rw [if_pos c3] | rw [if_neg c3])), hw, lv_sub hl [1, 2, 3, 4, 0] rfl⟩
      · skip
        refine lv_iload hx hb dX2_nearestBeside_37 (lv_at hl 4 rfl) ?_
        refine lv_istore_n (lv' := [(2, .int (nI k)), (0, .ref (ad 1)), (1, .int st), (3, .long b), (5, .int (nI k))]) hx hb dX2_nearestBeside_39 rfl hl (by decide) rfl (fun ls hl => ?_)
        refine lv_aload_n hx hb dX2_nearestBeside_40 rfl (lv_at hl 1 rfl) ?_
        refine z_getr M hw (zc_t1 hC) zf_X2_28 (zc_p14 hC) dX2_nearestBeside_41 ?_
        refine lv_iload hx hb dX2_nearestBeside_44 (lv_at hl 4 rfl) ?_
        refine z_lNald M hw (zc_t7 hC) rfl ⟨by omega, by omega⟩ dX2_nearestBeside_46 ?_
        refine lv_topl (fun x4 ex4 => ?_)
        refine lv_lstore_n (lv' := [(3, .long x4), (2, .int (nI k)), (0, .ref (ad 1)), (1, .int st), (5, .int (nI k))]) hx hb dX2_nearestBeside_47 rfl hl (by decide) rfl (fun ls hl => ?_)
        refine lv_iinc (v := nI (k + 1)) (lv' := [(5, .int (nI (k + 1))), (3, .long x4), (2, .int (nI k)), (0, .ref (ad 1)), (1, .int st)]) hx hb dX2_nearestBeside_48 hl (k := 4) rfl (nI_succ _).symm (by decide) rfl (fun ls hl => ?_)
        refine lv_goto (tgt := 9) hx hb dX2_nearestBeside_51 (by decide) ?_
        exact ih_k hlt _ _ _ ⟨_, _, (by show zNb1 (L 7) st k (zNb (L 7) st k) = _; rw [hq]; unfold zNb1; dsimp only; (try first | rw [if_pos c2] | rw [if_neg c2]); (try first | rw [if_pos c3] | rw [if_neg c3]); (try simp only [ex4])), hw, lv_sub hl [3, 4, 2, 1, 0] rfl⟩
set_option maxHeartbeats 4000000 in
set_option maxRecDepth 100000 in
theorem c_X2_spreadFrom (l : Launch) (base : Nat) (D : va_G) (cA : Nat → ClassId) (ad : Nat → Nat) (ty : zTyp) (I : zIt) (L : zLt) (P : zPt) (ni nc ns nt : Nat) (hC : zcls ni nc ns nt ty P) (hn : I 1 1 = nI nc) (hE : zEnds I nc) (u : Nat) (hu : u < 10) : zMv l base D cA yX2_spreadFrom cX2_spreadFrom 4 1 23 0 0 [.ref (ad 1), .int (nI u)] (zW base D cA ad ty I L P) (zW base D cA ad ty I (zs L 7 (zSp I u (L 7) nc)) P) := by
  refine z_start (by decide +kernel) (Nat.le_of_ble_eq_true rfl) fun p e s m below meth c ls M hP hS hl hr hlocks hnm => ?_
  have M : zM p s m c cX2_spreadFrom RX2 4 base D cA := M
  have hw : zH base D cA s s.heap [] ad ty I L P := ⟨hP, hS⟩
  obtain ⟨hx, hb, -⟩ := id M
  have hl : lv_has ls 4 [(0, .ref (ad 1)), (1, .int (nI u))] := hl
  obtain ⟨hb1, hb2, hb3, hb4⟩ := zc_b hC
  refine lv_iconst (v := 0) hx hb dX2_spreadFrom_0 (by decide) ?_
  refine lv_istore_n (lv' := [(2, .int 0), (0, .ref (ad 1)), (1, .int (nI u))]) hx hb dX2_spreadFrom_1 rfl hl (by decide) rfl (fun ls hl => ?_)
  refine z_loop (nc) (fun (k : Nat) H locs ls => zH base D cA s H locs ad ty I (zs L 7 (zSp I u (L 7) k)) P ∧ lv_has ls 4 [(0, .ref (ad 1)), (1, .int (nI u)), (2, .int (nI k))]) 0 ⟨(by rw [show zSp I u (L 7) 0 = L 7 from rfl, zs_id]; exact hw), lv_sub hl [1, 2, 0] rfl⟩ (by omega) (fun k hk_k ih_k H locs ls hI => ?_)
  obtain ⟨hw, hl⟩ := hI
  refine lv_iload_n hx hb dX2_spreadFrom_2 rfl (lv_at hl 2 rfl) ?_
  refine lv_aload_n hx hb dX2_spreadFrom_3 rfl (lv_at hl 0 rfl) ?_
  refine z_geti M hw (zc_t1 hC) zf_X2_17 dX2_spreadFrom_4 ?_
  refine z_topi (y := nI nc) hn ?_
  refine lv_icmp_ge (tgt := 63) hx hb dX2_spreadFrom_7 (by decide) (fun c1 => ?_) (fun c1 => ?_)
  · skip
    have hge : nc = k := Nat.le_antisymm (z_ge (show nI nc ≤ nI k from c1) (by omega) (by omega)) (by omega)
    subst hge
    exact z_vret hx hb hr hw.2 hw.1 (Nat.le_of_ble_eq_true rfl) (Nat.le_of_ble_eq_true rfl) dX2_spreadFrom_63 hlocks
  · skip
    have hlt : k < nc := z_lt (show ¬ nI nc ≤ nI k from c1) (by omega)
    refine lv_aload_n hx hb dX2_spreadFrom_10 rfl (lv_at hl 0 rfl) ?_
    refine z_getr M hw (zc_t1 hC) zf_X2_11 (zc_p10 hC) dX2_spreadFrom_11 ?_
    refine lv_iload_n hx hb dX2_spreadFrom_14 rfl (lv_at hl 2 rfl) ?_
    refine z_aNald M hw (e9 := 3) (zc_t3 hC) ⟨by decide, rfl⟩ rfl ⟨by omega, by omega⟩ (zc_pC hC (by omega)) dX2_spreadFrom_15 ?_
    refine lv_iload_n hx hb dX2_spreadFrom_16 rfl (lv_at hl 1 rfl) ?_
    refine z_ci0 (z_runV (As := [.int (nI u)]) (rest := []) M hw (zc_tC hC (by omega)) zc_X2_64 (c_X0_leadsTo l base D cA ad ty I (zs L 7 (zSp I u (L 7) k)) P (32 + k) 0 (zc_tC hC (by omega)) (nI u)) hw.1 rfl rfl ⟨Nat.le_of_ble_eq_true rfl, Nat.le_of_ble_eq_true rfl⟩ ⟨Nat.le_of_ble_eq_true rfl, Nat.le_of_ble_eq_true rfl⟩ hl.1 (Nat.le_of_ble_eq_true rfl) dX2_spreadFrom_17) hw (fun H locs hw => ?_)
    refine lv_istore_n (lv' := [(3, .int (zCleads I (32 + k) (nI u))), (0, .ref (ad 1)), (1, .int (nI u)), (2, .int (nI k))]) hx hb dX2_spreadFrom_20 rfl hl (by decide) rfl (fun ls hl => ?_)
    refine lv_iload_n hx hb dX2_spreadFrom_21 rfl (lv_at hl 0 rfl) ?_
    refine lv_iconst (v := (-1)) hx hb dX2_spreadFrom_22 (by decide) ?_
    refine lv_icmp_eq (tgt := 57) hx hb dX2_spreadFrom_23 (by decide) (fun c2 => ?_) (fun c2 => ?_)
    · skip
      refine lv_iinc (v := nI (k + 1)) (lv' := [(2, .int (nI (k + 1))), (3, .int (zCleads I (32 + k) (nI u))), (0, .ref (ad 1)), (1, .int (nI u))]) hx hb dX2_spreadFrom_57 hl (k := 3) rfl (nI_succ _).symm (by decide) rfl (fun ls hl => ?_)
      refine lv_goto (tgt := 2) hx hb dX2_spreadFrom_60 (by decide) ?_
      exact ih_k hlt _ _ _ ⟨(by rw [show zSp I u (L 7) (k + 1) = zSp1 I u (zSp I u (L 7) k) k from rfl, zSp1, if_pos c2]; exact hw), lv_sub hl [2, 3, 0] rfl⟩
    · skip
      have hbe := zCl_in (x := nI u) hE (show k < nc by omega) c2
      refine lv_aload_n hx hb dX2_spreadFrom_26 rfl (lv_at hl 1 rfl) ?_
      refine z_getr M hw (zc_t1 hC) zf_X2_28 (zc_p14 hC) dX2_spreadFrom_27 ?_
      refine lv_iload_n hx hb dX2_spreadFrom_30 rfl (lv_at hl 0 rfl) ?_
      refine lv_aload_n hx hb dX2_spreadFrom_31 rfl (lv_at hl 1 rfl) ?_
      refine z_getr M hw (zc_t1 hC) zf_X2_28 (zc_p14 hC) dX2_spreadFrom_32 ?_
      refine lv_iload_n hx hb dX2_spreadFrom_35 rfl (lv_at hl 0 rfl) ?_
      refine z_lNald M hw (zc_t7 hC) hbe.1 ⟨hbe.2, by omega⟩ dX2_spreadFrom_36 ?_
      refine z_topl (y := (zSp I u (L 7) k) ((zCleads I (32 + k) (nI u)).toNatClampNeg)) (by rw [zs_self]) ?_
      refine lv_aload_n hx hb dX2_spreadFrom_37 rfl (lv_at hl 1 rfl) ?_
      refine z_getr M hw (zc_t1 hC) zf_X2_28 (zc_p14 hC) dX2_spreadFrom_38 ?_
      refine lv_iload_n hx hb dX2_spreadFrom_41 rfl (lv_at hl 2 rfl) ?_
      refine z_lNald M hw (zc_t7 hC) rfl ⟨by omega, by omega⟩ dX2_spreadFrom_42 ?_
      refine z_topl (y := (zSp I u (L 7) k) u) (by rw [zs_self]) ?_
      refine lv_aload_n hx hb dX2_spreadFrom_43 rfl (lv_at hl 1 rfl) ?_
      refine z_getr M hw (zc_t1 hC) zf_X2_11 (zc_p10 hC) dX2_spreadFrom_44 ?_
      refine lv_iload_n hx hb dX2_spreadFrom_47 rfl (lv_at hl 3 rfl) ?_
      refine z_aNald M hw (e9 := 3) (zc_t3 hC) ⟨by decide, rfl⟩ rfl ⟨by omega, by omega⟩ (zc_pC hC (by omega)) dX2_spreadFrom_48 ?_
      refine z_cl0 (z_runV (As := []) (rest := [.long ((zSp I u (L 7) k) u), .long ((zSp I u (L 7) k) ((zCleads I (32 + k) (nI u)).toNatClampNeg)), .int (zCleads I (32 + k) (nI u)), .ref (ad 7)]) M hw (zc_tC hC (by omega)) zc_X2_79 (c_X0_cost l base D cA ad ty I (zs L 7 (zSp I u (L 7) k)) P (32 + k) 0 (zc_tC hC (by omega))) hw.1 rfl rfl ⟨Nat.le_of_ble_eq_true rfl, Nat.le_of_ble_eq_true rfl⟩ ⟨Nat.le_of_ble_eq_true rfl, Nat.le_of_ble_eq_true rfl⟩ hl.1 (Nat.le_of_ble_eq_true rfl) dX2_spreadFrom_49) hw (fun H locs hw => ?_)
      refine lv_ladd hx hb dX2_spreadFrom_52 ?_
      refine va_mmin_long hx hb (M.2.2.1.trans hl.1.symm) M.2.2.2.1 (M.2.2.2.2.1.use (tb 539 (by decide +kernel)) rfl) (M.2.2.2.2.1.use (tb 540 (by decide +kernel)) rfl) (M.2.2.2.2.1.use (tb 13 (by decide +kernel)) rfl) (M.2.2.2.2.1.use (tb 541 (by decide +kernel)) rfl) (Nat.le_of_ble_eq_true rfl) (Nat.le_of_ble_eq_true rfl) (Nat.le_of_ble_eq_true rfl) (Nat.le_of_ble_eq_true rfl) dX2_spreadFrom_53 ?_
      refine W.eq (g2 := F0 m 56 ls [.long (zminl ((zSp I u (L 7) k) ((zCleads I (32 + k) (nI u)).toNatClampNeg)) (((zSp I u (L 7) k) u) + (zCost I (32 + k)))), .int (zCleads I (32 + k) (nI u)), .ref (ad 7)]) rfl ?_
      refine z_lNast M hw (zc_t7 hC) hbe.1 ⟨hbe.2, by omega⟩ dX2_spreadFrom_56 (fun H locs hw => ?_)
      refine lv_iinc (v := nI (k + 1)) (lv' := [(2, .int (nI (k + 1))), (3, .int (zCleads I (32 + k) (nI u))), (0, .ref (ad 1)), (1, .int (nI u))]) hx hb dX2_spreadFrom_57 hl (k := 3) rfl (nI_succ _).symm (by decide) rfl (fun ls hl => ?_)
      refine lv_goto (tgt := 2) hx hb dX2_spreadFrom_60 (by decide) ?_
      exact ih_k hlt _ _ _ ⟨(by rw [zu_zs] at hw; rw [show zSp I u (L 7) (k + 1) = zSp1 I u (zSp I u (L 7) k) k from rfl, zSp1, if_neg c2]; exact hw), lv_sub hl [2, 3, 0] rfl⟩
set_option maxHeartbeats 4000000 in
set_option maxRecDepth 100000 in
theorem c_X2_lowestBestCable (l : Launch) (base : Nat) (D : va_G) (cA : Nat → ClassId) (ad : Nat → Nat) (ty : zTyp) (I : zIt) (L : zLt) (P : zPt) (ni nc ns nt : Nat) (hC : zcls ni nc ns nt ty P) (hn : I 1 1 = nI nc) (hE : zEnds I nc) (u : Nat) (hu : u < 10) : zMi l base D cA yX2_lowestBestCable cX2_lowestBestCable 4 .int 1 21 0 0 [.ref (ad 1), .int (nI u)] (zW base D cA ad ty I L P) (zoi (zfst (zLbc I (L 7) u) nc)) (zW base D cA ad ty I L P) := by
  refine z_start (by decide +kernel) (Nat.le_of_ble_eq_true rfl) fun p e s m below meth c ls M hP hS hl hr hlocks hnm => ?_
  have M : zM p s m c cX2_lowestBestCable RX2 4 base D cA := M
  have hw : zH base D cA s s.heap [] ad ty I L P := ⟨hP, hS⟩
  obtain ⟨hx, hb, -⟩ := id M
  have hl : lv_has ls 4 [(0, .ref (ad 1)), (1, .int (nI u))] := hl
  obtain ⟨hb1, hb2, hb3, hb4⟩ := zc_b hC
  refine lv_iconst (v := 0) hx hb dX2_lowestBestCable_0 (by decide) ?_
  refine lv_istore_n (lv' := [(2, .int 0), (0, .ref (ad 1)), (1, .int (nI u))]) hx hb dX2_lowestBestCable_1 rfl hl (by decide) rfl (fun ls hl => ?_)
  refine z_loop (nc) (fun (k : Nat) H locs ls => (∀ j, j < k → zLbc I (L 7) u j = false) ∧ zH base D cA s H locs ad ty I L P ∧ lv_has ls 4 [(0, .ref (ad 1)), (1, .int (nI u)), (2, .int (nI k))]) 0 ⟨(fun j hj => absurd hj (by omega)), hw, lv_sub hl [1, 2, 0] rfl⟩ (by omega) (fun k hk_k ih_k H locs ls hI => ?_)
  obtain ⟨hno, hw, hl⟩ := hI
  refine lv_iload_n hx hb dX2_lowestBestCable_2 rfl (lv_at hl 2 rfl) ?_
  refine lv_aload_n hx hb dX2_lowestBestCable_3 rfl (lv_at hl 0 rfl) ?_
  refine z_geti M hw (zc_t1 hC) zf_X2_17 dX2_lowestBestCable_4 ?_
  refine z_topi (y := nI nc) hn ?_
  refine lv_icmp_ge (tgt := 60) hx hb dX2_lowestBestCable_7 (by decide) (fun c1 => ?_) (fun c1 => ?_)
  · skip
    have hge : nc = k := Nat.le_antisymm (z_ge (show nI nc ≤ nI k from c1) (by omega) (by omega)) (by omega)
    subst hge
    refine lv_iconst (v := (-1)) hx hb dX2_lowestBestCable_60 (by decide) ?_
    exact z_iret hx hb hr (by rw [zfst_none hno]; rfl) rfl hw.2 hw.1 (Nat.le_of_ble_eq_true rfl) (Nat.le_of_ble_eq_true rfl) dX2_lowestBestCable_61 hlocks
  · skip
    have hlt : k < nc := z_lt (show ¬ nI nc ≤ nI k from c1) (by omega)
    refine lv_aload_n hx hb dX2_lowestBestCable_10 rfl (lv_at hl 0 rfl) ?_
    refine z_getr M hw (zc_t1 hC) zf_X2_11 (zc_p10 hC) dX2_lowestBestCable_11 ?_
    refine lv_iload_n hx hb dX2_lowestBestCable_14 rfl (lv_at hl 2 rfl) ?_
    refine z_aNald M hw (e9 := 3) (zc_t3 hC) ⟨by decide, rfl⟩ rfl ⟨by omega, by omega⟩ (zc_pC hC (by omega)) dX2_lowestBestCable_15 ?_
    refine lv_iload_n hx hb dX2_lowestBestCable_16 rfl (lv_at hl 1 rfl) ?_
    refine z_ci0 (z_runV (As := [.int (nI u)]) (rest := []) M hw (zc_tC hC (by omega)) zc_X2_64 (c_X0_leadsTo l base D cA ad ty I L P (32 + k) 0 (zc_tC hC (by omega)) (nI u)) hw.1 rfl rfl ⟨Nat.le_of_ble_eq_true rfl, Nat.le_of_ble_eq_true rfl⟩ ⟨Nat.le_of_ble_eq_true rfl, Nat.le_of_ble_eq_true rfl⟩ hl.1 (Nat.le_of_ble_eq_true rfl) dX2_lowestBestCable_17) hw (fun H locs hw => ?_)
    refine lv_istore_n (lv' := [(3, .int (zCleads I (32 + k) (nI u))), (0, .ref (ad 1)), (1, .int (nI u)), (2, .int (nI k))]) hx hb dX2_lowestBestCable_20 rfl hl (by decide) rfl (fun ls hl => ?_)
    refine lv_iload_n hx hb dX2_lowestBestCable_21 rfl (lv_at hl 0 rfl) ?_
    refine lv_iconst (v := (-1)) hx hb dX2_lowestBestCable_22 (by decide) ?_
    refine lv_icmp_eq (tgt := 54) hx hb dX2_lowestBestCable_23 (by decide) (fun c2 => ?_) (fun c2 => ?_)
    · skip
      refine lv_iinc (v := nI (k + 1)) (lv' := [(2, .int (nI (k + 1))), (3, .int (zCleads I (32 + k) (nI u))), (0, .ref (ad 1)), (1, .int (nI u))]) hx hb dX2_lowestBestCable_54 hl (k := 3) rfl (nI_succ _).symm (by decide) rfl (fun ls hl => ?_)
      refine lv_goto (tgt := 2) hx hb dX2_lowestBestCable_57 (by decide) ?_
      exact ih_k hlt _ _ _ ⟨(fun j hj => by
            rcases Nat.lt_or_ge j k with q | q
            · exact hno j q
            · have e : j = k := by omega
              subst e; simp [zLbc, c2]), hw, lv_sub hl [2, 3, 0] rfl⟩
    · skip
      have hbe := zCl_in (x := nI u) hE (show k < nc by omega) c2
      refine lv_aload_n hx hb dX2_lowestBestCable_26 rfl (lv_at hl 1 rfl) ?_
      refine z_getr M hw (zc_t1 hC) zf_X2_28 (zc_p14 hC) dX2_lowestBestCable_27 ?_
      refine lv_iload_n hx hb dX2_lowestBestCable_30 rfl (lv_at hl 2 rfl) ?_
      refine z_lNald M hw (zc_t7 hC) rfl ⟨by omega, by omega⟩ dX2_lowestBestCable_31 ?_
      refine lv_aload_n hx hb dX2_lowestBestCable_32 rfl (lv_at hl 1 rfl) ?_
      refine z_getr M hw (zc_t1 hC) zf_X2_28 (zc_p14 hC) dX2_lowestBestCable_33 ?_
      refine lv_iload_n hx hb dX2_lowestBestCable_36 rfl (lv_at hl 0 rfl) ?_
      refine z_lNald M hw (zc_t7 hC) hbe.1 ⟨hbe.2, by omega⟩ dX2_lowestBestCable_37 ?_
      refine lv_aload_n hx hb dX2_lowestBestCable_38 rfl (lv_at hl 1 rfl) ?_
      refine z_getr M hw (zc_t1 hC) zf_X2_11 (zc_p10 hC) dX2_lowestBestCable_39 ?_
      refine lv_iload_n hx hb dX2_lowestBestCable_42 rfl (lv_at hl 3 rfl) ?_
      refine z_aNald M hw (e9 := 3) (zc_t3 hC) ⟨by decide, rfl⟩ rfl ⟨by omega, by omega⟩ (zc_pC hC (by omega)) dX2_lowestBestCable_43 ?_
      refine z_cl0 (z_runV (As := []) (rest := [.long (L 7 ((zCleads I (32 + k) (nI u)).toNatClampNeg)), .long (L 7 u)]) M hw (zc_tC hC (by omega)) zc_X2_79 (c_X0_cost l base D cA ad ty I L P (32 + k) 0 (zc_tC hC (by omega))) hw.1 rfl rfl ⟨Nat.le_of_ble_eq_true rfl, Nat.le_of_ble_eq_true rfl⟩ ⟨Nat.le_of_ble_eq_true rfl, Nat.le_of_ble_eq_true rfl⟩ hl.1 (Nat.le_of_ble_eq_true rfl) dX2_lowestBestCable_44) hw (fun H locs hw => ?_)
      refine lv_ladd hx hb dX2_lowestBestCable_47 ?_
      refine W.lcmp hx hb dX2_lowestBestCable_48 ?_
      refine lv_if_ne (tgt := 54) hx hb dX2_lowestBestCable_49 (by decide) (fun c3 => ?_) (fun c3 => ?_)
      · skip
        refine lv_iinc (v := nI (k + 1)) (lv' := [(2, .int (nI (k + 1))), (3, .int (zCleads I (32 + k) (nI u))), (0, .ref (ad 1)), (1, .int (nI u))]) hx hb dX2_lowestBestCable_54 hl (k := 3) rfl (nI_succ _).symm (by decide) rfl (fun ls hl => ?_)
        refine lv_goto (tgt := 2) hx hb dX2_lowestBestCable_57 (by decide) ?_
        exact ih_k hlt _ _ _ ⟨(fun j hj => by
              rcases Nat.lt_or_ge j k with q | q
              · exact hno j q
              · have e : j = k := by omega
                subst e; simp [zLbc, c3]), hw, lv_sub hl [2, 3, 0] rfl⟩
      · skip
        refine lv_iload_n hx hb dX2_lowestBestCable_52 rfl (lv_at hl 3 rfl) ?_
        exact z_iret hx hb hr (by rw [zfst_some hlt (by simp [zLbc, c2, c3]) hno]; rfl) rfl hw.2 hw.1 (Nat.le_of_ble_eq_true rfl) (Nat.le_of_ble_eq_true rfl) dX2_lowestBestCable_53 hlocks
set_option maxHeartbeats 4000000 in
set_option maxRecDepth 100000 in
theorem c_X2_measureTo (l : Launch) (base : Nat) (D : va_G) (cA : Nat → ClassId) (ad : Nat → Nat) (ty : zTyp) (I : zIt) (L : zLt) (P : zPt) (ni nc ns nt : Nat) (hC : zcls ni nc ns nt ty P) (hn : I 1 1 = nI nc) (hE : zEnds I nc) (v : Nat) (hv : v < 10) : zMv l base D cA yX2_measureTo cX2_measureTo 5 2 46 0 0 [.ref (ad 1), .int (nI v)] (zW base D cA ad ty I L P) (zW base D cA ad ty I (zs L 7 (zMt I nc (zM0 (L 7) v) 10).2) P) := by
  refine z_start (by decide +kernel) (Nat.le_of_ble_eq_true rfl) fun p e s m below meth c ls M hP hS hl hr hlocks hnm => ?_
  have M : zM p s m c cX2_measureTo RX2 5 base D cA := M
  have hw : zH base D cA s s.heap [] ad ty I L P := ⟨hP, hS⟩
  obtain ⟨hx, hb, -⟩ := id M
  have hl : lv_has ls 5 [(0, .ref (ad 1)), (1, .int (nI v))] := hl
  obtain ⟨hb1, hb2, hb3, hb4⟩ := zc_b hC
  refine lv_aload_n hx hb dX2_measureTo_0 rfl (lv_at hl 0 rfl) ?_
  refine z_getr M hw (zc_t1 hC) zf_X2_28 (zc_p14 hC) dX2_measureTo_1 ?_
  refine lv_ldc2 (v := 1152921504606846976) hx hb M.2.2.2.1 (M.2.2.2.2.1.use (tb 519 (by decide +kernel)) rfl) dX2_measureTo_4 ?_
  refine z_cv0 (z_runS (As := [.ref (ad 7), .long 1152921504606846976]) (rest := []) M hw.2 zc_X2_67 (c_J7_fill_d0a16 l base D cA ad ty I L P 7 10 1152921504606846976 (zc_t7 hC) (by omega)) hw.1 rfl rfl ⟨Nat.le_of_ble_eq_true rfl, Nat.le_of_ble_eq_true rfl⟩ ⟨Nat.le_of_ble_eq_true rfl, Nat.le_of_ble_eq_true rfl⟩ hl.1 (Nat.le_of_ble_eq_true rfl) dX2_measureTo_7) hw (fun H locs hw => ?_)
  rw [zfl_row] at hw
  refine lv_aload_n hx hb dX2_measureTo_10 rfl (lv_at hl 0 rfl) ?_
  refine z_getr M hw (zc_t1 hC) zf_X2_28 (zc_p14 hC) dX2_measureTo_11 ?_
  refine lv_iload_n hx hb dX2_measureTo_14 rfl (lv_at hl 1 rfl) ?_
  refine lv_lconst (v := 0) hx hb dX2_measureTo_15 (by decide) ?_
  refine z_lNast M hw (zc_t7 hC) rfl ⟨by omega, by omega⟩ dX2_measureTo_16 (fun H locs hw => ?_)
  refine lv_iconst (v := 0) hx hb dX2_measureTo_17 (by decide) ?_
  refine lv_istore_n (lv' := [(2, .int 0), (0, .ref (ad 1)), (1, .int (nI v))]) hx hb dX2_measureTo_18 rfl hl (by decide) rfl (fun ls hl => ?_)
  refine lv_iconst (v := 0) hx hb dX2_measureTo_19 (by decide) ?_
  refine lv_istore_n (lv' := [(3, .int 0), (2, .int 0), (0, .ref (ad 1)), (1, .int (nI v))]) hx hb dX2_measureTo_20 rfl hl (by decide) rfl (fun ls hl => ?_)
  refine z_loop (10) (fun (k : Nat) H locs ls => ∃ (st : Int32), (st = (zMt I nc (zM0 (L 7) v) k).1) ∧ zH base D cA s H locs ad ty I (zs L 7 (zMt I nc (zM0 (L 7) v) k).2) P ∧ lv_has ls 5 [(0, .ref (ad 1)), (1, .int (nI v)), (2, .int st), (3, .int (nI k))]) 0 ⟨_, rfl, (by rw [zu_zs] at hw; exact hw), lv_sub hl [2, 3, 1, 0] rfl⟩ (by omega) (fun k hk_k ih_k H locs ls hI => ?_)
  obtain ⟨st, hst, hw, hl⟩ := hI
  refine lv_iload_n hx hb dX2_measureTo_21 rfl (lv_at hl 3 rfl) ?_
  refine lv_bipush (v := 10) hx hb dX2_measureTo_22 (by decide) ?_
  refine lv_icmp_ge (tgt := 60) hx hb dX2_measureTo_24 (by decide) (fun c1 => ?_) (fun c1 => ?_)
  · skip
    have hge : 10 = k := Nat.le_antisymm (z_ge (show nI 10 ≤ nI k from c1) (by omega) (by omega)) (by omega)
    subst hge
    exact z_vret hx hb hr hw.2 hw.1 (Nat.le_of_ble_eq_true rfl) (Nat.le_of_ble_eq_true rfl) dX2_measureTo_60 hlocks
  · skip
    have hlt : k < 10 := z_lt (show ¬ nI 10 ≤ nI k from c1) (by omega)
    refine lv_aload_n hx hb dX2_measureTo_27 rfl (lv_at hl 0 rfl) ?_
    refine lv_iload_n hx hb dX2_measureTo_28 rfl (lv_at hl 2 rfl) ?_
    refine z_ci0 (z_runV (As := [.int st]) (rest := []) M hw (zc_t1 hC) zc_X2_73 (c_X2_nearestBeside l base D cA ad ty I (zs L 7 (zMt I nc (zM0 (L 7) v) k).2) P ni nc ns nt hC st) hw.1 rfl rfl ⟨Nat.le_of_ble_eq_true rfl, Nat.le_of_ble_eq_true rfl⟩ ⟨Nat.le_of_ble_eq_true rfl, Nat.le_of_ble_eq_true rfl⟩ hl.1 (Nat.le_of_ble_eq_true rfl) dX2_measureTo_29) hw (fun H locs hw => ?_)
    rw [zs_self, hst]
    refine lv_istore (lv' := [(4, .int ((zNb (zMt I nc (zM0 (L 7) v) k).2 (zMt I nc (zM0 (L 7) v) k).1 10).1)), (0, .ref (ad 1)), (1, .int (nI v)), (2, .int st), (3, .int (nI k))]) hx hb dX2_measureTo_32 hl (by decide) rfl (fun ls hl => ?_)
    refine lv_iload hx hb dX2_measureTo_34 (lv_at hl 0 rfl) ?_
    refine lv_iconst (v := (-1)) hx hb dX2_measureTo_36 (by decide) ?_
    refine lv_icmp_ne (tgt := 41) hx hb dX2_measureTo_37 (by decide) (fun c2 => ?_) (fun c2 => ?_)
    · skip
      obtain ⟨w, hw10, ew⟩ : ∃ w, w < 10 ∧ (zNb (zMt I nc (zM0 (L 7) v) k).2 (zMt I nc (zM0 (L 7) v) k).1 10).1 = nI w := ⟨_, (zNb_ix c2).2, (zNb_ix c2).1⟩
      rw [ew] at hl
      refine lv_iload_n hx hb dX2_measureTo_41 rfl (lv_at hl 3 rfl) ?_
      refine lv_iconst (v := 1) hx hb dX2_measureTo_42 (by decide) ?_
      refine lv_iload hx hb dX2_measureTo_43 (lv_at hl 0 rfl) ?_
      refine lv_ishl hx hb dX2_measureTo_45 ?_
      refine lv_ior hx hb dX2_measureTo_46 ?_
      refine lv_topi (fun x3 ex3 => ?_)
      refine lv_istore_n (lv' := [(2, .int x3), (4, .int (nI w)), (0, .ref (ad 1)), (1, .int (nI v)), (3, .int (nI k))]) hx hb dX2_measureTo_47 rfl hl (by decide) rfl (fun ls hl => ?_)
      refine lv_aload_n hx hb dX2_measureTo_48 rfl (lv_at hl 2 rfl) ?_
      refine lv_iload hx hb dX2_measureTo_49 (lv_at hl 1 rfl) ?_
      refine z_cv0 (z_runV (As := [.int (nI w)]) (rest := []) M hw (zc_t1 hC) zc_X2_76 (c_X2_spreadFrom l base D cA ad ty I (zs L 7 (zMt I nc (zM0 (L 7) v) k).2) P ni nc ns nt hC hn hE w hw10) hw.1 rfl rfl ⟨Nat.le_of_ble_eq_true rfl, Nat.le_of_ble_eq_true rfl⟩ ⟨Nat.le_of_ble_eq_true rfl, Nat.le_of_ble_eq_true rfl⟩ hl.1 (Nat.le_of_ble_eq_true rfl) dX2_measureTo_51) hw (fun H locs hw => ?_)
      rw [zs_zs, zs_self] at hw
      refine lv_iinc (v := nI (k + 1)) (lv' := [(3, .int (nI (k + 1))), (2, .int x3), (4, .int (nI w)), (0, .ref (ad 1)), (1, .int (nI v))]) hx hb dX2_measureTo_54 hl (k := 4) rfl (nI_succ _).symm (by decide) rfl (fun ls hl => ?_)
      refine lv_goto (tgt := 21) hx hb dX2_measureTo_57 (by decide) ?_
      exact ih_k hlt _ _ _ ⟨_, (by rw [show zMt I nc (zM0 (L 7) v) (k + 1) = zMt1 I nc (zMt I nc (zM0 (L 7) v) k) from rfl, zMt1, if_neg c2]; simp only [ex3, hst, ew, nI_clamp (show w < 2 ^ 31 by omega)]), (by rw [show zMt I nc (zM0 (L 7) v) (k + 1) = zMt1 I nc (zMt I nc (zM0 (L 7) v) k) from rfl, zMt1, if_neg c2]; simp only [ew, nI_clamp (show w < 2 ^ 31 by omega)]; exact hw), lv_sub hl [3, 4, 1, 0] rfl⟩
    · skip
      exact z_vret hx hb hr hw.2 (by have h := zMt_stop (by assumption) (10 - k); rw [show k + (10 - k) = 10 by omega] at h; rw [h]; exact hw.1) (Nat.le_of_ble_eq_true rfl) (Nat.le_of_ble_eq_true rfl) dX2_measureTo_40 hlocks
end
section
def zLow (f : Nat → Int32) (a b : Nat) (x : Int32) : Nat → Int32 :=
  if f a = -1 then f else if f b = -1 then zs f b (f a + x) else if f b ≤ f a + x then f else zs f b (f a + x)
def zPr1 (I : zIt) (f : Nat → Int32) (i : Nat) : Nat → Int32 :=
  if I (32 + i) 5 = 0 then zLow (zLow f (I (32 + i) 0).toNatClampNeg (I (32 + i) 1).toNatClampNeg (I (32 + i) 4)) (I (32 + i) 1).toNatClampNeg (I (32 + i) 0).toNatClampNeg (I (32 + i) 4) else f
def zPr (I : zIt) (f : Nat → Int32) : Nat → Nat → Int32
  | 0 => f
  | k + 1 => zPr1 I (zPr I f k) k
/-- rounds: the first one is 1 -/
def zPrr (I : zIt) (nc : Nat) (f : Nat → Int32) : Nat → Nat → Int32
  | 0 => f
  | k + 1 => zPr I (zPrr I nc f k) nc
def zS0 (f : Nat → Int32) (u : Nat) : Nat → Int32 := zs (fun b => if b < 10 then -1 else f b) u 0
def zRe1 (I : zIt) (r : Int32) (i : Nat) : Int32 :=
  if I (32 + i) 5 = 0 then (if r &&& (1 <<< (I (32 + i) 0 &&& 31) ||| 1 <<< (I (32 + i) 1 &&& 31)) = 0 then r else r ||| (1 <<< (I (32 + i) 0 &&& 31) ||| 1 <<< (I (32 + i) 1 &&& 31))) else r
def zRe (I : zIt) (r : Int32) : Nat → Int32
  | 0 => r
  | k + 1 => zRe1 I (zRe I r k) k
def zRer (I : zIt) (nc : Nat) (r : Int32) : Nat → Int32
  | 0 => r
  | k + 1 => zRe I (zRer I nc r k) nc
def zRf1 (code : Int32) (q : Nat × (Nat → Int32)) (j : Nat) : Nat × (Nat → Int32) := if q.2 j = code then q else (q.1 + 1, zs q.2 q.1 (q.2 j))
def zRf (code : Int32) (f : Nat → Int32) : Nat → Nat × (Nat → Int32)
  | 0 => (0, f)
  | k + 1 => zRf1 code (zRf code f k) k
theorem zRf_le (code : Int32) (f : Nat → Int32) : ∀ k, (zRf code f k).1 ≤ k := by
  intro k
  induction k with
  | zero => exact Nat.le_refl 0
  | succ k ih =>
    show (zRf1 code (zRf code f k) k).1 ≤ k + 1
    unfold zRf1
    split
    · omega
    · simp only; omega
/-- a trader's way, as it lies in its cells κ (way) and ρ (row) -/
def zWay (I : zIt) (κ ρ : Nat) (len P D : Int32) (row : Nat → Int32) : zIt := fun a => if a = κ then (fun b => if b = 1 then len else if b = 2 then P else if b = 3 then D else I κ b) else if a = ρ then row else I a
theorem zWay_ne {I : zIt} {κ ρ a : Nat} {len P D : Int32} {row : Nat → Int32} (h1 : a ≠ κ) (h2 : a ≠ ρ) : zWay I κ ρ len P D row a = I a := by simp [zWay, h1, h2]
theorem zWay_row {I : zIt} {κ ρ : Nat} {len P D : Int32} {row : Nat → Int32} (h : ρ ≠ κ) : zWay I κ ρ len P D row ρ = row := by simp [zWay, h]
theorem zWay_1 {I : zIt} {κ ρ : Nat} {len P D : Int32} {row : Nat → Int32} : zWay I κ ρ len P D row κ 1 = len := by simp [zWay]
theorem zWay_2 {I : zIt} {κ ρ : Nat} {len P D : Int32} {row : Nat → Int32} : zWay I κ ρ len P D row κ 2 = P := by simp [zWay]
theorem zWay_3 {I : zIt} {κ ρ : Nat} {len P D : Int32} {row : Nat → Int32} : zWay I κ ρ len P D row κ 3 = D := by simp [zWay]
theorem zWay_set {I : zIt} {κ ρ : Nat} {a b c : Int32} (h : ρ ≠ κ) : zu (zu (zu I κ 1 a) κ 2 b) κ 3 c = zWay I κ ρ a b c (I ρ) := by
  funext x y
  by_cases h1 : x = κ
  · subst h1
    by_cases h2 : y = 3
    · subst h2; simp [zu, zWay]
    · by_cases h3 : y = 2
      · subst h3; simp [zu, zWay]
      · by_cases h4 : y = 1
        · subst h4; simp [zu, zWay]
        · simp [zu, zWay, h2, h3, h4]
  · by_cases h2 : x = ρ
    · subst h2; simp [zu, zWay, h1]
    · simp [zu, zWay, h1, h2]
theorem zWay_again {I : zIt} {κ ρ : Nat} {len P D a b c : Int32} {row : Nat → Int32} (h : ρ ≠ κ) : zu (zu (zu (zWay I κ ρ len P D row) κ 1 a) κ 2 b) κ 3 c = zWay I κ ρ a b c row := by
  rw [zWay_set h, zWay_row h]
  funext x y
  by_cases h1 : x = κ
  · subst h1
    by_cases y1 : y = 1
    · simp [zWay, y1]
    · by_cases y2 : y = 2
      · simp [zWay, y2]
      · by_cases y3 : y = 3
        · simp [zWay, y3]
        · simp [zWay, y1, y2, y3]
  · by_cases h2 : x = ρ
    · subst h2; simp [zWay, h1]
    · simp [zWay, h1, h2]
theorem zWay_add {I : zIt} {κ ρ j : Nat} {len P D q a b c : Int32} {row : Nat → Int32} (h : ρ ≠ κ) : zu (zu (zu (zu (zWay I κ ρ len P D row) ρ j q) κ 1 a) κ 2 b) κ 3 c = zWay I κ ρ a b c (zs row j q) := by
  have e : zu (zWay I κ ρ len P D row) ρ j q = zWay I κ ρ len P D (zs row j q) := by
    rw [zu_row, zWay_row h]
    funext x y
    by_cases h1 : x = ρ
    · subst h1; simp [zWay, zs, h]
    · by_cases h2 : x = κ
      · subst h2; simp [zWay, zs, h1]
      · simp [zWay, zs, h1, h2]
  rw [e, zWay_again h]
end
section
set_option maxHeartbeats 4000000 in
set_option maxRecDepth 100000 in
theorem c_X2_faultCode (l : Launch) (base : Nat) (D : va_G) (cA : Nat → ClassId) (ad : Nat → Nat) (ty : zTyp) (I : zIt) (L : zLt) (P : zPt) (x y : Int32) : zMi l base D cA yX2_faultCode cX2_faultCode 2 .int 0 0 0 0 [.int x, .int y] (zW base D cA ad ty I L P) (8 * x + y) (zW base D cA ad ty I L P) := by
  refine z_start (by decide +kernel) (Nat.le_of_ble_eq_true rfl) fun p e s m below meth c ls M hP hS hl hr hlocks hnm => ?_
  have M : zM p s m c cX2_faultCode RX2 2 base D cA := M
  have hw : zH base D cA s s.heap [] ad ty I L P := ⟨hP, hS⟩
  obtain ⟨hx, hb, -⟩ := id M
  have hl : lv_has ls 2 [(0, .int x), (1, .int y)] := hl
  refine lv_bipush (v := 8) hx hb dX2_faultCode_0 (by decide) ?_
  refine lv_iload_n hx hb dX2_faultCode_2 rfl (lv_at hl 0 rfl) ?_
  refine lv_imul hx hb dX2_faultCode_3 ?_
  refine lv_iload_n hx hb dX2_faultCode_4 rfl (lv_at hl 1 rfl) ?_
  refine lv_iadd hx hb dX2_faultCode_5 ?_
  exact z_iret hx hb hr (by rfl) rfl hw.2 hw.1 (Nat.le_of_ble_eq_true rfl) (Nat.le_of_ble_eq_true rfl) dX2_faultCode_6 hlocks
set_option maxHeartbeats 4000000 in
set_option maxRecDepth 100000 in
theorem c_X2_lowerSum (l : Launch) (base : Nat) (D : va_G) (cA : Nat → ClassId) (ad : Nat → Nat) (ty : zTyp) (I : zIt) (L : zLt) (P : zPt) (ni nc ns nt : Nat) (hC : zcls ni nc ns nt ty P) (a b : Nat) (ha : a < 10) (hb0 : b < 10) (x : Int32) : zMv l base D cA yX2_lowerSum cX2_lowerSum 4 0 0 0 0 [.ref (ad 1), .int (nI a), .int (nI b), .int x] (zW base D cA ad ty I L P) (zW base D cA ad ty (zs I 8 (zLow (I 8) a b x)) L P) := by
  refine z_start (by decide +kernel) (Nat.le_of_ble_eq_true rfl) fun p e s m below meth c ls M hP hS hl hr hlocks hnm => ?_
  have M : zM p s m c cX2_lowerSum RX2 4 base D cA := M
  have hw : zH base D cA s s.heap [] ad ty I L P := ⟨hP, hS⟩
  obtain ⟨hx, hb, -⟩ := id M
  have hl : lv_has ls 4 [(0, .ref (ad 1)), (1, .int (nI a)), (2, .int (nI b)), (3, .int x)] := hl
  obtain ⟨hb1, hb2, hb3, hb4⟩ := zc_b hC
  refine lv_aload_n hx hb dX2_lowerSum_0 rfl (lv_at hl 0 rfl) ?_
  refine z_getr M hw (zc_t1 hC) zf_X2_32 (zc_p15 hC) dX2_lowerSum_1 ?_
  refine lv_iload_n hx hb dX2_lowerSum_4 rfl (lv_at hl 1 rfl) ?_
  refine z_iNald M hw (zc_t8 hC) rfl ⟨by omega, by omega⟩ dX2_lowerSum_5 ?_
  refine lv_iconst (v := (-1)) hx hb dX2_lowerSum_6 (by decide) ?_
  refine lv_icmp_eq (tgt := 51) hx hb dX2_lowerSum_7 (by decide) (fun c1 => ?_) (fun c1 => ?_)
  · skip
    exact z_vret hx hb hr hw.2 (by unfold zLow; (try first | rw [if_pos c1] | rw [if_neg c1]); rw [zs_id]; exact hw.1) (Nat.le_of_ble_eq_true rfl) (Nat.le_of_ble_eq_true rfl) dX2_lowerSum_51 hlocks
  · skip
    refine lv_aload_n hx hb dX2_lowerSum_10 rfl (lv_at hl 0 rfl) ?_
    refine z_getr M hw (zc_t1 hC) zf_X2_32 (zc_p15 hC) dX2_lowerSum_11 ?_
    refine lv_iload_n hx hb dX2_lowerSum_14 rfl (lv_at hl 2 rfl) ?_
    refine z_iNald M hw (zc_t8 hC) rfl ⟨by omega, by omega⟩ dX2_lowerSum_15 ?_
    refine lv_iconst (v := (-1)) hx hb dX2_lowerSum_16 (by decide) ?_
    refine lv_icmp_eq (tgt := 37) hx hb dX2_lowerSum_17 (by decide) (fun c2 => ?_) (fun c2 => ?_)
    · skip
      refine lv_aload_n hx hb dX2_lowerSum_37 rfl (lv_at hl 0 rfl) ?_
      refine z_getr M hw (zc_t1 hC) zf_X2_32 (zc_p15 hC) dX2_lowerSum_38 ?_
      refine lv_iload_n hx hb dX2_lowerSum_41 rfl (lv_at hl 2 rfl) ?_
      refine lv_aload_n hx hb dX2_lowerSum_42 rfl (lv_at hl 0 rfl) ?_
      refine z_getr M hw (zc_t1 hC) zf_X2_32 (zc_p15 hC) dX2_lowerSum_43 ?_
      refine lv_iload_n hx hb dX2_lowerSum_46 rfl (lv_at hl 1 rfl) ?_
      refine z_iNald M hw (zc_t8 hC) rfl ⟨by omega, by omega⟩ dX2_lowerSum_47 ?_
      refine lv_iload_n hx hb dX2_lowerSum_48 rfl (lv_at hl 3 rfl) ?_
      refine lv_iadd hx hb dX2_lowerSum_49 ?_
      refine z_iNast M hw (zc_t8 hC) rfl ⟨by omega, by omega⟩ dX2_lowerSum_50 (fun H locs hw => ?_)
      exact z_vret hx hb hr hw.2 (by unfold zLow; (try first | rw [if_pos c1] | rw [if_neg c1]); (try first | rw [if_pos c2] | rw [if_neg c2]); rw [zu_row] at hw; exact hw.1) (Nat.le_of_ble_eq_true rfl) (Nat.le_of_ble_eq_true rfl) dX2_lowerSum_51 hlocks
    · skip
      refine lv_aload_n hx hb dX2_lowerSum_20 rfl (lv_at hl 0 rfl) ?_
      refine z_getr M hw (zc_t1 hC) zf_X2_32 (zc_p15 hC) dX2_lowerSum_21 ?_
      refine lv_iload_n hx hb dX2_lowerSum_24 rfl (lv_at hl 1 rfl) ?_
      refine z_iNald M hw (zc_t8 hC) rfl ⟨by omega, by omega⟩ dX2_lowerSum_25 ?_
      refine lv_iload_n hx hb dX2_lowerSum_26 rfl (lv_at hl 3 rfl) ?_
      refine lv_iadd hx hb dX2_lowerSum_27 ?_
      refine lv_aload_n hx hb dX2_lowerSum_28 rfl (lv_at hl 0 rfl) ?_
      refine z_getr M hw (zc_t1 hC) zf_X2_32 (zc_p15 hC) dX2_lowerSum_29 ?_
      refine lv_iload_n hx hb dX2_lowerSum_32 rfl (lv_at hl 2 rfl) ?_
      refine z_iNald M hw (zc_t8 hC) rfl ⟨by omega, by omega⟩ dX2_lowerSum_33 ?_
      refine lv_icmp_ge (tgt := 51) hx hb dX2_lowerSum_34 (by decide) (fun c3 => ?_) (fun c3 => ?_)
      · skip
        exact z_vret hx hb hr hw.2 (by unfold zLow; (try first | rw [if_pos c1] | rw [if_neg c1]); (try first | rw [if_pos c2] | rw [if_neg c2]); (try first | rw [if_pos c3] | rw [if_neg c3]); rw [zs_id]; exact hw.1) (Nat.le_of_ble_eq_true rfl) (Nat.le_of_ble_eq_true rfl) dX2_lowerSum_51 hlocks
      · skip
        refine lv_aload_n hx hb dX2_lowerSum_37 rfl (lv_at hl 0 rfl) ?_
        refine z_getr M hw (zc_t1 hC) zf_X2_32 (zc_p15 hC) dX2_lowerSum_38 ?_
        refine lv_iload_n hx hb dX2_lowerSum_41 rfl (lv_at hl 2 rfl) ?_
        refine lv_aload_n hx hb dX2_lowerSum_42 rfl (lv_at hl 0 rfl) ?_
        refine z_getr M hw (zc_t1 hC) zf_X2_32 (zc_p15 hC) dX2_lowerSum_43 ?_
        refine lv_iload_n hx hb dX2_lowerSum_46 rfl (lv_at hl 1 rfl) ?_
        refine z_iNald M hw (zc_t8 hC) rfl ⟨by omega, by omega⟩ dX2_lowerSum_47 ?_
        refine lv_iload_n hx hb dX2_lowerSum_48 rfl (lv_at hl 3 rfl) ?_
        refine lv_iadd hx hb dX2_lowerSum_49 ?_
        refine z_iNast M hw (zc_t8 hC) rfl ⟨by omega, by omega⟩ dX2_lowerSum_50 (fun H locs hw => ?_)
        exact z_vret hx hb hr hw.2 (by unfold zLow; (try first | rw [if_pos c1] | rw [if_neg c1]); (try first | rw [if_pos c2] | rw [if_neg c2]); (try first | rw [if_pos c3] | rw [if_neg c3]); rw [zu_row] at hw; exact hw.1) (Nat.le_of_ble_eq_true rfl) (Nat.le_of_ble_eq_true rfl) dX2_lowerSum_51 hlocks
set_option maxHeartbeats 4000000 in
set_option maxRecDepth 100000 in
theorem c_X2_priceByRounds (l : Launch) (base : Nat) (D : va_G) (cA : Nat → ClassId) (ad : Nat → Nat) (ty : zTyp) (I : zIt) (L : zLt) (P : zPt) (ni nc ns nt : Nat) (hC : zcls ni nc ns nt ty P) (hn : I 1 1 = nI nc) (hE : zEnds I nc) (u v : Nat) (hu : u < 10) (hv : v < 10) : zMi l base D cA yX2_priceByRounds cX2_priceByRounds 5 .int 1 23 0 0 [.ref (ad 1), .int (nI u), .int (nI v)] (zW base D cA ad ty I L P) (zPrr I nc (zS0 (I 8) u) 9 v) (zW base D cA ad ty (zs I 8 (zPrr I nc (zS0 (I 8) u) 9)) L P) := by
  refine z_start (by decide +kernel) (Nat.le_of_ble_eq_true rfl) fun p e s m below meth c ls M hP hS hl hr hlocks hnm => ?_
  have M : zM p s m c cX2_priceByRounds RX2 5 base D cA := M
  have hw : zH base D cA s s.heap [] ad ty I L P := ⟨hP, hS⟩
  obtain ⟨hx, hb, -⟩ := id M
  have hl : lv_has ls 5 [(0, .ref (ad 1)), (1, .int (nI u)), (2, .int (nI v))] := hl
  obtain ⟨hb1, hb2, hb3, hb4⟩ := zc_b hC
  refine lv_aload_n hx hb dX2_priceByRounds_0 rfl (lv_at hl 0 rfl) ?_
  refine z_getr M hw (zc_t1 hC) zf_X2_32 (zc_p15 hC) dX2_priceByRounds_1 ?_
  refine lv_iconst (v := (-1)) hx hb dX2_priceByRounds_4 (by decide) ?_
  refine z_cv0 (z_runS (As := [.ref (ad 8), .int (-1)]) (rest := []) M hw.2 zc_X2_89 (c_J7_fill_53178 l base D cA ad ty I L P 8 10 (-1) (zc_t8 hC) (by omega)) hw.1 rfl rfl ⟨Nat.le_of_ble_eq_true rfl, Nat.le_of_ble_eq_true rfl⟩ ⟨Nat.le_of_ble_eq_true rfl, Nat.le_of_ble_eq_true rfl⟩ hl.1 (Nat.le_of_ble_eq_true rfl) dX2_priceByRounds_5) hw (fun H locs hw => ?_)
  rw [zfl_rowi] at hw
  refine lv_aload_n hx hb dX2_priceByRounds_8 rfl (lv_at hl 0 rfl) ?_
  refine z_getr M hw (zc_t1 hC) zf_X2_32 (zc_p15 hC) dX2_priceByRounds_9 ?_
  refine lv_iload_n hx hb dX2_priceByRounds_12 rfl (lv_at hl 1 rfl) ?_
  refine lv_iconst (v := 0) hx hb dX2_priceByRounds_13 (by decide) ?_
  refine z_iNast M hw (zc_t8 hC) rfl ⟨by omega, by omega⟩ dX2_priceByRounds_14 (fun H locs hw => ?_)
  refine lv_iconst (v := 1) hx hb dX2_priceByRounds_15 (by decide) ?_
  refine lv_istore_n (lv' := [(3, .int 1), (0, .ref (ad 1)), (1, .int (nI u)), (2, .int (nI v))]) hx hb dX2_priceByRounds_16 rfl hl (by decide) rfl (fun ls hl => ?_)
  refine z_loop (9) (fun (g : Nat) H locs ls => zH base D cA s H locs ad ty (zs I 8 (zPrr I nc (zS0 (I 8) u) g)) L P ∧ lv_has ls 5 [(0, .ref (ad 1)), (1, .int (nI u)), (2, .int (nI v)), (3, .int (nI (g + 1)))]) 0 ⟨(by rw [zu_zs] at hw; exact hw), lv_sub hl [1, 2, 3, 0] rfl⟩ (by omega) (fun g hk_g ih_g H locs ls hI => ?_)
  obtain ⟨hw, hl⟩ := hI
  refine lv_iload_n hx hb dX2_priceByRounds_17 rfl (lv_at hl 3 rfl) ?_
  refine lv_bipush (v := 10) hx hb dX2_priceByRounds_18 (by decide) ?_
  refine lv_icmp_ge (tgt := 128) hx hb dX2_priceByRounds_20 (by decide) (fun c1 => ?_) (fun c1 => ?_)
  · skip
    have hge : 9 = g := by have := z_ge (show nI 10 ≤ nI (g + 1) from c1) (by omega) (by omega); omega
    subst hge
    refine lv_aload_n hx hb dX2_priceByRounds_128 rfl (lv_at hl 0 rfl) ?_
    refine z_getr M hw (zc_t1 hC) zf_X2_32 (zc_p15 hC) dX2_priceByRounds_129 ?_
    refine lv_iload_n hx hb dX2_priceByRounds_132 rfl (lv_at hl 2 rfl) ?_
    refine z_iNald M hw (zc_t8 hC) rfl ⟨by omega, by omega⟩ dX2_priceByRounds_133 ?_
    refine z_topi (y := (zPrr I nc (zS0 (I 8) u) 9) v) (by rw [zs_self]) ?_
    exact z_iret hx hb hr (by rfl) rfl hw.2 hw.1 (Nat.le_of_ble_eq_true rfl) (Nat.le_of_ble_eq_true rfl) dX2_priceByRounds_134 hlocks
  · skip
    have hltg : g < 9 := by have := z_lt (show ¬ nI 10 ≤ nI (g + 1) from c1) (by omega); omega
    refine lv_iconst (v := 0) hx hb dX2_priceByRounds_23 (by decide) ?_
    refine lv_istore (lv' := [(4, .int 0), (0, .ref (ad 1)), (1, .int (nI u)), (2, .int (nI v)), (3, .int (nI (g + 1)))]) hx hb dX2_priceByRounds_24 hl (by decide) rfl (fun ls hl => ?_)
    refine z_loop (nc) (fun (k : Nat) H locs ls => zH base D cA s H locs ad ty (zs I 8 (zPr I (zPrr I nc (zS0 (I 8) u) g) k)) L P ∧ lv_has ls 5 [(0, .ref (ad 1)), (1, .int (nI u)), (2, .int (nI v)), (3, .int (nI (g + 1))), (4, .int (nI k))]) 0 ⟨hw, lv_sub hl [1, 2, 3, 4, 0] rfl⟩ (by omega) (fun k hk_k ih_k H locs ls hI => ?_)
    obtain ⟨hw, hl⟩ := hI
    refine lv_iload hx hb dX2_priceByRounds_26 (lv_at hl 4 rfl) ?_
    refine lv_aload_n hx hb dX2_priceByRounds_28 rfl (lv_at hl 0 rfl) ?_
    refine z_geti M hw (zc_t1 hC) zf_X2_17 dX2_priceByRounds_29 ?_
    refine z_topi (y := I 1 1) (by rw [zs_ne _ _ (by omega)]) ?_
    refine z_topi (y := nI nc) hn ?_
    refine lv_icmp_ge (tgt := 122) hx hb dX2_priceByRounds_32 (by decide) (fun c2 => ?_) (fun c2 => ?_)
    · skip
      have hge : nc = k := Nat.le_antisymm (z_ge (show nI nc ≤ nI k from c2) (by omega) (by omega)) (by omega)
      subst hge
      refine lv_iinc (v := nI ((g + 1) + 1)) (lv' := [(3, .int (nI ((g + 1) + 1))), (0, .ref (ad 1)), (1, .int (nI u)), (2, .int (nI v)), (4, .int (nI nc))]) hx hb dX2_priceByRounds_122 hl (k := 3) rfl (nI_succ _).symm (by decide) rfl (fun ls hl => ?_)
      refine lv_goto (tgt := 17) hx hb dX2_priceByRounds_125 (by decide) ?_
      exact ih_g hltg _ _ _ ⟨hw, lv_sub hl [1, 2, 3, 0] rfl⟩
    · skip
      have hltk : k < nc := z_lt (show ¬ nI nc ≤ nI k from c2) (by omega)
      obtain ⟨⟨a, ha, ea⟩, b, hb0, eb⟩ := hE k hltk
      refine lv_aload_n hx hb dX2_priceByRounds_35 rfl (lv_at hl 0 rfl) ?_
      refine z_getr M hw (zc_t1 hC) zf_X2_11 (zc_p10 hC) dX2_priceByRounds_36 ?_
      refine lv_iload hx hb dX2_priceByRounds_39 (lv_at hl 4 rfl) ?_
      refine z_aNald M hw (e9 := 3) (zc_t3 hC) ⟨by decide, rfl⟩ rfl ⟨by omega, by omega⟩ (zc_pC hC (by omega)) dX2_priceByRounds_41 ?_
      refine z_ci0 (z_runV (As := []) (rest := []) M hw (zc_tC hC (by omega)) zc_X2_92 (c_X0_isWorking l base D cA ad ty (zs I 8 (zPr I (zPrr I nc (zS0 (I 8) u) g) k)) L P (32 + k) 0 (zc_tC hC (by omega))) hw.1 rfl rfl ⟨Nat.le_of_ble_eq_true rfl, Nat.le_of_ble_eq_true rfl⟩ ⟨Nat.le_of_ble_eq_true rfl, Nat.le_of_ble_eq_true rfl⟩ hl.1 (Nat.le_of_ble_eq_true rfl) dX2_priceByRounds_42) hw (fun H locs hw => ?_)
      refine lv_if_eq (tgt := 116) hx hb dX2_priceByRounds_45 (by decide) (fun c3 => ?_) (fun c3 => ?_)
      · skip
        have c3 := zb_eq0.mp c3
        rw [zs_ne _ _ (show 32 + k ≠ 8 by omega)] at c3
        refine lv_iinc (v := nI (k + 1)) (lv' := [(4, .int (nI (k + 1))), (0, .ref (ad 1)), (1, .int (nI u)), (2, .int (nI v)), (3, .int (nI (g + 1)))]) hx hb dX2_priceByRounds_116 hl (k := 4) rfl (nI_succ _).symm (by decide) rfl (fun ls hl => ?_)
        refine lv_goto (tgt := 26) hx hb dX2_priceByRounds_119 (by decide) ?_
        exact ih_k hltk _ _ _ ⟨(by rw [show zPr I (zPrr I nc (zS0 (I 8) u) g) (k + 1) = zPr1 I (zPr I (zPrr I nc (zS0 (I 8) u) g) k) k from rfl, zPr1, if_neg c3]; exact hw), lv_sub hl [1, 2, 3, 4, 0] rfl⟩
      · skip
        have c3 := zb_ne0.mp c3
        rw [zs_ne _ _ (show 32 + k ≠ 8 by omega)] at c3
        refine lv_aload_n hx hb dX2_priceByRounds_48 rfl (lv_at hl 0 rfl) ?_
        refine lv_aload_n hx hb dX2_priceByRounds_49 rfl (lv_at hl 0 rfl) ?_
        refine z_getr M hw (zc_t1 hC) zf_X2_11 (zc_p10 hC) dX2_priceByRounds_50 ?_
        refine lv_iload hx hb dX2_priceByRounds_53 (lv_at hl 4 rfl) ?_
        refine z_aNald M hw (e9 := 3) (zc_t3 hC) ⟨by decide, rfl⟩ rfl ⟨by omega, by omega⟩ (zc_pC hC (by omega)) dX2_priceByRounds_55 ?_
        refine z_geti M hw (zc_tC hC (by omega)) zf_X2_96 dX2_priceByRounds_56 ?_
        refine z_topi (y := I (32 + k) 0) (by rw [zs_ne _ _ (by omega)]) ?_
        refine z_topi (y := nI a) ea ?_
        refine lv_aload_n hx hb dX2_priceByRounds_59 rfl (lv_at hl 0 rfl) ?_
        refine z_getr M hw (zc_t1 hC) zf_X2_11 (zc_p10 hC) dX2_priceByRounds_60 ?_
        refine lv_iload hx hb dX2_priceByRounds_63 (lv_at hl 4 rfl) ?_
        refine z_aNald M hw (e9 := 3) (zc_t3 hC) ⟨by decide, rfl⟩ rfl ⟨by omega, by omega⟩ (zc_pC hC (by omega)) dX2_priceByRounds_65 ?_
        refine z_geti M hw (zc_tC hC (by omega)) zf_X2_99 dX2_priceByRounds_66 ?_
        refine z_topi (y := I (32 + k) 1) (by rw [zs_ne _ _ (by omega)]) ?_
        refine z_topi (y := nI b) eb ?_
        refine lv_aload_n hx hb dX2_priceByRounds_69 rfl (lv_at hl 0 rfl) ?_
        refine z_getr M hw (zc_t1 hC) zf_X2_11 (zc_p10 hC) dX2_priceByRounds_70 ?_
        refine lv_iload hx hb dX2_priceByRounds_73 (lv_at hl 4 rfl) ?_
        refine z_aNald M hw (e9 := 3) (zc_t3 hC) ⟨by decide, rfl⟩ rfl ⟨by omega, by omega⟩ (zc_pC hC (by omega)) dX2_priceByRounds_75 ?_
        refine z_geti M hw (zc_tC hC (by omega)) zf_X2_102 dX2_priceByRounds_76 ?_
        refine z_topi (y := I (32 + k) 4) (by rw [zs_ne _ _ (by omega)]) ?_
        refine z_cv0 (z_runV (As := [.int (nI a), .int (nI b), .int (I (32 + k) 4)]) (rest := []) M hw (zc_t1 hC) zc_X2_105 (c_X2_lowerSum l base D cA ad ty (zs I 8 (zPr I (zPrr I nc (zS0 (I 8) u) g) k)) L P ni nc ns nt hC a b (by omega) (by omega) (I (32 + k) 4)) hw.1 rfl rfl ⟨Nat.le_of_ble_eq_true rfl, Nat.le_of_ble_eq_true rfl⟩ ⟨Nat.le_of_ble_eq_true rfl, Nat.le_of_ble_eq_true rfl⟩ hl.1 (Nat.le_of_ble_eq_true rfl) dX2_priceByRounds_79) hw (fun H locs hw => ?_)
        rw [zs_zs, zs_self] at hw
        refine lv_aload_n hx hb dX2_priceByRounds_82 rfl (lv_at hl 0 rfl) ?_
        refine lv_aload_n hx hb dX2_priceByRounds_83 rfl (lv_at hl 0 rfl) ?_
        refine z_getr M hw (zc_t1 hC) zf_X2_11 (zc_p10 hC) dX2_priceByRounds_84 ?_
        refine lv_iload hx hb dX2_priceByRounds_87 (lv_at hl 4 rfl) ?_
        refine z_aNald M hw (e9 := 3) (zc_t3 hC) ⟨by decide, rfl⟩ rfl ⟨by omega, by omega⟩ (zc_pC hC (by omega)) dX2_priceByRounds_89 ?_
        refine z_geti M hw (zc_tC hC (by omega)) zf_X2_99 dX2_priceByRounds_90 ?_
        refine z_topi (y := I (32 + k) 1) (by rw [zs_ne _ _ (by omega)]) ?_
        refine z_topi (y := nI b) eb ?_
        refine lv_aload_n hx hb dX2_priceByRounds_93 rfl (lv_at hl 0 rfl) ?_
        refine z_getr M hw (zc_t1 hC) zf_X2_11 (zc_p10 hC) dX2_priceByRounds_94 ?_
        refine lv_iload hx hb dX2_priceByRounds_97 (lv_at hl 4 rfl) ?_
        refine z_aNald M hw (e9 := 3) (zc_t3 hC) ⟨by decide, rfl⟩ rfl ⟨by omega, by omega⟩ (zc_pC hC (by omega)) dX2_priceByRounds_99 ?_
        refine z_geti M hw (zc_tC hC (by omega)) zf_X2_96 dX2_priceByRounds_100 ?_
        refine z_topi (y := I (32 + k) 0) (by rw [zs_ne _ _ (by omega)]) ?_
        refine z_topi (y := nI a) ea ?_
        refine lv_aload_n hx hb dX2_priceByRounds_103 rfl (lv_at hl 0 rfl) ?_
        refine z_getr M hw (zc_t1 hC) zf_X2_11 (zc_p10 hC) dX2_priceByRounds_104 ?_
        refine lv_iload hx hb dX2_priceByRounds_107 (lv_at hl 4 rfl) ?_
        refine z_aNald M hw (e9 := 3) (zc_t3 hC) ⟨by decide, rfl⟩ rfl ⟨by omega, by omega⟩ (zc_pC hC (by omega)) dX2_priceByRounds_109 ?_
        refine z_geti M hw (zc_tC hC (by omega)) zf_X2_102 dX2_priceByRounds_110 ?_
        refine z_topi (y := I (32 + k) 4) (by rw [zs_ne _ _ (by omega)]) ?_
        refine z_cv0 (z_runV (As := [.int (nI b), .int (nI a), .int (I (32 + k) 4)]) (rest := []) M hw (zc_t1 hC) zc_X2_105 (c_X2_lowerSum l base D cA ad ty (zs I 8 (zLow (zPr I (zPrr I nc (zS0 (I 8) u) g) k) a b (I (32 + k) 4))) L P ni nc ns nt hC b a (by omega) (by omega) (I (32 + k) 4)) hw.1 rfl rfl ⟨Nat.le_of_ble_eq_true rfl, Nat.le_of_ble_eq_true rfl⟩ ⟨Nat.le_of_ble_eq_true rfl, Nat.le_of_ble_eq_true rfl⟩ hl.1 (Nat.le_of_ble_eq_true rfl) dX2_priceByRounds_113) hw (fun H locs hw => ?_)
        rw [zs_zs, zs_self] at hw
        refine lv_iinc (v := nI (k + 1)) (lv' := [(4, .int (nI (k + 1))), (0, .ref (ad 1)), (1, .int (nI u)), (2, .int (nI v)), (3, .int (nI (g + 1)))]) hx hb dX2_priceByRounds_116 hl (k := 4) rfl (nI_succ _).symm (by decide) rfl (fun ls hl => ?_)
        refine lv_goto (tgt := 26) hx hb dX2_priceByRounds_119 (by decide) ?_
        exact ih_k hltk _ _ _ ⟨(by rw [show zPr I (zPrr I nc (zS0 (I 8) u) g) (k + 1) = zPr1 I (zPr I (zPrr I nc (zS0 (I 8) u) g) k) k from rfl, zPr1, if_pos c3, ea, eb, nI_clamp (show a < 2 ^ 31 by omega), nI_clamp (show b < 2 ^ 31 by omega)]; exact hw), lv_sub hl [1, 2, 3, 4, 0] rfl⟩
set_option maxHeartbeats 4000000 in
set_option maxRecDepth 100000 in
theorem c_X2_reachedFrom (l : Launch) (base : Nat) (D : va_G) (cA : Nat → ClassId) (ad : Nat → Nat) (ty : zTyp) (I : zIt) (L : zLt) (P : zPt) (ni nc ns nt : Nat) (hC : zcls ni nc ns nt ty P) (hn : I 1 1 = nI nc) (u : Nat) (hu : u < 10) : zMi l base D cA yX2_reachedFrom cX2_reachedFrom 6 .int 1 20 0 0 [.ref (ad 1), .int (nI u)] (zW base D cA ad ty I L P) (zRer I nc (1 <<< (nI u &&& 31)) 9) (zW base D cA ad ty I L P) := by
  refine z_start (by decide +kernel) (Nat.le_of_ble_eq_true rfl) fun p e s m below meth c ls M hP hS hl hr hlocks hnm => ?_
  have M : zM p s m c cX2_reachedFrom RX2 6 base D cA := M
  have hw : zH base D cA s s.heap [] ad ty I L P := ⟨hP, hS⟩
  obtain ⟨hx, hb, -⟩ := id M
  have hl : lv_has ls 6 [(0, .ref (ad 1)), (1, .int (nI u))] := hl
  obtain ⟨hb1, hb2, hb3, hb4⟩ := zc_b hC
  refine lv_iconst (v := 1) hx hb dX2_reachedFrom_0 (by decide) ?_
  refine lv_iload_n hx hb dX2_reachedFrom_1 rfl (lv_at hl 1 rfl) ?_
  refine lv_ishl hx hb dX2_reachedFrom_2 ?_
  refine lv_topi (fun x1 ex1 => ?_)
  refine lv_istore_n (lv' := [(2, .int x1), (0, .ref (ad 1)), (1, .int (nI u))]) hx hb dX2_reachedFrom_3 rfl hl (by decide) rfl (fun ls hl => ?_)
  refine lv_iconst (v := 1) hx hb dX2_reachedFrom_4 (by decide) ?_
  refine lv_istore_n (lv' := [(3, .int 1), (2, .int x1), (0, .ref (ad 1)), (1, .int (nI u))]) hx hb dX2_reachedFrom_5 rfl hl (by decide) rfl (fun ls hl => ?_)
  refine z_loop (9) (fun (g : Nat) H locs ls => ∃ (r : Int32), (r = zRer I nc (1 <<< (nI u &&& 31)) g) ∧ zH base D cA s H locs ad ty I L P ∧ lv_has ls 6 [(0, .ref (ad 1)), (1, .int (nI u)), (2, .int r), (3, .int (nI (g + 1)))]) 0 ⟨_, (by first | rfl | assumption), hw, lv_sub hl [2, 3, 1, 0] rfl⟩ (by omega) (fun g hk_g ih_g H locs ls hI => ?_)
  obtain ⟨r, hre, hw, hl⟩ := hI
  refine lv_iload_n hx hb dX2_reachedFrom_6 rfl (lv_at hl 3 rfl) ?_
  refine lv_bipush (v := 10) hx hb dX2_reachedFrom_7 (by decide) ?_
  refine lv_icmp_ge (tgt := 88) hx hb dX2_reachedFrom_9 (by decide) (fun c2 => ?_) (fun c2 => ?_)
  · skip
    have hge : 9 = g := by have := z_ge (show nI 10 ≤ nI (g + 1) from c2) (by omega) (by omega); omega
    subst hge
    refine lv_iload_n hx hb dX2_reachedFrom_88 rfl (lv_at hl 2 rfl) ?_
    exact z_iret hx hb hr hre rfl hw.2 hw.1 (Nat.le_of_ble_eq_true rfl) (Nat.le_of_ble_eq_true rfl) dX2_reachedFrom_89 hlocks
  · skip
    have hltg : g < 9 := by have := z_lt (show ¬ nI 10 ≤ nI (g + 1) from c2) (by omega); omega
    refine lv_iconst (v := 0) hx hb dX2_reachedFrom_12 (by decide) ?_
    refine lv_istore (lv' := [(4, .int 0), (0, .ref (ad 1)), (1, .int (nI u)), (2, .int r), (3, .int (nI (g + 1)))]) hx hb dX2_reachedFrom_13 hl (by decide) rfl (fun ls hl => ?_)
    refine z_loop (nc) (fun (k : Nat) H locs ls => ∃ (r : Int32), (r = (zRe I (zRer I nc (1 <<< (nI u &&& 31)) g) k)) ∧ zH base D cA s H locs ad ty I L P ∧ lv_has ls 6 [(0, .ref (ad 1)), (1, .int (nI u)), (2, .int r), (3, .int (nI (g + 1))), (4, .int (nI k))]) 0 ⟨_, (by first | exact hre | rfl), hw, lv_sub hl [1, 2, 3, 4, 0] rfl⟩ (by omega) (fun k hk_k ih_k H locs ls hI => ?_)
    obtain ⟨r, hre, hw, hl⟩ := hI
    refine lv_iload hx hb dX2_reachedFrom_15 (lv_at hl 4 rfl) ?_
    refine lv_aload_n hx hb dX2_reachedFrom_17 rfl (lv_at hl 0 rfl) ?_
    refine z_geti M hw (zc_t1 hC) zf_X2_17 dX2_reachedFrom_18 ?_
    refine z_topi (y := nI nc) hn ?_
    refine lv_icmp_ge (tgt := 82) hx hb dX2_reachedFrom_21 (by decide) (fun c3 => ?_) (fun c3 => ?_)
    · skip
      have hge : nc = k := Nat.le_antisymm (z_ge (show nI nc ≤ nI k from c3) (by omega) (by omega)) (by omega)
      subst hge
      refine lv_iinc (v := nI ((g + 1) + 1)) (lv' := [(3, .int (nI ((g + 1) + 1))), (0, .ref (ad 1)), (1, .int (nI u)), (2, .int r), (4, .int (nI nc))]) hx hb dX2_reachedFrom_82 hl (k := 3) rfl (nI_succ _).symm (by decide) rfl (fun ls hl => ?_)
      refine lv_goto (tgt := 6) hx hb dX2_reachedFrom_85 (by decide) ?_
      exact ih_g hltg _ _ _ ⟨_, (by rw [hre]; rfl), hw, lv_sub hl [1, 2, 3, 0] rfl⟩
    · skip
      have hltk : k < nc := z_lt (show ¬ nI nc ≤ nI k from c3) (by omega)
      refine lv_iconst (v := 1) hx hb dX2_reachedFrom_24 (by decide) ?_
      refine lv_aload_n hx hb dX2_reachedFrom_25 rfl (lv_at hl 0 rfl) ?_
      refine z_getr M hw (zc_t1 hC) zf_X2_11 (zc_p10 hC) dX2_reachedFrom_26 ?_
      refine lv_iload hx hb dX2_reachedFrom_29 (lv_at hl 4 rfl) ?_
      refine z_aNald M hw (e9 := 3) (zc_t3 hC) ⟨by decide, rfl⟩ rfl ⟨by omega, by omega⟩ (zc_pC hC (by omega)) dX2_reachedFrom_31 ?_
      refine z_geti M hw (zc_tC hC (by omega)) zf_X2_96 dX2_reachedFrom_32 ?_
      refine lv_ishl hx hb dX2_reachedFrom_35 ?_
      refine lv_iconst (v := 1) hx hb dX2_reachedFrom_36 (by decide) ?_
      refine lv_aload_n hx hb dX2_reachedFrom_37 rfl (lv_at hl 0 rfl) ?_
      refine z_getr M hw (zc_t1 hC) zf_X2_11 (zc_p10 hC) dX2_reachedFrom_38 ?_
      refine lv_iload hx hb dX2_reachedFrom_41 (lv_at hl 4 rfl) ?_
      refine z_aNald M hw (e9 := 3) (zc_t3 hC) ⟨by decide, rfl⟩ rfl ⟨by omega, by omega⟩ (zc_pC hC (by omega)) dX2_reachedFrom_43 ?_
      refine z_geti M hw (zc_tC hC (by omega)) zf_X2_99 dX2_reachedFrom_44 ?_
      refine lv_ishl hx hb dX2_reachedFrom_47 ?_
      refine lv_ior hx hb dX2_reachedFrom_48 ?_
      refine lv_topi (fun x4 ex4 => ?_)
      refine lv_istore (lv' := [(5, .int x4), (0, .ref (ad 1)), (1, .int (nI u)), (2, .int r), (3, .int (nI (g + 1))), (4, .int (nI k))]) hx hb dX2_reachedFrom_49 hl (by decide) rfl (fun ls hl => ?_)
      refine lv_aload_n hx hb dX2_reachedFrom_51 rfl (lv_at hl 1 rfl) ?_
      refine z_getr M hw (zc_t1 hC) zf_X2_11 (zc_p10 hC) dX2_reachedFrom_52 ?_
      refine lv_iload hx hb dX2_reachedFrom_55 (lv_at hl 5 rfl) ?_
      refine z_aNald M hw (e9 := 3) (zc_t3 hC) ⟨by decide, rfl⟩ rfl ⟨by omega, by omega⟩ (zc_pC hC (by omega)) dX2_reachedFrom_57 ?_
      refine z_ci0 (z_runV (As := []) (rest := []) M hw (zc_tC hC (by omega)) zc_X2_92 (c_X0_isWorking l base D cA ad ty I L P (32 + k) 0 (zc_tC hC (by omega))) hw.1 rfl rfl ⟨Nat.le_of_ble_eq_true rfl, Nat.le_of_ble_eq_true rfl⟩ ⟨Nat.le_of_ble_eq_true rfl, Nat.le_of_ble_eq_true rfl⟩ hl.1 (Nat.le_of_ble_eq_true rfl) dX2_reachedFrom_58) hw (fun H locs hw => ?_)
      refine lv_if_eq (tgt := 76) hx hb dX2_reachedFrom_61 (by decide) (fun c5 => ?_) (fun c5 => ?_)
      · skip
        have c5 := zb_eq0.mp c5
        refine lv_iinc (v := nI (k + 1)) (lv' := [(4, .int (nI (k + 1))), (5, .int x4), (0, .ref (ad 1)), (1, .int (nI u)), (2, .int r), (3, .int (nI (g + 1)))]) hx hb dX2_reachedFrom_76 hl (k := 5) rfl (nI_succ _).symm (by decide) rfl (fun ls hl => ?_)
        refine lv_goto (tgt := 15) hx hb dX2_reachedFrom_79 (by decide) ?_
        exact ih_k hltk _ _ _ ⟨_, (by rw [show zRe I (zRer I nc (1 <<< (nI u &&& 31)) g) (k + 1) = zRe1 I (zRe I (zRer I nc (1 <<< (nI u &&& 31)) g) k) k from rfl, zRe1]; subst hre; subst ex1; subst ex4; (try first | rw [if_pos c2] | rw [if_neg c2]); (try first | rw [if_pos c3] | rw [if_neg c3]); (try first | rw [if_pos c5] | rw [if_neg c5])), hw, lv_sub hl [2, 3, 4, 5, 0] rfl⟩
      · skip
        have c5 := zb_ne0.mp c5
        refine lv_iload_n hx hb dX2_reachedFrom_64 rfl (lv_at hl 3 rfl) ?_
        refine lv_iload hx hb dX2_reachedFrom_65 (lv_at hl 0 rfl) ?_
        refine lv_iand hx hb dX2_reachedFrom_67 ?_
        refine lv_if_eq (tgt := 76) hx hb dX2_reachedFrom_68 (by decide) (fun c6 => ?_) (fun c6 => ?_)
        · skip
          refine lv_iinc (v := nI (k + 1)) (lv' := [(4, .int (nI (k + 1))), (5, .int x4), (0, .ref (ad 1)), (1, .int (nI u)), (2, .int r), (3, .int (nI (g + 1)))]) hx hb dX2_reachedFrom_76 hl (k := 5) rfl (nI_succ _).symm (by decide) rfl (fun ls hl => ?_)
          refine lv_goto (tgt := 15) hx hb dX2_reachedFrom_79 (by decide) ?_
          exact ih_k hltk _ _ _ ⟨_, (by rw [show zRe I (zRer I nc (1 <<< (nI u &&& 31)) g) (k + 1) = zRe1 I (zRe I (zRer I nc (1 <<< (nI u &&& 31)) g) k) k from rfl, zRe1]; subst hre; subst ex1; subst ex4; (try first | rw [if_pos c2] | rw [if_neg c2]); (try first | rw [if_pos c3] | rw [if_neg c3]); (try first | rw [if_pos c5] | rw [if_neg c5]); (try first | rw [if_pos c6] | rw [if_neg c6])), hw, lv_sub hl [2, 3, 4, 5, 0] rfl⟩
        · skip
          refine lv_iload_n hx hb dX2_reachedFrom_71 rfl (lv_at hl 3 rfl) ?_
          refine lv_iload hx hb dX2_reachedFrom_72 (lv_at hl 0 rfl) ?_
          refine lv_ior hx hb dX2_reachedFrom_74 ?_
          refine lv_topi (fun x7 ex7 => ?_)
          refine lv_istore_n (lv' := [(2, .int x7), (5, .int x4), (0, .ref (ad 1)), (1, .int (nI u)), (3, .int (nI (g + 1))), (4, .int (nI k))]) hx hb dX2_reachedFrom_75 rfl hl (by decide) rfl (fun ls hl => ?_)
          refine lv_iinc (v := nI (k + 1)) (lv' := [(4, .int (nI (k + 1))), (2, .int x7), (5, .int x4), (0, .ref (ad 1)), (1, .int (nI u)), (3, .int (nI (g + 1)))]) hx hb dX2_reachedFrom_76 hl (k := 5) rfl (nI_succ _).symm (by decide) rfl (fun ls hl => ?_)
          refine lv_goto (tgt := 15) hx hb dX2_reachedFrom_79 (by decide) ?_
          exact ih_k hltk _ _ _ ⟨_, (by rw [show zRe I (zRer I nc (1 <<< (nI u &&& 31)) g) (k + 1) = zRe1 I (zRe I (zRer I nc (1 <<< (nI u &&& 31)) g) k) k from rfl, zRe1]; subst hre; subst ex1; subst ex4; subst ex7; (try first | rw [if_pos c2] | rw [if_neg c2]); (try first | rw [if_pos c3] | rw [if_neg c3]); (try first | rw [if_pos c5] | rw [if_neg c5]); (try first | rw [if_pos c6] | rw [if_neg c6])), hw, lv_sub hl [3, 4, 1, 5, 0] rfl⟩
end
section
theorem zCl_c {I I' : zIt} {κ : Nat} (h : I' κ = I κ) (x : Int32) : zCleads I' κ x = zCleads I κ x := by unfold zCleads; rw [h]
theorem zCost_c {I I' : zIt} {κ : Nat} (h : I' κ = I κ) : zCost I' κ = zCost I κ := by unfold zCost; rw [h]
theorem zSp_c {I I' : zIt} {nc : Nat} (h : ∀ i, i < nc → I' (32 + i) = I (32 + i)) (u : Nat) (f : Nat → Int64) : ∀ k, k ≤ nc → zSp I' u f k = zSp I u f k := by
  intro k
  induction k with
  | zero => intro _; rfl
  | succ k ih =>
    intro hk
    show zSp1 I' u (zSp I' u f k) k = zSp1 I u (zSp I u f k) k
    rw [ih (by omega)]
    unfold zSp1
    rw [zCl_c (h k (by omega)), zCost_c (h k (by omega))]
theorem zMt_c {I I' : zIt} {nc : Nat} (h : ∀ i, i < nc → I' (32 + i) = I (32 + i)) (f : Nat → Int64) : ∀ k, zMt I' nc f k = zMt I nc f k := by
  intro k
  induction k with
  | zero => rfl
  | succ k ih =>
    show zMt1 I' nc (zMt I' nc f k) = zMt1 I nc (zMt I nc f k)
    rw [ih]
    unfold zMt1
    rw [zSp_c h _ _ nc (Nat.le_refl _)]
theorem zLbc_c {I I' : zIt} {nc : Nat} (h : ∀ i, i < nc → I' (32 + i) = I (32 + i)) (f : Nat → Int64) (u : Nat) : zfst (zLbc I' f u) nc = zfst (zLbc I f u) nc := by
  refine zfst_congr fun j hj => ?_
  unfold zLbc
  rw [zCl_c (h j hj), zCost_c (h j hj)]
theorem zEnds_c {I I' : zIt} {nc : Nat} (h : ∀ i, i < nc → I' (32 + i) = I (32 + i)) (hE : zEnds I nc) : zEnds I' nc := fun i hi => by rw [h i hi]; exact hE i hi
/-- going a way: here, how many cables, prices, delays, the row -/
abbrev zFq : Type := Nat × Nat × Int32 × Int32 × (Nat → Int32)
def zFw1 (I : zIt) (nc : Nat) (f : Nat → Int64) (v : Nat) (q : zFq) : zFq :=
  if q.1 = v then q else match zfst (zLbc I f q.1) nc with
    | none => q
    | some c => ((zCleads I (32 + c) (nI q.1)).toNatClampNeg, q.2.1 + 1, q.2.2.1 + I (32 + c) 4, q.2.2.2.1 + I (32 + c) 3, zs q.2.2.2.2 q.2.1 (nI c))
def zFw (I : zIt) (nc : Nat) (f : Nat → Int64) (v u : Nat) (row : Nat → Int32) : Nat → zFq
  | 0 => (u, 0, 0, 0, row)
  | k + 1 => zFw1 I nc f v (zFw I nc f v u row k)
theorem zFw_stop {I : zIt} {nc : Nat} {f : Nat → Int64} {v u : Nat} {row : Nat → Int32} {k : Nat} (h : zFw1 I nc f v (zFw I nc f v u row k) = zFw I nc f v u row k) : ∀ j, zFw I nc f v u row (k + j) = zFw I nc f v u row k := by
  intro j
  induction j with
  | zero => rfl
  | succ j ih =>
    show zFw1 I nc f v (zFw I nc f v u row (k + j)) = _
    rw [ih, h]
theorem zFw_at {I : zIt} {nc : Nat} {f : Nat → Int64} {v u : Nat} {row : Nat → Int32} {k : Nat} (h : (zFw I nc f v u row k).1 = v) (hk : k ≤ 9) : zFw I nc f v u row 9 = zFw I nc f v u row k := by
  have h1 := zFw_stop (I := I) (nc := nc) (f := f) (v := v) (u := u) (row := row) (k := k) (by unfold zFw1; rw [if_pos h]) (9 - k)
  rw [show k + (9 - k) = 9 by omega] at h1
  exact h1
theorem zFw_no {I : zIt} {nc : Nat} {f : Nat → Int64} {v u : Nat} {row : Nat → Int32} {k : Nat} (h : zfst (zLbc I f (zFw I nc f v u row k).1) nc = none) (hk : k ≤ 9) : zFw I nc f v u row 9 = zFw I nc f v u row k := by
  have h1 := zFw_stop (I := I) (nc := nc) (f := f) (v := v) (u := u) (row := row) (k := k) (by unfold zFw1; rw [h]; split <;> rfl) (9 - k)
  rw [show k + (9 - k) = 9 by omega] at h1
  exact h1
/-- the way's cells behind findWay -/
def zFound (I : zIt) (nc : Nat) (f : Nat → Int64) (u v t : Nat) : zIt :=
  if f u = zUNR then zWay I (80 + t) (96 + t) (-1) (-1) (-1) (I (96 + t))
  else zWay I (80 + t) (96 + t) (nI (zFw I nc f v u (I (96 + t)) 9).2.1) (zFw I nc f v u (I (96 + t)) 9).2.2.1 (zFw I nc f v u (I (96 + t)) 9).2.2.2.1 (zFw I nc f v u (I (96 + t)) 9).2.2.2.2
theorem nI_inj {a b : Nat} (h : nI a = nI b) (ha : a < 2 ^ 31) (hb : b < 2 ^ 31) : a = b := by
  rw [← nI_clamp ha, ← nI_clamp hb, h]
theorem nI_ne1 {k : Nat} (hk : k < 2 ^ 31) : ¬ nI k = -1 := by
  intro h
  have h1 := nI_toInt hk
  rw [h] at h1
  have h2 : (-1 : Int32).toInt = -1 := by decide
  omega
theorem zoi_some {o : Option Nat} (h : ¬ zoi o = -1) : ∃ c, o = some c ∧ zoi o = nI c := by
  cases o with
  | none => exact absurd rfl h
  | some c => exact ⟨c, rfl, rfl⟩
theorem zoi_none {o : Option Nat} {n : Nat} (h : zoi o = -1) (hn : ∀ c, o = some c → c < n) (hn2 : n < 2 ^ 31) : o = none := by
  cases o with
  | none => rfl
  | some c => exact absurd h (nI_ne1 (by have := hn c rfl; omega))
end
section
set_option maxHeartbeats 4000000 in
set_option maxRecDepth 100000 in
theorem c_X2_findWay (l : Launch) (base : Nat) (D : va_G) (cA : Nat → ClassId) (ad : Nat → Nat) (ty : zTyp) (I : zIt) (L : zLt) (P : zPt) (ni nc ns nt : Nat) (hC : zcls ni nc ns nt ty P) (hn : I 1 1 = nI nc) (hE : zEnds I nc) (u v t : Nat) (hu : u < 10) (hv : v < 10) (ht : t < nt) (hfin : ¬ (zMt I nc (zM0 (L 7) v) 10).2 u = zUNR → (zFw I nc (zMt I nc (zM0 (L 7) v) 10).2 v u (I (96 + t)) 9).1 = v) : zMv l base D cA yX2_findWay cX2_findWay 7 3 70 0 0 [.ref (ad 1), .int (nI u), .int (nI v), .ref (ad (80 + t))] (zW base D cA ad ty I L P) (zW base D cA ad ty (zFound I nc (zMt I nc (zM0 (L 7) v) 10).2 u v t) (zs L 7 (zMt I nc (zM0 (L 7) v) 10).2) P) := by
  refine z_start (by decide +kernel) (Nat.le_of_ble_eq_true rfl) fun p e s m below meth c ls M hP hS hl hr hlocks hnm => ?_
  have M : zM p s m c cX2_findWay RX2 7 base D cA := M
  have hw : zH base D cA s s.heap [] ad ty I L P := ⟨hP, hS⟩
  obtain ⟨hx, hb, -⟩ := id M
  have hl : lv_has ls 7 [(0, .ref (ad 1)), (1, .int (nI u)), (2, .int (nI v)), (3, .ref (ad (80 + t)))] := hl
  obtain ⟨hb1, hb2, hb3, hb4⟩ := zc_b hC
  refine lv_aload_n hx hb dX2_findWay_0 rfl (lv_at hl 3 rfl) ?_
  refine z_cv0 (z_runV (As := []) (rest := []) M hw (zc_tW hC (by omega)) zc_X2_42 (c_X5_end l base D cA ad ty I L P (80 + t) 0 (zc_tW hC ht)) hw.1 rfl rfl ⟨Nat.le_of_ble_eq_true rfl, Nat.le_of_ble_eq_true rfl⟩ ⟨Nat.le_of_ble_eq_true rfl, Nat.le_of_ble_eq_true rfl⟩ hl.1 (Nat.le_of_ble_eq_true rfl) dX2_findWay_1) hw (fun H locs hw => ?_)
  rw [zWay_set (ρ := 96 + t) (by omega)] at hw
  refine lv_aload_n hx hb dX2_findWay_4 rfl (lv_at hl 0 rfl) ?_
  refine lv_iload_n hx hb dX2_findWay_5 rfl (lv_at hl 2 rfl) ?_
  refine z_cv0 (z_runV (As := [.int (nI v)]) (rest := []) M hw (zc_t1 hC) zc_X2_47 (c_X2_measureTo l base D cA ad ty (zWay I (80 + t) (96 + t) (-1) (-1) (-1) (I (96 + t))) L P ni nc ns nt hC (by rw [zWay_ne (by omega) (by omega)]; exact hn) (zEnds_c (fun i hi => zWay_ne (by omega) (by omega)) hE) v hv) hw.1 rfl rfl ⟨Nat.le_of_ble_eq_true rfl, Nat.le_of_ble_eq_true rfl⟩ ⟨Nat.le_of_ble_eq_true rfl, Nat.le_of_ble_eq_true rfl⟩ hl.1 (Nat.le_of_ble_eq_true rfl) dX2_findWay_6) hw (fun H locs hw => ?_)
  rw [zMt_c (I := I) (fun i hi => zWay_ne (by omega) (by omega))] at hw
  refine lv_aload_n hx hb dX2_findWay_9 rfl (lv_at hl 0 rfl) ?_
  refine z_getr M hw (zc_t1 hC) zf_X2_28 (zc_p14 hC) dX2_findWay_10 ?_
  refine lv_iload_n hx hb dX2_findWay_13 rfl (lv_at hl 1 rfl) ?_
  refine z_lNald M hw (zc_t7 hC) rfl ⟨by omega, by omega⟩ dX2_findWay_14 ?_
  refine z_topl (y := ((zMt I nc (zM0 (L 7) v) 10).2) u) (by rw [zs_self]) ?_
  refine lv_ldc2 (v := 1152921504606846976) hx hb M.2.2.2.1 (M.2.2.2.2.1.use (tb 519 (by decide +kernel)) rfl) dX2_findWay_15 ?_
  refine W.lcmp hx hb dX2_findWay_18 ?_
  refine lv_if_ne (tgt := 23) hx hb dX2_findWay_19 (by decide) (fun c1 => ?_) (fun c1 => ?_)
  · skip
    have c1 := fun e => c1 ((lg_cmp_eq _ _).mpr e)
    obtain ⟨f, ef⟩ : ∃ f, f = (zMt I nc (zM0 (L 7) v) 10).2 := ⟨_, rfl⟩
    rw [← ef] at hfin
    have hfu : ¬ f u = zUNR := by rw [ef]; exact c1
    refine lv_aload_n hx hb dX2_findWay_23 rfl (lv_at hl 3 rfl) ?_
    refine z_cv0 (z_runV (As := []) (rest := []) M hw (zc_tW hC (by omega)) zc_X2_53 (c_X5_start l base D cA ad ty (zWay I (80 + t) (96 + t) (-1) (-1) (-1) (I (96 + t))) (zs L 7 (zMt I nc (zM0 (L 7) v) 10).2) P (80 + t) 0 (zc_tW hC ht)) hw.1 rfl rfl ⟨Nat.le_of_ble_eq_true rfl, Nat.le_of_ble_eq_true rfl⟩ ⟨Nat.le_of_ble_eq_true rfl, Nat.le_of_ble_eq_true rfl⟩ hl.1 (Nat.le_of_ble_eq_true rfl) dX2_findWay_24) hw (fun H locs hw => ?_)
    rw [zWay_again (by omega)] at hw
    refine lv_iload_n hx hb dX2_findWay_27 rfl (lv_at hl 1 rfl) ?_
    refine lv_istore (lv' := [(4, .int (nI u)), (0, .ref (ad 1)), (1, .int (nI u)), (2, .int (nI v)), (3, .ref (ad (80 + t)))]) hx hb dX2_findWay_28 hl (by decide) rfl (fun ls hl => ?_)
    refine lv_iconst (v := 0) hx hb dX2_findWay_30 (by decide) ?_
    refine lv_istore (lv' := [(5, .int 0), (4, .int (nI u)), (0, .ref (ad 1)), (1, .int (nI u)), (2, .int (nI v)), (3, .ref (ad (80 + t)))]) hx hb dX2_findWay_31 hl (by decide) rfl (fun ls hl => ?_)
    refine z_loop (9) (fun (k : Nat) H locs ls => ∃ (h : Nat), ∃ (p0 : Int32), ∃ (d0 : Int32), ∃ (r0 : Nat → Int32), (zFw I nc f v u (I (96 + t)) k = (h, k, p0, d0, r0)) ∧ (h < 10) ∧ zH base D cA s H locs ad ty (zWay I (80 + t) (96 + t) (nI k) p0 d0 r0) (zs L 7 f) P ∧ lv_has ls 7 [(0, .ref (ad 1)), (1, .int (nI u)), (2, .int (nI v)), (3, .ref (ad (80 + t))), (4, .int (nI h)), (5, .int (nI k))]) 0 ⟨_, _, _, _, rfl, hu, (by rw [← ef] at hw; exact hw), lv_sub hl [2, 3, 4, 5, 1, 0] rfl⟩ (by omega) (fun k hk_k ih_k H locs ls hI => ?_)
    obtain ⟨h, p0, d0, r0, hq, hh, hw, hl⟩ := hI
    refine lv_iload hx hb dX2_findWay_33 (lv_at hl 5 rfl) ?_
    refine lv_bipush (v := 10) hx hb dX2_findWay_35 (by decide) ?_
    refine lv_icmp_ge (tgt := 94) hx hb dX2_findWay_37 (by decide) (fun c2 => ?_) (fun c2 => ?_)
    · skip
      exact absurd (show nI 10 ≤ nI k from c2) (nI_ge (by omega) (by omega))
    · skip
      refine lv_iload hx hb dX2_findWay_40 (lv_at hl 4 rfl) ?_
      refine lv_iload_n hx hb dX2_findWay_42 rfl (lv_at hl 2 rfl) ?_
      refine lv_icmp_eq (tgt := 94) hx hb dX2_findWay_43 (by decide) (fun c3 => ?_) (fun c3 => ?_)
      · skip
        exact z_vret hx hb hr hw.2 (by unfold zFound; rw [← ef]; rw [if_neg hfu, zFw_at (by rw [hq]; exact nI_inj c3 (by omega) (by omega)) (by omega), hq]; exact hw.1) (Nat.le_of_ble_eq_true rfl) (Nat.le_of_ble_eq_true rfl) dX2_findWay_94 hlocks
      · skip
        have hne : ¬ h = v := fun e => c3 (by rw [e])
        have hk9 : k < 9 := by
          rcases Nat.lt_or_ge k 9 with q | q
          · exact q
          · have e9 : k = 9 := by omega
            subst e9
            have := hfin hfu
            rw [hq] at this
            exact absurd this hne
        refine lv_aload_n hx hb dX2_findWay_46 rfl (lv_at hl 0 rfl) ?_
        refine lv_iload hx hb dX2_findWay_47 (lv_at hl 4 rfl) ?_
        refine z_ci0 (z_runV (As := [.int (nI h)]) (rest := []) M hw (zc_t1 hC) zc_X2_56 (c_X2_lowestBestCable l base D cA ad ty (zWay I (80 + t) (96 + t) (nI k) p0 d0 r0) (zs L 7 f) P ni nc ns nt hC (by rw [zWay_ne (by omega) (by omega)]; exact hn) (zEnds_c (fun i hi => zWay_ne (by omega) (by omega)) hE) h hh) hw.1 rfl rfl ⟨Nat.le_of_ble_eq_true rfl, Nat.le_of_ble_eq_true rfl⟩ ⟨Nat.le_of_ble_eq_true rfl, Nat.le_of_ble_eq_true rfl⟩ hl.1 (Nat.le_of_ble_eq_true rfl) dX2_findWay_49) hw (fun H locs hw => ?_)
        rw [zs_self, zLbc_c (I := I) (fun i hi => zWay_ne (by omega) (by omega))]
        refine lv_istore (lv' := [(6, .int (zoi (zfst (zLbc I f h) nc))), (0, .ref (ad 1)), (1, .int (nI u)), (2, .int (nI v)), (3, .ref (ad (80 + t))), (4, .int (nI h)), (5, .int (nI k))]) hx hb dX2_findWay_52 hl (by decide) rfl (fun ls hl => ?_)
        refine lv_iload hx hb dX2_findWay_54 (lv_at hl 0 rfl) ?_
        refine lv_iconst (v := (-1)) hx hb dX2_findWay_56 (by decide) ?_
        refine lv_icmp_ne (tgt := 61) hx hb dX2_findWay_57 (by decide) (fun c4 => ?_) (fun c4 => ?_)
        · skip
          obtain ⟨c, ec, ecn⟩ := zoi_some c4
          obtain ⟨hcn, hct, -⟩ := zfst_spec ec
          rw [ecn] at hl
          have hbe := zCl_in (x := nI h) hE hcn (of_decide_eq_true hct).1
          refine lv_aload_n hx hb dX2_findWay_61 rfl (lv_at hl 4 rfl) ?_
          refine lv_iload hx hb dX2_findWay_62 (lv_at hl 0 rfl) ?_
          refine lv_aload_n hx hb dX2_findWay_64 rfl (lv_at hl 1 rfl) ?_
          refine z_getr M hw (zc_t1 hC) zf_X2_11 (zc_p10 hC) dX2_findWay_65 ?_
          refine lv_iload hx hb dX2_findWay_68 (lv_at hl 0 rfl) ?_
          refine z_aNald M hw (e9 := 3) (zc_t3 hC) ⟨by decide, rfl⟩ rfl ⟨by omega, by omega⟩ (zc_pC hC (by omega)) dX2_findWay_70 ?_
          refine z_cv0 (z_runV (As := [.int (nI c), .ref (ad (32 + c))]) (rest := []) M hw (zc_tW hC (by omega)) zc_X2_60 (c_X5_add l base D cA ad ty (zWay I (80 + t) (96 + t) (nI k) p0 d0 r0) (zs L 7 f) P (80 + t) 0 (zc_tW hC ht) (96 + t) (zc_tR hC ht) (zc_pR hC ht) (nI c) (32 + c) 0 (zc_tC hC hcn) k zWay_1 hk9 (by omega) (by omega) (by omega)) hw.1 rfl rfl ⟨Nat.le_of_ble_eq_true rfl, Nat.le_of_ble_eq_true rfl⟩ ⟨Nat.le_of_ble_eq_true rfl, Nat.le_of_ble_eq_true rfl⟩ hl.1 (Nat.le_of_ble_eq_true rfl) dX2_findWay_71) hw (fun H locs hw => ?_)
          simp only [zWay_2, zWay_3, zWay_ne (show 32 + c ≠ 80 + t by omega) (show 32 + c ≠ 96 + t by omega)] at hw
          rw [zWay_add (by omega)] at hw
          refine lv_aload_n hx hb dX2_findWay_74 rfl (lv_at hl 1 rfl) ?_
          refine z_getr M hw (zc_t1 hC) zf_X2_11 (zc_p10 hC) dX2_findWay_75 ?_
          refine lv_iload hx hb dX2_findWay_78 (lv_at hl 0 rfl) ?_
          refine z_aNald M hw (e9 := 3) (zc_t3 hC) ⟨by decide, rfl⟩ rfl ⟨by omega, by omega⟩ (zc_pC hC (by omega)) dX2_findWay_80 ?_
          refine lv_iload hx hb dX2_findWay_81 (lv_at hl 5 rfl) ?_
          refine z_ci0 (z_runV (As := [.int (nI h)]) (rest := []) M hw (zc_tC hC (by omega)) zc_X2_64 (c_X0_leadsTo l base D cA ad ty (zWay I (80 + t) (96 + t) (nI (k + 1)) (p0 + I (32 + c) 4) (d0 + I (32 + c) 3) (zs r0 k (nI c))) (zs L 7 f) P (32 + c) 0 (zc_tC hC hcn) (nI h)) hw.1 rfl rfl ⟨Nat.le_of_ble_eq_true rfl, Nat.le_of_ble_eq_true rfl⟩ ⟨Nat.le_of_ble_eq_true rfl, Nat.le_of_ble_eq_true rfl⟩ hl.1 (Nat.le_of_ble_eq_true rfl) dX2_findWay_83) hw (fun H locs hw => ?_)
          rw [zCl_c (I := I) (zWay_ne (by omega) (by omega)), hbe.1]
          refine lv_istore (lv' := [(4, .int (nI (zCleads I (32 + c) (nI h)).toNatClampNeg)), (6, .int (nI c)), (0, .ref (ad 1)), (1, .int (nI u)), (2, .int (nI v)), (3, .ref (ad (80 + t))), (5, .int (nI k))]) hx hb dX2_findWay_86 hl (by decide) rfl (fun ls hl => ?_)
          refine lv_iinc (v := nI (k + 1)) (lv' := [(5, .int (nI (k + 1))), (4, .int (nI (zCleads I (32 + c) (nI h)).toNatClampNeg)), (6, .int (nI c)), (0, .ref (ad 1)), (1, .int (nI u)), (2, .int (nI v)), (3, .ref (ad (80 + t)))]) hx hb dX2_findWay_88 hl (k := 6) rfl (nI_succ _).symm (by decide) rfl (fun ls hl => ?_)
          refine lv_goto (tgt := 33) hx hb dX2_findWay_91 (by decide) ?_
          exact ih_k hk9 _ _ _ ⟨_, _, _, _, (by show zFw1 I nc f v (zFw I nc f v u (I (96 + t)) k) = _; rw [hq]; unfold zFw1; dsimp only; rw [if_neg hne, ec]), hbe.2, hw, lv_sub hl [3, 4, 5, 6, 1, 0] rfl⟩
        · skip
          exact z_vret hx hb hr hw.2 (by unfold zFound; rw [← ef]; rw [if_neg hfu, zFw_no (by rw [hq]; exact zoi_none c4 (fun c h => (zfst_spec h).1) (show nc < 2 ^ 31 by omega)) (by omega), hq]; exact hw.1) (Nat.le_of_ble_eq_true rfl) (Nat.le_of_ble_eq_true rfl) dX2_findWay_60 hlocks
  · skip
    have c1 := (lg_cmp_eq _ _).mp c1
    obtain ⟨f, ef⟩ : ∃ f, f = (zMt I nc (zM0 (L 7) v) 10).2 := ⟨_, rfl⟩
    exact z_vret hx hb hr hw.2 (by unfold zFound; rw [← ef] at hw ⊢; rw [if_pos (by rw [ef]; exact c1)]; exact hw.1) (Nat.le_of_ble_eq_true rfl) (Nat.le_of_ble_eq_true rfl) dX2_findWay_22 hlocks
end
section
/-! WHAT THE CHART'S INNER METHODS DO, over the tables -/
theorem z_t1 (n : Int) {x k : Int32} (hk : k.toInt = n) (h : ¬ x = k) : ¬ n = x.toInt := fun e => h (Int32.toInt_inj.mp (by rw [hk, e]))
def zNf (I : zIt) : Nat := (I 1 3).toNatClampNeg
abbrev zIts (I : zIt) (κ : Nat) : Prop := ¬ I κ 5 = -1 ∧ zHasF I (32 + (I κ 5).toNatClampNeg) (I κ 6)
def zBeg (I : zIt) (κ : Nat) (a b : Int32) : zIt := zu (zu I κ 3 a) κ 4 b
def zArr (I : zIt) (κ : Nat) : zIt := if zIts I κ then zBeg I κ 2 6 else zBeg I κ 0 0
def zMask (s : Int32) : Int32 := 1 <<< (s &&& 31)
def zRmv (I : zIt) (c : Nat) (s : Int32) : zIt :=
  zu (zu (zs I 6 (zRf (8 * nI c + s) (I 6) (zNf I)).2) 1 3 (nI (zRf (8 * nI c + s) (I 6) (zNf I)).1)) (32 + c) 5 (I (32 + c) 5 &&& ((1 <<< (s &&& 31)) ^^^ (-1)))
def zMend (I : zIt) (κ : Nat) : zIt :=
  if zIts I κ then zBeg (zu (zu (zRmv I (I κ 5).toNatClampNeg (I κ 6)) κ 7 (zRmv I (I κ 5).toNatClampNeg (I κ 6) κ 7 + 1)) 0 7 1) κ 0 0 else zBeg I κ 0 0
def zGo (I : zIt) (κ : Nat) : zIt := if I κ 3 = 1 then zArr I κ else if I κ 3 = 2 then zBeg I κ 3 2 else zMend I κ
def zWork (I : zIt) (κ : Nat) : zIt := if I κ 3 = 0 then I else if I κ 4 - 1 = 0 then zGo (zu I κ 4 (I κ 4 - 1)) κ else zu I κ 4 (I κ 4 - 1)
def zSet (I : zIt) (κ : Nat) (a b : Int32) : zIt :=
  if zHours (I κ 1) (I κ 2) (I κ 0) a b = 0 then zArr (zBeg (zu (zu I κ 1 a) κ 2 b) κ 1 (zHours (I κ 1) (I κ 2) (I κ 0) a b)) κ
  else zBeg (zu (zu I κ 1 a) κ 2 b) κ 1 (zHours (I κ 1) (I κ 2) (I κ 0) a b)
def zAddF (I : zIt) (c : Nat) (s : Int32) : zIt :=
  zu (zu (zu I (32 + c) 5 (I (32 + c) 5 ||| (1 <<< (s &&& 31)))) 6 (zNf I) (8 * nI c + s)) 1 3 (nI (zNf I + 1))
def zSetI (I : zIt) (t : Nat) : zIt :=
  if I (80 + t) 1 = -1 then zu (zu I (64 + t) 9 (I (64 + t) 9 + 1)) (64 + t) 8 (zmin (I (64 + t) 5) (I (64 + t) 8 + I (64 + t) 3))
  else if I (64 + t) 2 < I (80 + t) 3 then zu (zu I (64 + t) 10 (I (64 + t) 10 + 1)) (64 + t) 8 (zmin (I (64 + t) 5) (I (64 + t) 8 + I (64 + t) 4)) else I
def zSetL (I : zIt) (L : zLt) (t : Nat) : zLt := if I (80 + t) 1 = -1 then L else zu L (64 + t) 7 (L (64 + t) 7 + (I (80 + t) 2).toInt64)
theorem zRmv_ne {I : zIt} {c : Nat} {s : Int32} {κ k : Nat} (h1 : κ ≠ 6) (h2 : ¬ (κ = 1 ∧ k = 3)) (h3 : ¬ (κ = 32 + c ∧ k = 5)) : zRmv I c s κ k = I κ k := by
  unfold zRmv
  rw [zu_ne _ _ h3, zu_ne _ _ h2, zs_ne _ _ h1]
end
section
set_option maxHeartbeats 4000000 in
set_option maxRecDepth 100000 in
theorem c_X2_removeFault (l : Launch) (base : Nat) (D : va_G) (cA : Nat → ClassId) (ad : Nat → Nat) (ty : zTyp) (I : zIt) (L : zLt) (P : zPt) (ni nc ns nt : Nat) (hC : zcls ni nc ns nt ty P) (hf : I 1 3 = nI (zNf I)) (hf8 : zNf I ≤ 128) (cb : Nat) (hc : cb < nc) (sp : Int32) : zMv l base D cA yX2_removeFault cX2_removeFault 5 1 21 0 0 [.ref (ad 1), .int (nI cb), .int sp] (zW base D cA ad ty I L P) (zW base D cA ad ty (zRmv I cb sp) L P) := by
  refine z_start (by decide +kernel) (Nat.le_of_ble_eq_true rfl) fun p e s m below meth c ls M hP hS hl hr hlocks hnm => ?_
  have M : zM p s m c cX2_removeFault RX2 5 base D cA := M
  have hw : zH base D cA s s.heap [] ad ty I L P := ⟨hP, hS⟩
  obtain ⟨hx, hb, -⟩ := id M
  have hl : lv_has ls 5 [(0, .ref (ad 1)), (1, .int (nI cb)), (2, .int sp)] := hl
  obtain ⟨hb1, hb2, hb3, hb4⟩ := zc_b hC
  refine lv_iconst (v := 0) hx hb dX2_removeFault_0 (by decide) ?_
  refine lv_istore_n (lv' := [(3, .int 0), (0, .ref (ad 1)), (1, .int (nI cb)), (2, .int sp)]) hx hb dX2_removeFault_1 rfl hl (by decide) rfl (fun ls hl => ?_)
  refine lv_iconst (v := 0) hx hb dX2_removeFault_2 (by decide) ?_
  refine lv_istore (lv' := [(4, .int 0), (3, .int 0), (0, .ref (ad 1)), (1, .int (nI cb)), (2, .int sp)]) hx hb dX2_removeFault_3 hl (by decide) rfl (fun ls hl => ?_)
  refine z_loop (zNf I) (fun (k : Nat) H locs ls => ∃ (q : Nat), ∃ (f : Nat → Int32), (zRf (8 * nI cb + sp) (I 6) k = (q, f)) ∧ zH base D cA s H locs ad ty (zs I 6 f) L P ∧ lv_has ls 5 [(0, .ref (ad 1)), (1, .int (nI cb)), (2, .int sp), (3, .int (nI q)), (4, .int (nI k))]) 0 ⟨_, _, rfl, (by rw [zs_id]; exact hw), lv_sub hl [2, 3, 4, 1, 0] rfl⟩ (by omega) (fun k hk_k ih_k H locs ls hI => ?_)
  obtain ⟨q, f, hq, hw, hl⟩ := hI
  have hqk : q ≤ k := by have := zRf_le (8 * nI cb + sp) (I 6) k; rw [hq] at this; exact this
  refine lv_iload hx hb dX2_removeFault_5 (lv_at hl 4 rfl) ?_
  refine lv_aload_n hx hb dX2_removeFault_7 rfl (lv_at hl 0 rfl) ?_
  refine z_geti M hw (zc_t1 hC) zf_X2_25 dX2_removeFault_8 ?_
  refine z_topi (y := I 1 3) (by rw [zs_ne _ _ (by omega)]) ?_
  refine z_topi (y := nI (zNf I)) hf ?_
  refine lv_icmp_ge (tgt := 51) hx hb dX2_removeFault_11 (by decide) (fun c1 => ?_) (fun c1 => ?_)
  · skip
    have hge : k = zNf I := Nat.le_antisymm (by omega) (z_ge (show nI (zNf I) ≤ nI k from c1) (by omega) (by omega))
    rw [hge] at hq
    refine lv_aload_n hx hb dX2_removeFault_51 rfl (lv_at hl 0 rfl) ?_
    refine lv_iload_n hx hb dX2_removeFault_52 rfl (lv_at hl 3 rfl) ?_
    refine z_puti M hw (zc_t1 hC) zf_X2_25 (Or.inl rfl) rfl rfl dX2_removeFault_53 (fun H locs hw => ?_)
    refine lv_aload_n hx hb dX2_removeFault_56 rfl (lv_at hl 0 rfl) ?_
    refine z_getr M hw (zc_t1 hC) zf_X2_11 (zc_p10 hC) dX2_removeFault_57 ?_
    refine lv_iload_n hx hb dX2_removeFault_60 rfl (lv_at hl 1 rfl) ?_
    refine z_aNald M hw (e9 := 3) (zc_t3 hC) ⟨by decide, rfl⟩ rfl ⟨by omega, by omega⟩ (zc_pC hC (by omega)) dX2_removeFault_61 ?_
    refine lv_dup hx hb dX2_removeFault_62 rfl ?_
    refine z_geti M hw (zc_tC hC (by omega)) zf_X2_35 dX2_removeFault_63 ?_
    refine z_topi (y := I (32 + cb) 5) (by rw [zu_ne _ _ (by omega), zs_ne _ _ (by omega)]) ?_
    refine lv_iconst (v := 1) hx hb dX2_removeFault_66 (by decide) ?_
    refine lv_iload_n hx hb dX2_removeFault_67 rfl (lv_at hl 2 rfl) ?_
    refine lv_ishl hx hb dX2_removeFault_68 ?_
    refine lv_iconst (v := (-1)) hx hb dX2_removeFault_69 (by decide) ?_
    refine lv_ixor hx hb dX2_removeFault_70 ?_
    refine lv_iand hx hb dX2_removeFault_71 ?_
    refine z_puti M hw (zc_tC hC (by omega)) zf_X2_35 (Or.inl rfl) rfl rfl dX2_removeFault_72 (fun H locs hw => ?_)
    exact z_vret hx hb hr hw.2 (by unfold zRmv; rw [hq]; exact hw.1) (Nat.le_of_ble_eq_true rfl) (Nat.le_of_ble_eq_true rfl) dX2_removeFault_75 hlocks
  · skip
    have hlt : k < zNf I := z_lt (show ¬ nI (zNf I) ≤ nI k from c1) (by omega)
    refine lv_aload_n hx hb dX2_removeFault_14 rfl (lv_at hl 0 rfl) ?_
    refine z_getr M hw (zc_t1 hC) zf_X2_21 (zc_p12 hC) dX2_removeFault_15 ?_
    refine lv_iload hx hb dX2_removeFault_18 (lv_at hl 4 rfl) ?_
    refine z_iNald M hw (zc_t6 hC) rfl ⟨by omega, by omega⟩ dX2_removeFault_20 ?_
    refine z_topi (y := f k) (by rw [zs_self]) ?_
    refine lv_iload_n hx hb dX2_removeFault_21 rfl (lv_at hl 1 rfl) ?_
    refine lv_iload_n hx hb dX2_removeFault_22 rfl (lv_at hl 2 rfl) ?_
    refine z_ci0 (z_runS (As := [.int (nI cb), .int sp]) (rest := [.int (f k)]) M hw.2 zc_X2_38 (c_X2_faultCode l base D cA ad ty (zs I 6 f) L P (nI cb) sp) hw.1 rfl rfl ⟨Nat.le_of_ble_eq_true rfl, Nat.le_of_ble_eq_true rfl⟩ ⟨Nat.le_of_ble_eq_true rfl, Nat.le_of_ble_eq_true rfl⟩ hl.1 (Nat.le_of_ble_eq_true rfl) dX2_removeFault_23) hw (fun H locs hw => ?_)
    refine lv_icmp_eq (tgt := 45) hx hb dX2_removeFault_26 (by decide) (fun c2 => ?_) (fun c2 => ?_)
    · skip
      refine lv_iinc (v := nI (k + 1)) (lv' := [(4, .int (nI (k + 1))), (0, .ref (ad 1)), (1, .int (nI cb)), (2, .int sp), (3, .int (nI q))]) hx hb dX2_removeFault_45 hl (k := 4) rfl (nI_succ _).symm (by decide) rfl (fun ls hl => ?_)
      refine lv_goto (tgt := 5) hx hb dX2_removeFault_48 (by decide) ?_
      exact ih_k hlt _ _ _ ⟨_, _, (by rw [show zRf (8 * nI cb + sp) (I 6) (k + 1) = zRf1 (8 * nI cb + sp) (zRf (8 * nI cb + sp) (I 6) k) k from rfl, hq, zRf1]; dsimp only; rw [if_pos c2]), hw, lv_sub hl [1, 2, 3, 4, 0] rfl⟩
    · skip
      refine lv_aload_n hx hb dX2_removeFault_29 rfl (lv_at hl 0 rfl) ?_
      refine z_getr M hw (zc_t1 hC) zf_X2_21 (zc_p12 hC) dX2_removeFault_30 ?_
      refine lv_iload_n hx hb dX2_removeFault_33 rfl (lv_at hl 3 rfl) ?_
      refine lv_aload_n hx hb dX2_removeFault_34 rfl (lv_at hl 0 rfl) ?_
      refine z_getr M hw (zc_t1 hC) zf_X2_21 (zc_p12 hC) dX2_removeFault_35 ?_
      refine lv_iload hx hb dX2_removeFault_38 (lv_at hl 4 rfl) ?_
      refine z_iNald M hw (zc_t6 hC) rfl ⟨by omega, by omega⟩ dX2_removeFault_40 ?_
      refine z_topi (y := f k) (by rw [zs_self]) ?_
      refine z_iNast M hw (zc_t6 hC) rfl ⟨by omega, by omega⟩ dX2_removeFault_41 (fun H locs hw => ?_)
      refine lv_iinc (v := nI (q + 1)) (lv' := [(3, .int (nI (q + 1))), (0, .ref (ad 1)), (1, .int (nI cb)), (2, .int sp), (4, .int (nI k))]) hx hb dX2_removeFault_42 hl (k := 3) rfl (nI_succ _).symm (by decide) rfl (fun ls hl => ?_)
      refine lv_iinc (v := nI (k + 1)) (lv' := [(4, .int (nI (k + 1))), (3, .int (nI (q + 1))), (0, .ref (ad 1)), (1, .int (nI cb)), (2, .int sp)]) hx hb dX2_removeFault_45 hl (k := 4) rfl (nI_succ _).symm (by decide) rfl (fun ls hl => ?_)
      refine lv_goto (tgt := 5) hx hb dX2_removeFault_48 (by decide) ?_
      exact ih_k hlt _ _ _ ⟨_, _, (by rw [show zRf (8 * nI cb + sp) (I 6) (k + 1) = zRf1 (8 * nI cb + sp) (zRf (8 * nI cb + sp) (I 6) k) k from rfl, hq, zRf1]; dsimp only; rw [if_neg c2]), (by rw [zu_zs] at hw; exact hw), lv_sub hl [2, 3, 4, 1, 0] rfl⟩
set_option maxHeartbeats 4000000 in
set_option maxRecDepth 100000 in
theorem c_X2_addFault (l : Launch) (base : Nat) (D : va_G) (cA : Nat → ClassId) (ad : Nat → Nat) (ty : zTyp) (I : zIt) (L : zLt) (P : zPt) (ni nc ns nt : Nat) (hC : zcls ni nc ns nt ty P) (hf : I 1 3 = nI (zNf I)) (hf8 : zNf I < 128) (cb : Nat) (hc : cb < nc) (sp : Int32) : zMi l base D cA yX2_addFault cX2_addFault 3 .int 1 21 0 0 [.ref (ad 1), .int (nI cb), .int sp] (zW base D cA ad ty I L P) (nI (zNf I + 1)) (zW base D cA ad ty (zAddF I cb sp) L P) := by
  refine z_start (by decide +kernel) (Nat.le_of_ble_eq_true rfl) fun p e s m below meth c ls M hP hS hl hr hlocks hnm => ?_
  have M : zM p s m c cX2_addFault RX2 3 base D cA := M
  have hw : zH base D cA s s.heap [] ad ty I L P := ⟨hP, hS⟩
  obtain ⟨hx, hb, -⟩ := id M
  have hl : lv_has ls 3 [(0, .ref (ad 1)), (1, .int (nI cb)), (2, .int sp)] := hl
  obtain ⟨hb1, hb2, hb3, hb4⟩ := zc_b hC
  refine lv_aload_n hx hb dX2_addFault_0 rfl (lv_at hl 0 rfl) ?_
  refine z_getr M hw (zc_t1 hC) zf_X2_11 (zc_p10 hC) dX2_addFault_1 ?_
  refine lv_iload_n hx hb dX2_addFault_4 rfl (lv_at hl 1 rfl) ?_
  refine z_aNald M hw (e9 := 3) (zc_t3 hC) ⟨by decide, rfl⟩ rfl ⟨by omega, by omega⟩ (zc_pC hC (by omega)) dX2_addFault_5 ?_
  refine lv_dup hx hb dX2_addFault_6 rfl ?_
  refine z_geti M hw (zc_tC hC (by omega)) zf_X2_35 dX2_addFault_7 ?_
  refine lv_iconst (v := 1) hx hb dX2_addFault_10 (by decide) ?_
  refine lv_iload_n hx hb dX2_addFault_11 rfl (lv_at hl 2 rfl) ?_
  refine lv_ishl hx hb dX2_addFault_12 ?_
  refine lv_ior hx hb dX2_addFault_13 ?_
  refine z_puti M hw (zc_tC hC (by omega)) zf_X2_35 (Or.inl rfl) rfl rfl dX2_addFault_14 (fun H locs hw => ?_)
  refine lv_aload_n hx hb dX2_addFault_17 rfl (lv_at hl 0 rfl) ?_
  refine z_getr M hw (zc_t1 hC) zf_X2_21 (zc_p12 hC) dX2_addFault_18 ?_
  refine lv_aload_n hx hb dX2_addFault_21 rfl (lv_at hl 0 rfl) ?_
  refine z_geti M hw (zc_t1 hC) zf_X2_25 dX2_addFault_22 ?_
  refine z_topi (y := I 1 3) (by rw [zu_ne _ _ (by omega)]) ?_
  refine z_topi (y := nI (zNf I)) hf ?_
  refine lv_iload_n hx hb dX2_addFault_25 rfl (lv_at hl 1 rfl) ?_
  refine lv_iload_n hx hb dX2_addFault_26 rfl (lv_at hl 2 rfl) ?_
  refine z_ci0 (z_runS (As := [.int (nI cb), .int sp]) (rest := [.int (nI (zNf I)), .ref (ad 6)]) M hw.2 zc_X2_38 (c_X2_faultCode l base D cA ad ty (zu I (32 + cb) 5 ((I (32 + cb) 5) ||| (1 <<< (sp &&& 31)))) L P (nI cb) sp) hw.1 rfl rfl ⟨Nat.le_of_ble_eq_true rfl, Nat.le_of_ble_eq_true rfl⟩ ⟨Nat.le_of_ble_eq_true rfl, Nat.le_of_ble_eq_true rfl⟩ hl.1 (Nat.le_of_ble_eq_true rfl) dX2_addFault_27) hw (fun H locs hw => ?_)
  refine z_iNast M hw (zc_t6 hC) rfl ⟨by omega, by omega⟩ dX2_addFault_30 (fun H locs hw => ?_)
  refine lv_aload_n hx hb dX2_addFault_31 rfl (lv_at hl 0 rfl) ?_
  refine lv_dup hx hb dX2_addFault_32 rfl ?_
  refine z_geti M hw (zc_t1 hC) zf_X2_25 dX2_addFault_33 ?_
  refine z_topi (y := I 1 3) (by rw [zu_ne _ _ (by omega), zu_ne _ _ (by omega)]) ?_
  refine z_topi (y := nI (zNf I)) hf ?_
  refine lv_iconst (v := 1) hx hb dX2_addFault_36 (by decide) ?_
  refine lv_iadd hx hb dX2_addFault_37 ?_
  refine z_puti M hw (zc_t1 hC) zf_X2_25 (Or.inl rfl) rfl rfl dX2_addFault_38 (fun H locs hw => ?_)
  refine lv_aload_n hx hb dX2_addFault_41 rfl (lv_at hl 0 rfl) ?_
  refine z_geti M hw (zc_t1 hC) zf_X2_25 dX2_addFault_42 ?_
  refine z_topi (y := (nI (zNf I)) + 1) (by rw [zu_self]) ?_
  exact z_iret hx hb hr (nI_succ _).symm rfl hw.2 (by unfold zAddF; rw [nI_succ]; exact hw.1) (Nat.le_of_ble_eq_true rfl) (Nat.le_of_ble_eq_true rfl) dX2_addFault_45 hlocks
set_option maxHeartbeats 4000000 in
set_option maxRecDepth 100000 in
theorem c_X2_faultRanked (l : Launch) (base : Nat) (D : va_G) (cA : Nat → ClassId) (ad : Nat → Nat) (ty : zTyp) (I : zIt) (L : zLt) (P : zPt) (ni nc ns nt : Nat) (hC : zcls ni nc ns nt ty P) (hf : I 1 3 = nI (zNf I)) (hf8 : zNf I ≤ 128) (q : Nat) (hq : q < 2 ^ 31) : zMi l base D cA yX2_faultRanked cX2_faultRanked 2 .int 0 0 0 0 [.ref (ad 1), .int (nI q)] (zW base D cA ad ty I L P) (if q < zNf I then I 6 q else -1) (zW base D cA ad ty I L P) := by
  refine z_start (by decide +kernel) (Nat.le_of_ble_eq_true rfl) fun p e s m below meth c ls M hP hS hl hr hlocks hnm => ?_
  have M : zM p s m c cX2_faultRanked RX2 2 base D cA := M
  have hw : zH base D cA s s.heap [] ad ty I L P := ⟨hP, hS⟩
  obtain ⟨hx, hb, -⟩ := id M
  have hl : lv_has ls 2 [(0, .ref (ad 1)), (1, .int (nI q))] := hl
  obtain ⟨hb1, hb2, hb3, hb4⟩ := zc_b hC
  refine lv_iload_n hx hb dX2_faultRanked_0 rfl (lv_at hl 1 rfl) ?_
  refine lv_aload_n hx hb dX2_faultRanked_1 rfl (lv_at hl 0 rfl) ?_
  refine z_geti M hw (zc_t1 hC) zf_X2_25 dX2_faultRanked_2 ?_
  refine z_topi (y := nI (zNf I)) hf ?_
  refine lv_icmp_ge (tgt := 17) hx hb dX2_faultRanked_5 (by decide) (fun c1 => ?_) (fun c1 => ?_)
  · skip
    have hge : ¬ q < zNf I := Nat.not_lt.mpr (z_ge (show nI (zNf I) ≤ nI q from c1) (by omega) hq)
    refine lv_iconst (v := (-1)) hx hb dX2_faultRanked_17 (by decide) ?_
    exact z_iret hx hb hr (by rw [if_neg hge]) rfl hw.2 hw.1 (Nat.le_of_ble_eq_true rfl) (Nat.le_of_ble_eq_true rfl) dX2_faultRanked_18 hlocks
  · skip
    have hlt : q < zNf I := z_lt (show ¬ nI (zNf I) ≤ nI q from c1) hq
    refine lv_aload_n hx hb dX2_faultRanked_8 rfl (lv_at hl 0 rfl) ?_
    refine z_getr M hw (zc_t1 hC) zf_X2_21 (zc_p12 hC) dX2_faultRanked_9 ?_
    refine lv_iload_n hx hb dX2_faultRanked_12 rfl (lv_at hl 1 rfl) ?_
    refine z_iNald M hw (zc_t6 hC) rfl ⟨by omega, by omega⟩ dX2_faultRanked_13 ?_
    refine lv_goto (tgt := 18) hx hb dX2_faultRanked_14 (by decide) ?_
    exact z_iret hx hb hr (by rw [if_pos hlt]) rfl hw.2 hw.1 (Nat.le_of_ble_eq_true rfl) (Nat.le_of_ble_eq_true rfl) dX2_faultRanked_18 hlocks
set_option maxHeartbeats 4000000 in
set_option maxRecDepth 100000 in
theorem c_X2_lay (l : Launch) (base : Nat) (D : va_G) (cA : Nat → ClassId) (ad : Nat → Nat) (ty : zTyp) (I : zIt) (L : zLt) (P : zPt) (ni nc ns nt : Nat) (hC : zcls ni nc ns nt ty P) (hn : I 1 1 = nI nc) (hc : nc < 16) (ht : ty (32 + nc) = some (0, 0)) : zMi l base D cA yX2_lay cX2_lay 2 .int 0 0 0 0 [.ref (ad 1), .ref (ad (32 + nc))] (zW base D cA ad ty I L P) (nI nc) (zW base D cA ad ty (zu I 1 1 (nI (nc + 1))) L (zu P 3 nc (some (32 + nc)))) := by
  refine z_start (by decide +kernel) (Nat.le_of_ble_eq_true rfl) fun p e s m below meth c ls M hP hS hl hr hlocks hnm => ?_
  have M : zM p s m c cX2_lay RX2 2 base D cA := M
  have hw : zH base D cA s s.heap [] ad ty I L P := ⟨hP, hS⟩
  obtain ⟨hx, hb, -⟩ := id M
  have hl : lv_has ls 2 [(0, .ref (ad 1)), (1, .ref (ad (32 + nc)))] := hl
  obtain ⟨hb1, hb2, hb3, hb4⟩ := zc_b hC
  refine lv_aload_n hx hb dX2_lay_0 rfl (lv_at hl 0 rfl) ?_
  refine z_getr M hw (zc_t1 hC) zf_X2_11 (zc_p10 hC) dX2_lay_1 ?_
  refine lv_aload_n hx hb dX2_lay_4 rfl (lv_at hl 0 rfl) ?_
  refine z_geti M hw (zc_t1 hC) zf_X2_17 dX2_lay_5 ?_
  refine z_topi (y := nI nc) hn ?_
  refine lv_aload_n hx hb dX2_lay_8 rfl (lv_at hl 1 rfl) ?_
  refine z_aNast M hw (e9 := 3) (zc_t3 hC) (by decide) ht ⟨by decide, rfl⟩ rfl ⟨by omega, by omega⟩ dX2_lay_9 (fun H locs hw => ?_)
  refine lv_aload_n hx hb dX2_lay_10 rfl (lv_at hl 0 rfl) ?_
  refine lv_dup hx hb dX2_lay_11 rfl ?_
  refine z_geti M hw (zc_t1 hC) zf_X2_17 dX2_lay_12 ?_
  refine z_topi (y := nI nc) hn ?_
  refine lv_iconst (v := 1) hx hb dX2_lay_15 (by decide) ?_
  refine lv_iadd hx hb dX2_lay_16 ?_
  refine z_puti M hw (zc_t1 hC) zf_X2_17 (Or.inl rfl) rfl rfl dX2_lay_17 (fun H locs hw => ?_)
  refine lv_aload_n hx hb dX2_lay_20 rfl (lv_at hl 0 rfl) ?_
  refine z_geti M hw (zc_t1 hC) zf_X2_17 dX2_lay_21 ?_
  refine z_topi (y := (nI nc) + 1) (by rw [zu_self]) ?_
  refine lv_iconst (v := 1) hx hb dX2_lay_24 (by decide) ?_
  refine lv_isub hx hb dX2_lay_25 ?_
  exact z_iret hx hb hr (by rw [← nI_succ, nI_pred]) rfl hw.2 (by rw [← nI_succ] at hw; exact hw.1) (Nat.le_of_ble_eq_true rfl) (Nat.le_of_ble_eq_true rfl) dX2_lay_26 hlocks
set_option maxHeartbeats 4000000 in
set_option maxRecDepth 100000 in
theorem c_X4_settleHour (l : Launch) (base : Nat) (D : va_G) (cA : Nat → ClassId) (ad : Nat → Nat) (ty : zTyp) (I : zIt) (L : zLt) (P : zPt) (ni nc ns nt : Nat) (hC : zcls ni nc ns nt ty P) (t : Nat) (ht : t < nt) : zMv l base D cA yX4_settleHour cX4_settleHour 1 2 42 0 0 [.ref (ad (64 + t))] (zW base D cA ad ty I L P) (zW base D cA ad ty (zSetI I t) (zSetL I L t) P) := by
  refine z_start (by decide +kernel) (Nat.le_of_ble_eq_true rfl) fun p e s m below meth c ls M hP hS hl hr hlocks hnm => ?_
  have M : zM p s m c cX4_settleHour RX4 1 base D cA := M
  have hw : zH base D cA s s.heap [] ad ty I L P := ⟨hP, hS⟩
  obtain ⟨hx, hb, -⟩ := id M
  have hl : lv_has ls 1 [(0, .ref (ad (64 + t)))] := hl
  obtain ⟨hb1, hb2, hb3, hb4⟩ := zc_b hC
  refine lv_aload_n hx hb dX4_settleHour_0 rfl (lv_at hl 0 rfl) ?_
  refine z_getr M hw (zc_tT hC (by omega)) zf_X4_12 (zc_pW hC (by omega)) dX4_settleHour_1 ?_
  refine z_geti M hw (zc_tW hC (by omega)) zf_X4_50 dX4_settleHour_4 ?_
  refine lv_iconst (v := (-1)) hx hb dX4_settleHour_7 (by decide) ?_
  refine lv_icmp_ne (tgt := 30) hx hb dX4_settleHour_8 (by decide) (fun c1 => ?_) (fun c1 => ?_)
  · skip
    refine lv_aload_n hx hb dX4_settleHour_30 rfl (lv_at hl 0 rfl) ?_
    refine lv_dup hx hb dX4_settleHour_31 rfl ?_
    refine z_getl M hw (zc_tT hC (by omega)) zf_X4_18 dX4_settleHour_32 ?_
    refine lv_aload_n hx hb dX4_settleHour_35 rfl (lv_at hl 0 rfl) ?_
    refine z_getr M hw (zc_tT hC (by omega)) zf_X4_12 (zc_pW hC (by omega)) dX4_settleHour_36 ?_
    refine z_geti M hw (zc_tW hC (by omega)) zf_X4_57 dX4_settleHour_39 ?_
    refine lv_i2l hx hb dX4_settleHour_42 rfl ?_
    refine lv_ladd hx hb dX4_settleHour_43 ?_
    refine z_putl M hw (zc_tT hC (by omega)) zf_X4_18 (Or.inl rfl) rfl rfl dX4_settleHour_44 (fun H locs hw => ?_)
    refine lv_aload_n hx hb dX4_settleHour_47 rfl (lv_at hl 0 rfl) ?_
    refine z_getr M hw (zc_tT hC (by omega)) zf_X4_12 (zc_pW hC (by omega)) dX4_settleHour_48 ?_
    refine z_geti M hw (zc_tW hC (by omega)) zf_X4_60 dX4_settleHour_51 ?_
    refine lv_aload_n hx hb dX4_settleHour_54 rfl (lv_at hl 0 rfl) ?_
    refine z_geti M hw (zc_tT hC (by omega)) zf_X4_38 dX4_settleHour_55 ?_
    refine lv_icmp_le (tgt := 79) hx hb dX4_settleHour_58 (by decide) (fun c2 => ?_) (fun c2 => ?_)
    · skip
      have c2 : ¬ I (64 + t) 2 < I (80 + t) 3 := Int32.not_lt.mpr c2
      exact z_vret hx hb hr hw.2 (by unfold zSetI zSetL; (try first | rw [if_pos c1] | rw [if_neg c1]); (try first | rw [if_pos c2] | rw [if_neg c2]); (try first | rw [if_pos c1] | rw [if_neg c1]); (try first | rw [if_pos c2] | rw [if_neg c2]); exact hw.1) (Nat.le_of_ble_eq_true rfl) (Nat.le_of_ble_eq_true rfl) dX4_settleHour_79 hlocks
    · skip
      have c2 : I (64 + t) 2 < I (80 + t) 3 := Int32.not_le.mp c2
      refine lv_aload_n hx hb dX4_settleHour_61 rfl (lv_at hl 0 rfl) ?_
      refine lv_dup hx hb dX4_settleHour_62 rfl ?_
      refine z_geti M hw (zc_tT hC (by omega)) zf_X4_29 dX4_settleHour_63 ?_
      refine lv_iconst (v := 1) hx hb dX4_settleHour_66 (by decide) ?_
      refine lv_iadd hx hb dX4_settleHour_67 ?_
      refine z_puti M hw (zc_tT hC (by omega)) zf_X4_29 (Or.inl rfl) rfl rfl dX4_settleHour_68 (fun H locs hw => ?_)
      refine lv_aload_n hx hb dX4_settleHour_71 rfl (lv_at hl 0 rfl) ?_
      refine lv_aload_n hx hb dX4_settleHour_72 rfl (lv_at hl 0 rfl) ?_
      refine z_geti M hw (zc_tT hC (by omega)) zf_X4_44 dX4_settleHour_73 ?_
      refine z_topi (y := I (64 + t) 4) (by rw [zu_ne _ _ (by omega)]) ?_
      refine z_cv0 (z_runV (As := [.int (I (64 + t) 4)]) (rest := []) M hw (zc_tT hC (by omega)) zc_X4_53 (c_X4_credit l base D cA ad ty (zu I (64 + t) 10 ((I (64 + t) 10) + 1)) (zu L (64 + t) 7 ((L (64 + t) 7) + ((I (80 + t) 2).toInt64))) P (64 + t) 0 (zc_tT hC ht) (I (64 + t) 4)) hw.1 rfl rfl ⟨Nat.le_of_ble_eq_true rfl, Nat.le_of_ble_eq_true rfl⟩ ⟨Nat.le_of_ble_eq_true rfl, Nat.le_of_ble_eq_true rfl⟩ hl.1 (Nat.le_of_ble_eq_true rfl) dX4_settleHour_76) hw (fun H locs hw => ?_)
      simp only [zu_ne (κ := 64 + t) (κ' := 64 + t) (k := 9) (k' := 5) _ _ (by omega), zu_ne (κ := 64 + t) (κ' := 64 + t) (k := 9) (k' := 8) _ _ (by omega), zu_ne (κ := 64 + t) (κ' := 64 + t) (k := 10) (k' := 5) _ _ (by omega), zu_ne (κ := 64 + t) (κ' := 64 + t) (k := 10) (k' := 8) _ _ (by omega)] at hw
      exact z_vret hx hb hr hw.2 (by unfold zSetI zSetL; (try first | rw [if_pos c1] | rw [if_neg c1]); (try first | rw [if_pos c2] | rw [if_neg c2]); (try first | rw [if_pos c1] | rw [if_neg c1]); (try first | rw [if_pos c2] | rw [if_neg c2]); exact hw.1) (Nat.le_of_ble_eq_true rfl) (Nat.le_of_ble_eq_true rfl) dX4_settleHour_79 hlocks
  · skip
    refine lv_aload_n hx hb dX4_settleHour_11 rfl (lv_at hl 0 rfl) ?_
    refine lv_dup hx hb dX4_settleHour_12 rfl ?_
    refine z_geti M hw (zc_tT hC (by omega)) zf_X4_26 dX4_settleHour_13 ?_
    refine lv_iconst (v := 1) hx hb dX4_settleHour_16 (by decide) ?_
    refine lv_iadd hx hb dX4_settleHour_17 ?_
    refine z_puti M hw (zc_tT hC (by omega)) zf_X4_26 (Or.inl rfl) rfl rfl dX4_settleHour_18 (fun H locs hw => ?_)
    refine lv_aload_n hx hb dX4_settleHour_21 rfl (lv_at hl 0 rfl) ?_
    refine lv_aload_n hx hb dX4_settleHour_22 rfl (lv_at hl 0 rfl) ?_
    refine z_geti M hw (zc_tT hC (by omega)) zf_X4_41 dX4_settleHour_23 ?_
    refine z_topi (y := I (64 + t) 3) (by rw [zu_ne _ _ (by omega)]) ?_
    refine z_cv0 (z_runV (As := [.int (I (64 + t) 3)]) (rest := []) M hw (zc_tT hC (by omega)) zc_X4_53 (c_X4_credit l base D cA ad ty (zu I (64 + t) 9 ((I (64 + t) 9) + 1)) L P (64 + t) 0 (zc_tT hC ht) (I (64 + t) 3)) hw.1 rfl rfl ⟨Nat.le_of_ble_eq_true rfl, Nat.le_of_ble_eq_true rfl⟩ ⟨Nat.le_of_ble_eq_true rfl, Nat.le_of_ble_eq_true rfl⟩ hl.1 (Nat.le_of_ble_eq_true rfl) dX4_settleHour_26) hw (fun H locs hw => ?_)
    simp only [zu_ne (κ := 64 + t) (κ' := 64 + t) (k := 9) (k' := 5) _ _ (by omega), zu_ne (κ := 64 + t) (κ' := 64 + t) (k := 9) (k' := 8) _ _ (by omega), zu_ne (κ := 64 + t) (κ' := 64 + t) (k := 10) (k' := 5) _ _ (by omega), zu_ne (κ := 64 + t) (κ' := 64 + t) (k := 10) (k' := 8) _ _ (by omega)] at hw
    exact z_vret hx hb hr hw.2 (by unfold zSetI zSetL; (try first | rw [if_pos c1] | rw [if_neg c1]); (try first | rw [if_pos c1] | rw [if_neg c1]); exact hw.1) (Nat.le_of_ble_eq_true rfl) (Nat.le_of_ble_eq_true rfl) dX4_settleHour_29 hlocks
end
section
/-! THE CHECKS -/
abbrev zlt (i : Int32) (n : Nat) : Prop := 0 ≤ i.toInt ∧ i.toInt < (n : Int)
theorem zlt_nat {i : Int32} {n : Nat} (h : zlt i n) : i = nI i.toNatClampNeg ∧ i.toNatClampNeg < n := by
  have hb : i.toInt < 2 ^ 31 := Int32.toInt_lt i
  have hc : i.toNatClampNeg = i.toInt.toNat := rfl
  refine ⟨Int32.toInt_inj.mp ?_, by omega⟩
  rw [nI_toInt (by omega)]
  omega
theorem zlt_nI {k n : Nat} (hk : k < 2 ^ 31) : zlt (nI k) n ↔ k < n := by
  unfold zlt
  rw [nI_toInt hk]
  omega
theorem zlt_neg {i : Int32} {n : Nat} (h : i < 0) : ¬ zlt i n := by
  have h0 : (0 : Int32).toInt = 0 := by decide
  rw [Int32.lt_iff_toInt_lt, h0] at h
  unfold zlt
  omega
theorem zlt_big {i : Int32} {n : Nat} (hn : n < 2 ^ 31) (h : ¬ i < nI n) : ¬ zlt i n := by
  rw [Int32.lt_iff_toInt_lt, nI_toInt hn] at h
  unfold zlt
  omega
theorem zlt_ok {i : Int32} {n : Nat} (hn : n < 2 ^ 31) (h0 : ¬ i < 0) (h : i < nI n) : zlt i n := by
  have h00 : (0 : Int32).toInt = 0 := by decide
  rw [Int32.lt_iff_toInt_lt, h00] at h0
  rw [Int32.lt_iff_toInt_lt, nI_toInt hn] at h
  unfold zlt
  omega
abbrev zin (v a b : Int32) : Prop := a ≤ v ∧ v ≤ b
/-- the first exception of two checks -/
def zsq (a b : Nat) : Nat := if a = 0 then b else a
def zo1 (i : Int32) (n : Nat) : Nat := if zlt i n then 0 else 1
def zo2 (v a b : Int32) : Nat := if zin v a b then 0 else 2
def zoU (i j : Int32) : Nat := if i = j then 2 else 0
def zo3 (x y : Int32) : Nat := if x < y then 0 else 3
theorem zo1_z {i : Int32} {n : Nat} (h : zo1 i n = 0) : zlt i n := by
  unfold zo1 at h
  split at h
  · assumption
  · cases h
theorem zo2_z {v a b : Int32} (h : zo2 v a b = 0) : zin v a b := by
  unfold zo2 at h
  split at h
  · assumption
  · cases h
theorem zoU_z {i j : Int32} (h : zoU i j = 0) : ¬ i = j := by
  unfold zoU at h
  split at h
  · cases h
  · assumption
theorem zo3_z {x y : Int32} (h : zo3 x y = 0) : x < y := by
  unfold zo3 at h
  split at h
  · assumption
  · cases h
/-- a cable's spans as a number -/
def zSpn (I : zIt) (i : Int32) : Nat := (I (32 + i.toNatClampNeg) 2).toNatClampNeg
def zoS (I : zIt) (nc : Nat) (i k : Int32) : Nat := zsq (zo1 i nc) (zo1 k (zSpn I i))
def zoI (I : zIt) (κ : Nat) : Nat := if I κ 3 = 0 then 0 else 3
theorem zoI_z {I : zIt} {κ : Nat} (h : zoI I κ = 0) : I κ 3 = 0 := by
  unfold zoI at h
  split at h
  · assumption
  · cases h
end
section
set_option maxHeartbeats 4000000 in
set_option maxRecDepth 100000 in
theorem c_X6_checkIndex (l : Launch) (base : Nat) (D : va_G) (cA : Nat → ClassId) (ad : Nat → Nat) (ty : zTyp) (I : zIt) (L : zLt) (P : zPt) (hl0 : l.stackTraces = false) (i : Int32) (n : Nat) (hn : n ≤ 4000) : zXv l base D cA yX6_checkIndex cX6_checkIndex 2 6 90 1 6 [.int i, .int (nI n)] (zW base D cA ad ty I L P) (zo1 i n) (zW base D cA ad ty I L P) := by
  refine z_xstart (by decide +kernel) (Nat.le_of_ble_eq_true rfl) fun p e s m below meth c ls M hP hS hl hr hlocks hnm hout => ?_
  have M : zM p s m c cX6_checkIndex RX6 2 base D cA := M
  have hw : zH base D cA s s.heap [] ad ty I L P := ⟨hP, hS⟩
  obtain ⟨hx, hb, -⟩ := id M
  have hl : lv_has ls 2 [(0, .int i), (1, .int (nI n))] := hl
  refine lv_iload_n hx hb dX6_checkIndex_0 rfl (lv_at hl 0 rfl) ?_
  refine lv_if_lt (tgt := 9) hx hb dX6_checkIndex_1 (by decide) (fun c1 => ?_) (fun c1 => ?_)
  · skip
    refine z_throw_at (oc0 := 1) (text := "there is none of this number") (by unfold zo1; rw [if_neg (zlt_neg c1)]) hl0 M hw (by decide) (by decide +kernel) zth_1 hl.1 dX6_checkIndex_9 dX6_checkIndex_12 dX6_checkIndex_13 dX6_checkIndex_15 dX6_checkIndex_18 hout ⟨Nat.le_of_ble_eq_true rfl, Nat.le_of_ble_eq_true rfl, Nat.le_of_ble_eq_true rfl, Nat.le_of_ble_eq_true rfl⟩ (Nat.le_of_ble_eq_true rfl) (Nat.le_of_ble_eq_true rfl) hlocks
  · skip
    refine lv_iload_n hx hb dX6_checkIndex_4 rfl (lv_at hl 0 rfl) ?_
    refine lv_iload_n hx hb dX6_checkIndex_5 rfl (lv_at hl 1 rfl) ?_
    refine lv_icmp_lt (tgt := 19) hx hb dX6_checkIndex_6 (by decide) (fun c2 => ?_) (fun c2 => ?_)
    · skip
      exact z_xvret hx hb hr (by unfold zo1; rw [if_pos (zlt_ok (by omega) c1 c2)]) hw.2 hw.1 (Nat.le_of_ble_eq_true rfl) (Nat.le_of_ble_eq_true rfl) dX6_checkIndex_19 hlocks
    · skip
      refine z_throw_at (oc0 := 1) (text := "there is none of this number") (by unfold zo1; rw [if_neg (zlt_big (by omega) c2)]) hl0 M hw (by decide) (by decide +kernel) zth_1 hl.1 dX6_checkIndex_9 dX6_checkIndex_12 dX6_checkIndex_13 dX6_checkIndex_15 dX6_checkIndex_18 hout ⟨Nat.le_of_ble_eq_true rfl, Nat.le_of_ble_eq_true rfl, Nat.le_of_ble_eq_true rfl, Nat.le_of_ble_eq_true rfl⟩ (Nat.le_of_ble_eq_true rfl) (Nat.le_of_ble_eq_true rfl) hlocks
set_option maxHeartbeats 4000000 in
set_option maxRecDepth 100000 in
theorem c_X6_checkRange (l : Launch) (base : Nat) (D : va_G) (cA : Nat → ClassId) (ad : Nat → Nat) (ty : zTyp) (I : zIt) (L : zLt) (P : zPt) (hl0 : l.stackTraces = false) (v a b : Int32) : zXv l base D cA yX6_checkRange cX6_checkRange 3 6 90 1 6 [.int v, .int a, .int b] (zW base D cA ad ty I L P) (zo2 v a b) (zW base D cA ad ty I L P) := by
  refine z_xstart (by decide +kernel) (Nat.le_of_ble_eq_true rfl) fun p e s m below meth c ls M hP hS hl hr hlocks hnm hout => ?_
  have M : zM p s m c cX6_checkRange RX6 3 base D cA := M
  have hw : zH base D cA s s.heap [] ad ty I L P := ⟨hP, hS⟩
  obtain ⟨hx, hb, -⟩ := id M
  have hl : lv_has ls 3 [(0, .int v), (1, .int a), (2, .int b)] := hl
  refine lv_iload_n hx hb dX6_checkRange_0 rfl (lv_at hl 0 rfl) ?_
  refine lv_iload_n hx hb dX6_checkRange_1 rfl (lv_at hl 1 rfl) ?_
  refine lv_icmp_lt (tgt := 10) hx hb dX6_checkRange_2 (by decide) (fun c1 => ?_) (fun c1 => ?_)
  · skip
    refine z_throw_at (oc0 := 2) (text := "an argument is out of range") (by unfold zo2; rw [if_neg (fun h => absurd h.1 (Int32.not_le.mpr c1))]) hl0 M hw (by decide) (by decide +kernel) zth_2 hl.1 dX6_checkRange_10 dX6_checkRange_13 dX6_checkRange_14 dX6_checkRange_16 dX6_checkRange_19 hout ⟨Nat.le_of_ble_eq_true rfl, Nat.le_of_ble_eq_true rfl, Nat.le_of_ble_eq_true rfl, Nat.le_of_ble_eq_true rfl⟩ (Nat.le_of_ble_eq_true rfl) (Nat.le_of_ble_eq_true rfl) hlocks
  · skip
    refine lv_iload_n hx hb dX6_checkRange_5 rfl (lv_at hl 0 rfl) ?_
    refine lv_iload_n hx hb dX6_checkRange_6 rfl (lv_at hl 2 rfl) ?_
    refine lv_icmp_le (tgt := 20) hx hb dX6_checkRange_7 (by decide) (fun c2 => ?_) (fun c2 => ?_)
    · skip
      exact z_xvret hx hb hr (by unfold zo2; rw [if_pos ⟨Int32.not_lt.mp c1, c2⟩]) hw.2 hw.1 (Nat.le_of_ble_eq_true rfl) (Nat.le_of_ble_eq_true rfl) dX6_checkRange_20 hlocks
    · skip
      refine z_throw_at (oc0 := 2) (text := "an argument is out of range") (by unfold zo2; rw [if_neg (fun h => absurd h.2 c2)]) hl0 M hw (by decide) (by decide +kernel) zth_2 hl.1 dX6_checkRange_10 dX6_checkRange_13 dX6_checkRange_14 dX6_checkRange_16 dX6_checkRange_19 hout ⟨Nat.le_of_ble_eq_true rfl, Nat.le_of_ble_eq_true rfl, Nat.le_of_ble_eq_true rfl, Nat.le_of_ble_eq_true rfl⟩ (Nat.le_of_ble_eq_true rfl) (Nat.le_of_ble_eq_true rfl) hlocks
set_option maxHeartbeats 4000000 in
set_option maxRecDepth 100000 in
theorem c_X6_checkUnlike (l : Launch) (base : Nat) (D : va_G) (cA : Nat → ClassId) (ad : Nat → Nat) (ty : zTyp) (I : zIt) (L : zLt) (P : zPt) (hl0 : l.stackTraces = false) (a b : Int32) : zXv l base D cA yX6_checkUnlike cX6_checkUnlike 2 6 90 1 6 [.int a, .int b] (zW base D cA ad ty I L P) (zoU a b) (zW base D cA ad ty I L P) := by
  refine z_xstart (by decide +kernel) (Nat.le_of_ble_eq_true rfl) fun p e s m below meth c ls M hP hS hl hr hlocks hnm hout => ?_
  have M : zM p s m c cX6_checkUnlike RX6 2 base D cA := M
  have hw : zH base D cA s s.heap [] ad ty I L P := ⟨hP, hS⟩
  obtain ⟨hx, hb, -⟩ := id M
  have hl : lv_has ls 2 [(0, .int a), (1, .int b)] := hl
  refine lv_iload_n hx hb dX6_checkUnlike_0 rfl (lv_at hl 0 rfl) ?_
  refine lv_iload_n hx hb dX6_checkUnlike_1 rfl (lv_at hl 1 rfl) ?_
  refine lv_icmp_ne (tgt := 15) hx hb dX6_checkUnlike_2 (by decide) (fun c1 => ?_) (fun c1 => ?_)
  · skip
    exact z_xvret hx hb hr (by unfold zoU; rw [if_neg c1]) hw.2 hw.1 (Nat.le_of_ble_eq_true rfl) (Nat.le_of_ble_eq_true rfl) dX6_checkUnlike_15 hlocks
  · skip
    refine z_throw_at (oc0 := 2) (text := "both islands are the same") (by unfold zoU; rw [if_pos c1]) hl0 M hw (by decide) (by decide +kernel) zth_2 hl.1 dX6_checkUnlike_5 dX6_checkUnlike_8 dX6_checkUnlike_9 dX6_checkUnlike_11 dX6_checkUnlike_14 hout ⟨Nat.le_of_ble_eq_true rfl, Nat.le_of_ble_eq_true rfl, Nat.le_of_ble_eq_true rfl, Nat.le_of_ble_eq_true rfl⟩ (Nat.le_of_ble_eq_true rfl) (Nat.le_of_ble_eq_true rfl) hlocks
set_option maxHeartbeats 4000000 in
set_option maxRecDepth 100000 in
theorem c_X6_checkRoom (l : Launch) (base : Nat) (D : va_G) (cA : Nat → ClassId) (ad : Nat → Nat) (ty : zTyp) (I : zIt) (L : zLt) (P : zPt) (hl0 : l.stackTraces = false) (a b : Int32) : zXv l base D cA yX6_checkRoom cX6_checkRoom 2 6 90 1 6 [.int a, .int b] (zW base D cA ad ty I L P) (zo3 a b) (zW base D cA ad ty I L P) := by
  refine z_xstart (by decide +kernel) (Nat.le_of_ble_eq_true rfl) fun p e s m below meth c ls M hP hS hl hr hlocks hnm hout => ?_
  have M : zM p s m c cX6_checkRoom RX6 2 base D cA := M
  have hw : zH base D cA s s.heap [] ad ty I L P := ⟨hP, hS⟩
  obtain ⟨hx, hb, -⟩ := id M
  have hl : lv_has ls 2 [(0, .int a), (1, .int b)] := hl
  refine lv_iload_n hx hb dX6_checkRoom_0 rfl (lv_at hl 0 rfl) ?_
  refine lv_iload_n hx hb dX6_checkRoom_1 rfl (lv_at hl 1 rfl) ?_
  refine lv_icmp_lt (tgt := 15) hx hb dX6_checkRoom_2 (by decide) (fun c1 => ?_) (fun c1 => ?_)
  · skip
    exact z_xvret hx hb hr (by unfold zo3; rw [if_pos c1]) hw.2 hw.1 (Nat.le_of_ble_eq_true rfl) (Nat.le_of_ble_eq_true rfl) dX6_checkRoom_15 hlocks
  · skip
    refine z_throw_at (oc0 := 3) (text := "there would be more than told") (by unfold zo3; rw [if_neg c1]) hl0 M hw (by decide) (by decide +kernel) zth_3 hl.1 dX6_checkRoom_5 dX6_checkRoom_8 dX6_checkRoom_9 dX6_checkRoom_11 dX6_checkRoom_14 hout ⟨Nat.le_of_ble_eq_true rfl, Nat.le_of_ble_eq_true rfl, Nat.le_of_ble_eq_true rfl, Nat.le_of_ble_eq_true rfl⟩ (Nat.le_of_ble_eq_true rfl) (Nat.le_of_ble_eq_true rfl) hlocks
set_option maxHeartbeats 4000000 in
set_option maxRecDepth 100000 in
theorem c_X6_checkIdle (l : Launch) (base : Nat) (D : va_G) (cA : Nat → ClassId) (ad : Nat → Nat) (ty : zTyp) (I : zIt) (L : zLt) (P : zPt) (hl0 : l.stackTraces = false) (κ n : Nat) (ht : ty κ = some (3, n)) : zXv l base D cA yX6_checkIdle cX6_checkIdle 1 6 90 1 6 [.ref (ad κ)] (zW base D cA ad ty I L P) (zoI I κ) (zW base D cA ad ty I L P) := by
  refine z_xstart (by decide +kernel) (Nat.le_of_ble_eq_true rfl) fun p e s m below meth c ls M hP hS hl hr hlocks hnm hout => ?_
  have M : zM p s m c cX6_checkIdle RX6 1 base D cA := M
  have hw : zH base D cA s s.heap [] ad ty I L P := ⟨hP, hS⟩
  obtain ⟨hx, hb, -⟩ := id M
  have hl : lv_has ls 1 [(0, .ref (ad κ))] := hl
  refine lv_aload_n hx hb dX6_checkIdle_0 rfl (lv_at hl 0 rfl) ?_
  refine z_geti M hw ht zf_X6_155 dX6_checkIdle_1 ?_
  refine lv_if_eq (tgt := 17) hx hb dX6_checkIdle_4 (by decide) (fun c1 => ?_) (fun c1 => ?_)
  · skip
    exact z_xvret hx hb hr (by unfold zoI; rw [if_pos c1]) hw.2 hw.1 (Nat.le_of_ble_eq_true rfl) (Nat.le_of_ble_eq_true rfl) dX6_checkIdle_17 hlocks
  · skip
    refine z_throw_at (oc0 := 3) (text := "the ship is not idle") (by unfold zoI; rw [if_neg c1]) hl0 M hw (by decide) (by decide +kernel) zth_3 hl.1 dX6_checkIdle_7 dX6_checkIdle_10 dX6_checkIdle_11 dX6_checkIdle_13 dX6_checkIdle_16 hout ⟨Nat.le_of_ble_eq_true rfl, Nat.le_of_ble_eq_true rfl, Nat.le_of_ble_eq_true rfl, Nat.le_of_ble_eq_true rfl⟩ (Nat.le_of_ble_eq_true rfl) (Nat.le_of_ble_eq_true rfl) hlocks
set_option maxHeartbeats 4000000 in
set_option maxRecDepth 100000 in
theorem c_X6_checkSpan (l : Launch) (base : Nat) (D : va_G) (cA : Nat → ClassId) (ad : Nat → Nat) (ty : zTyp) (I : zIt) (L : zLt) (P : zPt) (hl0 : l.stackTraces = false) (ni nc ns nt : Nat) (hC : zcls ni nc ns nt ty P) (hn : I 1 1 = nI nc) (hs : ∀ i, i < nc → I (32 + i) 2 = nI (I (32 + i) 2).toNatClampNeg ∧ (I (32 + i) 2).toNatClampNeg ≤ 8) (i k : Int32) : zXv l base D cA yX6_checkSpan cX6_checkSpan 3 7 111 2 12 [.ref (ad 0), .int i, .int k] (zW base D cA ad ty I L P) (zoS I nc i k) (zW base D cA ad ty I L P) := by
  refine z_xstart (by decide +kernel) (Nat.le_of_ble_eq_true rfl) fun p e s m below meth c ls M hP hS hl hr hlocks hnm hout => ?_
  have M : zM p s m c cX6_checkSpan RX6 3 base D cA := M
  have hw : zH base D cA s s.heap [] ad ty I L P := ⟨hP, hS⟩
  obtain ⟨hx, hb, -⟩ := id M
  have hl : lv_has ls 3 [(0, .ref (ad 0)), (1, .int i), (2, .int k)] := hl
  obtain ⟨hb1, hb2, hb3, hb4⟩ := zc_b hC
  refine lv_iload_n hx hb dX6_checkSpan_0 rfl (lv_at hl 1 rfl) ?_
  refine lv_aload_n hx hb dX6_checkSpan_1 rfl (lv_at hl 0 rfl) ?_
  refine z_getr M hw (zc_t0 hC) zf_X6_22 (zc_p02 hC) dX6_checkSpan_2 ?_
  refine z_geti M hw (zc_t1 hC) zf_X6_67 dX6_checkSpan_5 ?_
  refine z_topi (y := nI nc) hn ?_
  refine z_xcv (z_xrunS (As := [.int i, .int (nI nc)]) (rest := []) M hw.2 zc_X6_61 zn_X6_61 (c_X6_checkIndex l base D cA ad ty I L P hl0 i nc (by omega)) hw.1 rfl rfl ⟨Nat.le_of_ble_eq_true rfl, Nat.le_of_ble_eq_true rfl⟩ ⟨Nat.le_of_ble_eq_true rfl, Nat.le_of_ble_eq_true rfl⟩ hl.1 (Nat.le_of_ble_eq_true rfl) dX6_checkSpan_8) hw.2 (fun c1 ce q H locs hw0 hS hq hv hcl => ?_) (fun c1 H locs hw1 hS => ?_)
  · exact z_xout c1 (by unfold zoS zsq; (try first | rw [if_pos c1] | rw [if_neg c1])) hw0 hS hq hv hcl hout (Nat.le_of_ble_eq_true rfl) (Nat.le_of_ble_eq_true rfl) hlocks
  have hw : zH base D cA s H locs ad ty I L P := ⟨hw1, hS⟩
  have hc1 := zo1_z c1
  refine lv_iload_n hx hb dX6_checkSpan_11 rfl (lv_at hl 2 rfl) ?_
  refine lv_aload_n hx hb dX6_checkSpan_12 rfl (lv_at hl 0 rfl) ?_
  refine z_getr M hw (zc_t0 hC) zf_X6_22 (zc_p02 hC) dX6_checkSpan_13 ?_
  refine z_getr M hw (zc_t1 hC) zf_X6_79 (zc_p10 hC) dX6_checkSpan_16 ?_
  refine lv_iload_n hx hb dX6_checkSpan_19 rfl (lv_at hl 1 rfl) ?_
  refine z_aNald M hw (e9 := 3) (zc_t3 hC) ⟨by decide, rfl⟩ (zlt_nat hc1).1 ⟨by have := (zlt_nat hc1).2; omega, by omega⟩ (zc_pC hC (zlt_nat hc1).2) dX6_checkSpan_20 ?_
  refine z_geti M hw (zc_tC hC (zlt_nat hc1).2) zf_X6_216 dX6_checkSpan_21 ?_
  refine z_topi (y := nI (zSpn I i)) (hs _ (zlt_nat hc1).2).1 ?_
  refine z_xcv (z_xrunS (As := [.int k, .int (nI (zSpn I i))]) (rest := []) M hw.2 zc_X6_61 zn_X6_61 (c_X6_checkIndex l base D cA ad ty I L P hl0 k (zSpn I i) (by have := (hs _ (zlt_nat hc1).2).2; unfold zSpn; omega)) hw.1 rfl rfl ⟨Nat.le_of_ble_eq_true rfl, Nat.le_of_ble_eq_true rfl⟩ ⟨Nat.le_of_ble_eq_true rfl, Nat.le_of_ble_eq_true rfl⟩ hl.1 (Nat.le_of_ble_eq_true rfl) dX6_checkSpan_24) hw.2 (fun c2 ce q H locs hw0 hS hq hv hcl => ?_) (fun c2 H locs hw1 hS => ?_)
  · exact z_xout c2 (by unfold zoS zsq; (try first | rw [if_pos c1] | rw [if_neg c1]); (try first | rw [if_pos c2] | rw [if_neg c2])) hw0 hS hq hv hcl hout (Nat.le_of_ble_eq_true rfl) (Nat.le_of_ble_eq_true rfl) hlocks
  have hw : zH base D cA s H locs ad ty I L P := ⟨hw1, hS⟩
  have hc2 := zo1_z c2
  exact z_xvret hx hb hr (by unfold zoS zsq; rw [if_pos c1]; exact c2) hw.2 hw.1 (Nat.le_of_ble_eq_true rfl) (Nat.le_of_ble_eq_true rfl) dX6_checkSpan_27 hlocks
end
section
set_option maxHeartbeats 4000000 in
set_option maxRecDepth 100000 in
theorem c_X6_hasItsFault (l : Launch) (base : Nat) (D : va_G) (cA : Nat → ClassId) (ad : Nat → Nat) (ty : zTyp) (I : zIt) (L : zLt) (P : zPt) (ni nc ns nt : Nat) (hC : zcls ni nc ns nt ty P) (i : Nat) (hi : i < ns) (hsc : I (48 + i) 5 = -1 ∨ (I (48 + i) 5 = nI (I (48 + i) 5).toNatClampNeg ∧ (I (48 + i) 5).toNatClampNeg < nc)) : zMi l base D cA yX6_hasItsFault cX6_hasItsFault 2 .boolean 1 21 0 0 [.ref (ad 0), .ref (ad (48 + i))] (zW base D cA ad ty I L P) (zb (zIts I (48 + i))) (zW base D cA ad ty I L P) := by
  refine z_start (by decide +kernel) (Nat.le_of_ble_eq_true rfl) fun p e s m below meth c ls M hP hS hl hr hlocks hnm => ?_
  have M : zM p s m c cX6_hasItsFault RX6 2 base D cA := M
  have hw : zH base D cA s s.heap [] ad ty I L P := ⟨hP, hS⟩
  obtain ⟨hx, hb, -⟩ := id M
  have hl : lv_has ls 2 [(0, .ref (ad 0)), (1, .ref (ad (48 + i)))] := hl
  obtain ⟨hb1, hb2, hb3, hb4⟩ := zc_b hC
  refine lv_aload_n hx hb dX6_hasItsFault_0 rfl (lv_at hl 1 rfl) ?_
  refine z_geti M hw (zc_tS hC (by omega)) zf_X6_259 dX6_hasItsFault_1 ?_
  refine lv_iconst (v := (-1)) hx hb dX6_hasItsFault_4 (by decide) ?_
  refine lv_icmp_eq (tgt := 34) hx hb dX6_hasItsFault_5 (by decide) (fun c1 => ?_) (fun c1 => ?_)
  · skip
    refine lv_iconst (v := 0) hx hb dX6_hasItsFault_34 (by decide) ?_
    exact z_iret hx hb hr (by rw [zb_0 (fun h => h.1 c1)]) rfl hw.2 hw.1 (Nat.le_of_ble_eq_true rfl) (Nat.le_of_ble_eq_true rfl) dX6_hasItsFault_35 hlocks
  · skip
    have hcn := hsc.resolve_left c1
    refine lv_aload_n hx hb dX6_hasItsFault_8 rfl (lv_at hl 0 rfl) ?_
    refine z_getr M hw (zc_t0 hC) zf_X6_22 (zc_p02 hC) dX6_hasItsFault_9 ?_
    refine z_getr M hw (zc_t1 hC) zf_X6_79 (zc_p10 hC) dX6_hasItsFault_12 ?_
    refine lv_aload_n hx hb dX6_hasItsFault_15 rfl (lv_at hl 1 rfl) ?_
    refine z_geti M hw (zc_tS hC (by omega)) zf_X6_259 dX6_hasItsFault_16 ?_
    refine z_aNald M hw (e9 := 3) (zc_t3 hC) ⟨by decide, rfl⟩ hcn.1 ⟨by have := hcn.2; omega, by omega⟩ (zc_pC hC hcn.2) dX6_hasItsFault_19 ?_
    refine lv_aload_n hx hb dX6_hasItsFault_20 rfl (lv_at hl 1 rfl) ?_
    refine z_geti M hw (zc_tS hC (by omega)) zf_X6_262 dX6_hasItsFault_21 ?_
    refine z_ci0 (z_runV (As := [.int (I (48 + i) 6)]) (rest := []) M hw (zc_tC hC hcn.2) zc_X6_89 (c_X0_hasFaultAt l base D cA ad ty I L P (32 + (I (48 + i) 5).toNatClampNeg) 0 (zc_tC hC hcn.2) (I (48 + i) 6)) hw.1 rfl rfl ⟨Nat.le_of_ble_eq_true rfl, Nat.le_of_ble_eq_true rfl⟩ ⟨Nat.le_of_ble_eq_true rfl, Nat.le_of_ble_eq_true rfl⟩ hl.1 (Nat.le_of_ble_eq_true rfl) dX6_hasItsFault_24) hw (fun H locs hw => ?_)
    refine lv_if_eq (tgt := 34) hx hb dX6_hasItsFault_27 (by decide) (fun c2 => ?_) (fun c2 => ?_)
    · skip
      have c2 := zb_eq0.mp c2
      refine lv_iconst (v := 0) hx hb dX6_hasItsFault_34 (by decide) ?_
      exact z_iret hx hb hr (by rw [zb_0 (fun h => absurd h.2 c2)]) rfl hw.2 hw.1 (Nat.le_of_ble_eq_true rfl) (Nat.le_of_ble_eq_true rfl) dX6_hasItsFault_35 hlocks
    · skip
      have c2 := zb_ne0.mp c2
      refine lv_iconst (v := 1) hx hb dX6_hasItsFault_30 (by decide) ?_
      refine lv_goto (tgt := 35) hx hb dX6_hasItsFault_31 (by decide) ?_
      exact z_iret hx hb hr (by rw [zb_1 ⟨c1, c2⟩]) rfl hw.2 hw.1 (Nat.le_of_ble_eq_true rfl) (Nat.le_of_ble_eq_true rfl) dX6_hasItsFault_35 hlocks
set_option maxHeartbeats 4000000 in
set_option maxRecDepth 100000 in
theorem c_X6_arrive (l : Launch) (base : Nat) (D : va_G) (cA : Nat → ClassId) (ad : Nat → Nat) (ty : zTyp) (I : zIt) (L : zLt) (P : zPt) (ni nc ns nt : Nat) (hC : zcls ni nc ns nt ty P) (i : Nat) (hi : i < ns) (hsc : I (48 + i) 5 = -1 ∨ (I (48 + i) 5 = nI (I (48 + i) 5).toNatClampNeg ∧ (I (48 + i) 5).toNatClampNeg < nc)) : zMv l base D cA yX6_arrive cX6_arrive 2 2 42 0 0 [.ref (ad 0), .ref (ad (48 + i))] (zW base D cA ad ty I L P) (zW base D cA ad ty (zArr I (48 + i)) L P) := by
  refine z_start (by decide +kernel) (Nat.le_of_ble_eq_true rfl) fun p e s m below meth c ls M hP hS hl hr hlocks hnm => ?_
  have M : zM p s m c cX6_arrive RX6 2 base D cA := M
  have hw : zH base D cA s s.heap [] ad ty I L P := ⟨hP, hS⟩
  obtain ⟨hx, hb, -⟩ := id M
  have hl : lv_has ls 2 [(0, .ref (ad 0)), (1, .ref (ad (48 + i)))] := hl
  obtain ⟨hb1, hb2, hb3, hb4⟩ := zc_b hC
  refine lv_aload_n hx hb dX6_arrive_0 rfl (lv_at hl 0 rfl) ?_
  refine lv_aload_n hx hb dX6_arrive_1 rfl (lv_at hl 1 rfl) ?_
  refine z_ci0 (z_runV (As := [.ref (ad (48 + i))]) (rest := []) M hw (zc_t0 hC) zc_X6_255 (c_X6_hasItsFault l base D cA ad ty I L P ni nc ns nt hC i hi hsc) hw.1 rfl rfl ⟨Nat.le_of_ble_eq_true rfl, Nat.le_of_ble_eq_true rfl⟩ ⟨Nat.le_of_ble_eq_true rfl, Nat.le_of_ble_eq_true rfl⟩ hl.1 (Nat.le_of_ble_eq_true rfl) dX6_arrive_2) hw (fun H locs hw => ?_)
  refine lv_if_eq (tgt := 18) hx hb dX6_arrive_5 (by decide) (fun c1 => ?_) (fun c1 => ?_)
  · skip
    have c1 := zb_eq0.mp c1
    refine lv_aload_n hx hb dX6_arrive_18 rfl (lv_at hl 1 rfl) ?_
    refine lv_iconst (v := 0) hx hb dX6_arrive_19 (by decide) ?_
    refine lv_iconst (v := 0) hx hb dX6_arrive_20 (by decide) ?_
    refine z_cv0 (z_runV (As := [.int 0, .int 0]) (rest := []) M hw (zc_tS hC (by omega)) zc_X6_246 (c_X3_begin l base D cA ad ty I L P (48 + i) 0 (zc_tS hC hi) 0 0) hw.1 rfl rfl ⟨Nat.le_of_ble_eq_true rfl, Nat.le_of_ble_eq_true rfl⟩ ⟨Nat.le_of_ble_eq_true rfl, Nat.le_of_ble_eq_true rfl⟩ hl.1 (Nat.le_of_ble_eq_true rfl) dX6_arrive_21) hw (fun H locs hw => ?_)
    exact z_vret hx hb hr hw.2 (by unfold zArr; (try first | rw [if_pos c1] | rw [if_neg c1]); exact hw.1) (Nat.le_of_ble_eq_true rfl) (Nat.le_of_ble_eq_true rfl) dX6_arrive_24 hlocks
  · skip
    have c1 := zb_ne0.mp c1
    refine lv_aload_n hx hb dX6_arrive_8 rfl (lv_at hl 1 rfl) ?_
    refine lv_iconst (v := 2) hx hb dX6_arrive_9 (by decide) ?_
    refine lv_bipush (v := 6) hx hb dX6_arrive_10 (by decide) ?_
    refine z_cv0 (z_runV (As := [.int 2, .int 6]) (rest := []) M hw (zc_tS hC (by omega)) zc_X6_246 (c_X3_begin l base D cA ad ty I L P (48 + i) 0 (zc_tS hC hi) 2 6) hw.1 rfl rfl ⟨Nat.le_of_ble_eq_true rfl, Nat.le_of_ble_eq_true rfl⟩ ⟨Nat.le_of_ble_eq_true rfl, Nat.le_of_ble_eq_true rfl⟩ hl.1 (Nat.le_of_ble_eq_true rfl) dX6_arrive_12) hw (fun H locs hw => ?_)
    refine lv_goto (tgt := 24) hx hb dX6_arrive_15 (by decide) ?_
    exact z_vret hx hb hr hw.2 (by unfold zArr; (try first | rw [if_pos c1] | rw [if_neg c1]); exact hw.1) (Nat.le_of_ble_eq_true rfl) (Nat.le_of_ble_eq_true rfl) dX6_arrive_24 hlocks
set_option maxHeartbeats 4000000 in
set_option maxRecDepth 100000 in
theorem c_X6_mend (l : Launch) (base : Nat) (D : va_G) (cA : Nat → ClassId) (ad : Nat → Nat) (ty : zTyp) (I : zIt) (L : zLt) (P : zPt) (ni nc ns nt : Nat) (hC : zcls ni nc ns nt ty P) (i : Nat) (hi : i < ns) (hsc : I (48 + i) 5 = -1 ∨ (I (48 + i) 5 = nI (I (48 + i) 5).toNatClampNeg ∧ (I (48 + i) 5).toNatClampNeg < nc)) (hf : I 1 3 = nI (zNf I)) (hf8 : zNf I ≤ 128) : zMv l base D cA yX6_mend cX6_mend 2 2 45 0 0 [.ref (ad 0), .ref (ad (48 + i))] (zW base D cA ad ty I L P) (zW base D cA ad ty (zMend I (48 + i)) L P) := by
  refine z_start (by decide +kernel) (Nat.le_of_ble_eq_true rfl) fun p e s m below meth c ls M hP hS hl hr hlocks hnm => ?_
  have M : zM p s m c cX6_mend RX6 2 base D cA := M
  have hw : zH base D cA s s.heap [] ad ty I L P := ⟨hP, hS⟩
  obtain ⟨hx, hb, -⟩ := id M
  have hl : lv_has ls 2 [(0, .ref (ad 0)), (1, .ref (ad (48 + i)))] := hl
  obtain ⟨hb1, hb2, hb3, hb4⟩ := zc_b hC
  refine lv_aload_n hx hb dX6_mend_0 rfl (lv_at hl 0 rfl) ?_
  refine lv_aload_n hx hb dX6_mend_1 rfl (lv_at hl 1 rfl) ?_
  refine z_ci0 (z_runV (As := [.ref (ad (48 + i))]) (rest := []) M hw (zc_t0 hC) zc_X6_255 (c_X6_hasItsFault l base D cA ad ty I L P ni nc ns nt hC i hi hsc) hw.1 rfl rfl ⟨Nat.le_of_ble_eq_true rfl, Nat.le_of_ble_eq_true rfl⟩ ⟨Nat.le_of_ble_eq_true rfl, Nat.le_of_ble_eq_true rfl⟩ hl.1 (Nat.le_of_ble_eq_true rfl) dX6_mend_2) hw (fun H locs hw => ?_)
  refine lv_if_eq (tgt := 38) hx hb dX6_mend_5 (by decide) (fun c1 => ?_) (fun c1 => ?_)
  · skip
    have c1 := zb_eq0.mp c1
    refine lv_aload_n hx hb dX6_mend_38 rfl (lv_at hl 1 rfl) ?_
    refine lv_iconst (v := 0) hx hb dX6_mend_39 (by decide) ?_
    refine lv_iconst (v := 0) hx hb dX6_mend_40 (by decide) ?_
    refine z_cv0 (z_runV (As := [.int 0, .int 0]) (rest := []) M hw (zc_tS hC (by omega)) zc_X6_246 (c_X3_begin l base D cA ad ty I L P (48 + i) 0 (zc_tS hC hi) 0 0) hw.1 rfl rfl ⟨Nat.le_of_ble_eq_true rfl, Nat.le_of_ble_eq_true rfl⟩ ⟨Nat.le_of_ble_eq_true rfl, Nat.le_of_ble_eq_true rfl⟩ hl.1 (Nat.le_of_ble_eq_true rfl) dX6_mend_41) hw (fun H locs hw => ?_)
    exact z_vret hx hb hr hw.2 (by unfold zMend; (try first | rw [if_pos c1] | rw [if_neg c1]); exact hw.1) (Nat.le_of_ble_eq_true rfl) (Nat.le_of_ble_eq_true rfl) dX6_mend_44 hlocks
  · skip
    have c1 := zb_ne0.mp c1
    have hcn := hsc.resolve_left c1.1
    refine lv_aload_n hx hb dX6_mend_8 rfl (lv_at hl 0 rfl) ?_
    refine z_getr M hw (zc_t0 hC) zf_X6_22 (zc_p02 hC) dX6_mend_9 ?_
    refine lv_aload_n hx hb dX6_mend_12 rfl (lv_at hl 1 rfl) ?_
    refine z_geti M hw (zc_tS hC (by omega)) zf_X6_259 dX6_mend_13 ?_
    refine z_topi (y := nI (I (48 + i) 5).toNatClampNeg) hcn.1 ?_
    refine lv_aload_n hx hb dX6_mend_16 rfl (lv_at hl 1 rfl) ?_
    refine z_geti M hw (zc_tS hC (by omega)) zf_X6_262 dX6_mend_17 ?_
    refine z_cv0 (z_runV (As := [.int (nI (I (48 + i) 5).toNatClampNeg), .int (I (48 + i) 6)]) (rest := []) M hw (zc_t1 hC) zc_X6_265 (c_X2_removeFault l base D cA ad ty I L P ni nc ns nt hC hf hf8 (I (48 + i) 5).toNatClampNeg hcn.2 (I (48 + i) 6)) hw.1 rfl rfl ⟨Nat.le_of_ble_eq_true rfl, Nat.le_of_ble_eq_true rfl⟩ ⟨Nat.le_of_ble_eq_true rfl, Nat.le_of_ble_eq_true rfl⟩ hl.1 (Nat.le_of_ble_eq_true rfl) dX6_mend_20) hw (fun H locs hw => ?_)
    refine lv_aload_n hx hb dX6_mend_23 rfl (lv_at hl 1 rfl) ?_
    refine lv_dup hx hb dX6_mend_24 rfl ?_
    refine z_geti M hw (zc_tS hC (by omega)) zf_X6_163 dX6_mend_25 ?_
    refine lv_iconst (v := 1) hx hb dX6_mend_28 (by decide) ?_
    refine lv_iadd hx hb dX6_mend_29 ?_
    refine z_puti M hw (zc_tS hC (by omega)) zf_X6_163 (Or.inl rfl) rfl rfl dX6_mend_30 (fun H locs hw => ?_)
    refine lv_aload_n hx hb dX6_mend_33 rfl (lv_at hl 0 rfl) ?_
    refine lv_iconst (v := 1) hx hb dX6_mend_34 (by decide) ?_
    refine z_puti M hw (zc_t0 hC) zf_X6_44 (Or.inl rfl) rfl rfl dX6_mend_35 (fun H locs hw => ?_)
    refine lv_aload_n hx hb dX6_mend_38 rfl (lv_at hl 1 rfl) ?_
    refine lv_iconst (v := 0) hx hb dX6_mend_39 (by decide) ?_
    refine lv_iconst (v := 0) hx hb dX6_mend_40 (by decide) ?_
    refine z_cv0 (z_runV (As := [.int 0, .int 0]) (rest := []) M hw (zc_tS hC (by omega)) zc_X6_246 (c_X3_begin l base D cA ad ty (zu (zu (zRmv I (I (48 + i) 5).toNatClampNeg (I (48 + i) 6)) (48 + i) 7 (((zRmv I (I (48 + i) 5).toNatClampNeg (I (48 + i) 6)) (48 + i) 7) + 1)) 0 7 1) L P (48 + i) 0 (zc_tS hC hi) 0 0) hw.1 rfl rfl ⟨Nat.le_of_ble_eq_true rfl, Nat.le_of_ble_eq_true rfl⟩ ⟨Nat.le_of_ble_eq_true rfl, Nat.le_of_ble_eq_true rfl⟩ hl.1 (Nat.le_of_ble_eq_true rfl) dX6_mend_41) hw (fun H locs hw => ?_)
    exact z_vret hx hb hr hw.2 (by unfold zMend; (try first | rw [if_pos c1] | rw [if_neg c1]); exact hw.1) (Nat.le_of_ble_eq_true rfl) (Nat.le_of_ble_eq_true rfl) dX6_mend_44 hlocks
end
section
theorem zNf_eq {I I' : zIt} (h : I' 1 3 = I 1 3) : zNf I' = zNf I := by unfold zNf; rw [h]
abbrev zSc (I : zIt) (nc κ : Nat) : Prop := I κ 5 = -1 ∨ (I κ 5 = nI (I κ 5).toNatClampNeg ∧ (I κ 5).toNatClampNeg < nc)
theorem zSc_c {I I' : zIt} {nc κ : Nat} (h : I' κ 5 = I κ 5) (hs : zSc I nc κ) : zSc I' nc κ := by unfold zSc; rw [h]; exact hs
theorem zBeg_ne {I : zIt} {κ κ' k : Nat} {a b : Int32} (h : ¬ (κ' = κ ∧ (k = 3 ∨ k = 4))) : zBeg I κ a b κ' k = I κ' k := by
  unfold zBeg
  rw [zu_ne _ _ (fun h2 => h ⟨h2.1, Or.inr h2.2⟩), zu_ne _ _ (fun h2 => h ⟨h2.1, Or.inl h2.2⟩)]
abbrev zNfo (I : zIt) : Prop := I 1 3 = nI (zNf I) ∧ zNf I ≤ 128
theorem zNfo_c {I I' : zIt} (h : I' 1 3 = I 1 3) (hf : zNfo I) : zNfo I' := by unfold zNfo; rw [zNf_eq h, h]; exact hf
/-- a cable's fields are as the chart takes them -/
def zCb (I : zIt) (κ : Nat) : Prop := ∃ a b n d p : Nat, a < 10 ∧ b < 10 ∧ 1 ≤ n ∧ n ≤ 8 ∧ 1 ≤ d ∧ d ≤ 500 ∧ p ≤ 9999 ∧ I κ 0 = nI a ∧ I κ 1 = nI b ∧ I κ 2 = nI n ∧ I κ 3 = nI d ∧ I κ 4 = nI p
/-- the class's numbers, at every moment of a call -/
def zInv (ni nc ns nt : Nat) (I : zIt) : Prop := (I 0 1 = nI ni ∧ I 1 1 = nI nc ∧ I 0 4 = nI ns ∧ I 0 6 = nI nt) ∧ zNfo I ∧ (∀ i, i < nc → zCb I (32 + i)) ∧
  (∀ i, i < ns → zSc I nc (48 + i) ∧ ∃ v, 1 ≤ v ∧ v ≤ 20 ∧ I (48 + i) 0 = nI v) ∧ ∀ t, t < nt → ∃ u v, u < 10 ∧ v < 10 ∧ I (64 + t) 0 = nI u ∧ I (64 + t) 1 = nI v
/-- where a change leaves those numbers as they are -/
def zHl (κ k : Nat) : Prop := ¬ (κ = 0 ∧ (k = 1 ∨ k = 4 ∨ k = 6)) ∧ ¬ (κ = 1 ∧ (k = 1 ∨ k = 3)) ∧ ¬ (32 ≤ κ ∧ κ < 48 ∧ k < 5) ∧ ¬ (48 ≤ κ ∧ κ < 64 ∧ (k = 0 ∨ k = 5)) ∧ ¬ (64 ≤ κ ∧ κ < 80 ∧ k < 2)
theorem zInv_same {ni nc ns nt : Nat} {I I' : zIt} (hb : nc ≤ 16 ∧ ns ≤ 4 ∧ nt ≤ 12) (h : zInv ni nc ns nt I) (e0 : I' 0 1 = I 0 1 ∧ I' 0 4 = I 0 4 ∧ I' 0 6 = I 0 6) (e1 : I' 1 1 = I 1 1) (e2 : zNfo I') (e3 : ∀ i, i < 16 → ∀ k, k < 5 → I' (32 + i) k = I (32 + i) k)
    (e4 : ∀ i, i < 16 → I' (48 + i) 0 = I (48 + i) 0 ∧ I' (48 + i) 5 = I (48 + i) 5) (e5 : ∀ i, i < 16 → I' (64 + i) 0 = I (64 + i) 0 ∧ I' (64 + i) 1 = I (64 + i) 1) : zInv ni nc ns nt I' := by
  obtain ⟨⟨h1, h2, h3, h4⟩, h5, h6, h7, h8⟩ := h
  refine ⟨⟨by rw [e0.1, h1], by rw [e1, h2], by rw [e0.2.1, h3], by rw [e0.2.2, h4]⟩, e2, fun i hi => ?_, fun i hi => ?_, fun t ht => ?_⟩
  · obtain ⟨a, b, n, d, p, g⟩ := h6 i hi
    refine ⟨a, b, n, d, p, ?_⟩
    rw [e3 i (by omega) 0 (by omega), e3 i (by omega) 1 (by omega), e3 i (by omega) 2 (by omega), e3 i (by omega) 3 (by omega), e3 i (by omega) 4 (by omega)]
    exact g
  · obtain ⟨g, v, g2⟩ := h7 i hi
    refine ⟨zSc_c (e4 i (by omega)).2 g, v, ?_⟩
    rw [(e4 i (by omega)).1]
    exact g2
  · obtain ⟨u, v, g⟩ := h8 t ht
    refine ⟨u, v, ?_⟩
    rw [(e5 t (by omega)).1, (e5 t (by omega)).2]
    exact g
theorem zInv_zu {ni nc ns nt : Nat} {I : zIt} (hb : nc ≤ 16 ∧ ns ≤ 4 ∧ nt ≤ 12) {κ k : Nat} {x : Int32} (hh : zHl κ k) (h : zInv ni nc ns nt I) : zInv ni nc ns nt (zu I κ k x) := by
  obtain ⟨g1, g2, g3, g4, g5⟩ := hh
  have z0 : ∀ a b, ¬ (a = κ ∧ b = k) → zu I κ k x a b = I a b := fun a b q => zu_ne _ _ q
  refine zInv_same hb h ⟨z0 _ _ (by omega), z0 _ _ (by omega), z0 _ _ (by omega)⟩ (z0 _ _ (by omega)) (zNfo_c (z0 _ _ (by omega)) h.2.1) (fun i hi j hj => z0 _ _ (by omega)) (fun i hi => ⟨z0 _ _ (by omega), z0 _ _ (by omega)⟩) (fun i hi => ⟨z0 _ _ (by omega), z0 _ _ (by omega)⟩)
theorem zInv_zBeg {ni nc ns nt : Nat} {I : zIt} (hb : nc ≤ 16 ∧ ns ≤ 4 ∧ nt ≤ 12) {i : Nat} {a b : Int32} (hi : i < ns) (h : zInv ni nc ns nt I) : zInv ni nc ns nt (zBeg I (48 + i) a b) :=
  zInv_zu hb (by unfold zHl; omega) (zInv_zu hb (by unfold zHl; omega) h)
theorem zInv_zArr {ni nc ns nt : Nat} {I : zIt} (hb : nc ≤ 16 ∧ ns ≤ 4 ∧ nt ≤ 12) {i : Nat} (hi : i < ns) (h : zInv ni nc ns nt I) : zInv ni nc ns nt (zArr I (48 + i)) := by
  unfold zArr
  split
  · exact zInv_zBeg hb hi h
  · exact zInv_zBeg hb hi h
theorem zRmv_nf (I : zIt) (c : Nat) (s : Int32) : zRmv I c s 1 3 = nI (zRf (8 * nI c + s) (I 6) (zNf I)).1 := by
  unfold zRmv
  rw [zu_ne _ _ (by omega), zu_self]
theorem zInv_zRmv {ni nc ns nt : Nat} {I : zIt} (hb : nc ≤ 16 ∧ ns ≤ 4 ∧ nt ≤ 12) {c : Nat} {s : Int32} (hc : c < nc) (h : zInv ni nc ns nt I) : zInv ni nc ns nt (zRmv I c s) := by
  have z0 : ∀ a b, a ≠ 6 → ¬ (a = 1 ∧ b = 3) → ¬ (a = 32 + c ∧ b = 5) → zRmv I c s a b = I a b := fun a b q1 q2 q3 => zRmv_ne q1 q2 q3
  have hle := zRf_le (8 * nI c + s) (I 6) (zNf I)
  have h128 := h.2.1.2
  refine zInv_same hb h ⟨z0 _ _ (by omega) (by omega) (by omega), z0 _ _ (by omega) (by omega) (by omega), z0 _ _ (by omega) (by omega) (by omega)⟩ (z0 _ _ (by omega) (by omega) (by omega)) ?_ (fun i hi j hj => z0 _ _ (by omega) (by omega) (by omega)) (fun i hi => ⟨z0 _ _ (by omega) (by omega) (by omega), z0 _ _ (by omega) (by omega) (by omega)⟩) (fun i hi => ⟨z0 _ _ (by omega) (by omega) (by omega), z0 _ _ (by omega) (by omega) (by omega)⟩)
  unfold zNfo zNf
  rw [zRmv_nf, nI_clamp (by omega)]
  exact ⟨rfl, by omega⟩
theorem zInv_zMend {ni nc ns nt : Nat} {I : zIt} (hb : nc ≤ 16 ∧ ns ≤ 4 ∧ nt ≤ 12) {i : Nat} (hi : i < ns) (h : zInv ni nc ns nt I) : zInv ni nc ns nt (zMend I (48 + i)) := by
  unfold zMend
  split
  · rename_i h1
    have hc := (h.2.2.2.1 i hi).1.resolve_left h1.1
    exact zInv_zBeg hb hi (zInv_zu hb (by unfold zHl; omega) (zInv_zu hb (by unfold zHl; omega) (zInv_zRmv hb hc.2 h)))
  · exact zInv_zBeg hb hi h
theorem zInv_zGo {ni nc ns nt : Nat} {I : zIt} (hb : nc ≤ 16 ∧ ns ≤ 4 ∧ nt ≤ 12) {i : Nat} (hi : i < ns) (h : zInv ni nc ns nt I) : zInv ni nc ns nt (zGo I (48 + i)) := by
  unfold zGo
  split
  · exact zInv_zArr hb hi h
  · split
    · exact zInv_zBeg hb hi h
    · exact zInv_zMend hb hi h
theorem zInv_zWork {ni nc ns nt : Nat} {I : zIt} (hb : nc ≤ 16 ∧ ns ≤ 4 ∧ nt ≤ 12) {i : Nat} (hi : i < ns) (h : zInv ni nc ns nt I) : zInv ni nc ns nt (zWork I (48 + i)) := by
  unfold zWork
  split
  · exact h
  · split
    · exact zInv_zGo hb hi (zInv_zu hb (by unfold zHl; omega) h)
    · exact zInv_zu hb (by unfold zHl; omega) h
theorem zInv_zWay {ni nc ns nt : Nat} {I : zIt} (hb : nc ≤ 16 ∧ ns ≤ 4 ∧ nt ≤ 12) {t : Nat} {a b c : Int32} {r : Nat → Int32} (h : zInv ni nc ns nt I) : zInv ni nc ns nt (zWay I (80 + t) (96 + t) a b c r) := by
  have z0 : ∀ x y, x < 80 → zWay I (80 + t) (96 + t) a b c r x y = I x y := fun x y q => by rw [zWay_ne (by omega) (by omega)]
  exact zInv_same hb h ⟨z0 _ _ (by omega), z0 _ _ (by omega), z0 _ _ (by omega)⟩ (z0 _ _ (by omega)) (zNfo_c (z0 _ _ (by omega)) h.2.1) (fun i hi j hj => z0 _ _ (by omega)) (fun i hi => ⟨z0 _ _ (by omega), z0 _ _ (by omega)⟩) (fun i hi => ⟨z0 _ _ (by omega), z0 _ _ (by omega)⟩)
theorem zInv_zFound {ni nc ns nt : Nat} {I : zIt} (hb : nc ≤ 16 ∧ ns ≤ 4 ∧ nt ≤ 12) {f : Nat → Int64} {u v t : Nat} (h : zInv ni nc ns nt I) : zInv ni nc ns nt (zFound I nc f u v t) := by
  unfold zFound
  split
  · exact zInv_zWay hb h
  · exact zInv_zWay hb h
theorem zInv_zSetI {ni nc ns nt : Nat} {I : zIt} (hb : nc ≤ 16 ∧ ns ≤ 4 ∧ nt ≤ 12) {t : Nat} (ht : t < nt) (h : zInv ni nc ns nt I) : zInv ni nc ns nt (zSetI I t) := by
  unfold zSetI
  split
  · exact zInv_zu hb (by unfold zHl; omega) (zInv_zu hb (by unfold zHl; omega) h)
  · split
    · exact zInv_zu hb (by unfold zHl; omega) (zInv_zu hb (by unfold zHl; omega) h)
    · exact h
theorem zInv_ends {ni nc ns nt : Nat} {I : zIt} (h : zInv ni nc ns nt I) : zEnds I nc := fun i hi => by
  obtain ⟨a, b, n, d, p, h1, h2, -, -, -, -, -, h3, h4, -⟩ := h.2.2.1 i hi
  exact ⟨⟨a, h1, h3⟩, b, h2, h4⟩
/-- the cables alone -/
def zCbs (I : zIt) (nc : Nat) : Prop := ∀ i, i < nc → zCb I (32 + i)
/-- on cables as the chart takes them a way that is there is gone to its end in nine cables (proved in the part on ways) -/
def zFin (nc : Nat) : Prop := ∀ (I : zIt), zCbs I nc → ∀ (u v : Nat) (f : Nat → Int64) (row : Nat → Int32), u < 10 → v < 10 → ¬ (zMt I nc (zM0 f v) 10).2 u = zUNR → (zFw I nc (zMt I nc (zM0 f v) 10).2 v u row 9).1 = v
end
section
set_option maxHeartbeats 4000000 in
set_option maxRecDepth 100000 in
theorem c_X6_goOn (l : Launch) (base : Nat) (D : va_G) (cA : Nat → ClassId) (ad : Nat → Nat) (ty : zTyp) (I : zIt) (L : zLt) (P : zPt) (ni nc ns nt : Nat) (hC : zcls ni nc ns nt ty P) (i : Nat) (hi : i < ns) (hsc : I (48 + i) 5 = -1 ∨ (I (48 + i) 5 = nI (I (48 + i) 5).toNatClampNeg ∧ (I (48 + i) 5).toNatClampNeg < nc)) (hf : I 1 3 = nI (zNf I)) (hf8 : zNf I ≤ 128) : zMv l base D cA yX6_goOn cX6_goOn 2 3 66 0 0 [.ref (ad 0), .ref (ad (48 + i))] (zW base D cA ad ty I L P) (zW base D cA ad ty (zGo I (48 + i)) L P) := by
  refine z_start (by decide +kernel) (Nat.le_of_ble_eq_true rfl) fun p e s m below meth c ls M hP hS hl hr hlocks hnm => ?_
  have M : zM p s m c cX6_goOn RX6 2 base D cA := M
  have hw : zH base D cA s s.heap [] ad ty I L P := ⟨hP, hS⟩
  obtain ⟨hx, hb, -⟩ := id M
  have hl : lv_has ls 2 [(0, .ref (ad 0)), (1, .ref (ad (48 + i)))] := hl
  obtain ⟨hb1, hb2, hb3, hb4⟩ := zc_b hC
  refine lv_aload_n hx hb dX6_goOn_0 rfl (lv_at hl 1 rfl) ?_
  refine z_geti M hw (zc_tS hC (by omega)) zf_X6_155 dX6_goOn_1 ?_
  by_cases h1 : I (48 + i) 3 = 1
  · refine z_topi (y := 1) h1 ?_
    refine lv_lookup (off := 28) (tgt := 32) hx hb dX6_goOn_4 (by decide) (by decide) (by decide) ?_
    refine lv_aload_n hx hb dX6_goOn_32 rfl (lv_at hl 0 rfl) ?_
    refine lv_aload_n hx hb dX6_goOn_33 rfl (lv_at hl 1 rfl) ?_
    refine z_cv0 (z_runV (As := [.ref (ad (48 + i))]) (rest := []) M hw (zc_t0 hC) zc_X6_243 (c_X6_arrive l base D cA ad ty I L P ni nc ns nt hC i hi hsc) hw.1 rfl rfl ⟨Nat.le_of_ble_eq_true rfl, Nat.le_of_ble_eq_true rfl⟩ ⟨Nat.le_of_ble_eq_true rfl, Nat.le_of_ble_eq_true rfl⟩ hl.1 (Nat.le_of_ble_eq_true rfl) dX6_goOn_34) hw (fun H locs hw => ?_)
    refine lv_goto (tgt := 54) hx hb dX6_goOn_37 (by decide) ?_
    exact z_vret hx hb hr hw.2 (by unfold zGo; (try first | rw [if_pos h1] | rw [if_neg h1]); exact hw.1) (Nat.le_of_ble_eq_true rfl) (Nat.le_of_ble_eq_true rfl) dX6_goOn_54 hlocks
  by_cases h2 : I (48 + i) 3 = 2
  · refine z_topi (y := 2) h2 ?_
    refine lv_lookup (off := 36) (tgt := 40) hx hb dX6_goOn_4 (by decide) (by decide) (by decide) ?_
    refine lv_aload_n hx hb dX6_goOn_40 rfl (lv_at hl 1 rfl) ?_
    refine lv_iconst (v := 3) hx hb dX6_goOn_41 (by decide) ?_
    refine lv_iconst (v := 2) hx hb dX6_goOn_42 (by decide) ?_
    refine z_cv0 (z_runV (As := [.int 3, .int 2]) (rest := []) M hw (zc_tS hC (by omega)) zc_X6_246 (c_X3_begin l base D cA ad ty I L P (48 + i) 0 (zc_tS hC hi) 3 2) hw.1 rfl rfl ⟨Nat.le_of_ble_eq_true rfl, Nat.le_of_ble_eq_true rfl⟩ ⟨Nat.le_of_ble_eq_true rfl, Nat.le_of_ble_eq_true rfl⟩ hl.1 (Nat.le_of_ble_eq_true rfl) dX6_goOn_43) hw (fun H locs hw => ?_)
    refine lv_goto (tgt := 54) hx hb dX6_goOn_46 (by decide) ?_
    exact z_vret hx hb hr hw.2 (by unfold zGo; (try first | rw [if_pos h1] | rw [if_neg h1]); (try first | rw [if_pos h2] | rw [if_neg h2]); exact hw.1) (Nat.le_of_ble_eq_true rfl) (Nat.le_of_ble_eq_true rfl) dX6_goOn_54 hlocks
  refine lv_lookup (off := 45) (tgt := 49) hx hb dX6_goOn_4 (by decide) (by simp [Op.lookupswitch.offset, z_t1 1 rfl h1, z_t1 2 rfl h2]) (by decide) ?_
  refine lv_aload_n hx hb dX6_goOn_49 rfl (lv_at hl 0 rfl) ?_
  refine lv_aload_n hx hb dX6_goOn_50 rfl (lv_at hl 1 rfl) ?_
  refine z_cv0 (z_runV (As := [.ref (ad (48 + i))]) (rest := []) M hw (zc_t0 hC) zc_X6_249 (c_X6_mend l base D cA ad ty I L P ni nc ns nt hC i hi hsc (hf) (hf8)) hw.1 rfl rfl ⟨Nat.le_of_ble_eq_true rfl, Nat.le_of_ble_eq_true rfl⟩ ⟨Nat.le_of_ble_eq_true rfl, Nat.le_of_ble_eq_true rfl⟩ hl.1 (Nat.le_of_ble_eq_true rfl) dX6_goOn_51) hw (fun H locs hw => ?_)
  exact z_vret hx hb hr hw.2 (by unfold zGo; (try first | rw [if_pos h1] | rw [if_neg h1]); (try first | rw [if_pos h2] | rw [if_neg h2]); exact hw.1) (Nat.le_of_ble_eq_true rfl) (Nat.le_of_ble_eq_true rfl) dX6_goOn_54 hlocks
set_option maxHeartbeats 4000000 in
set_option maxRecDepth 100000 in
theorem c_X6_workHour (l : Launch) (base : Nat) (D : va_G) (cA : Nat → ClassId) (ad : Nat → Nat) (ty : zTyp) (I : zIt) (L : zLt) (P : zPt) (ni nc ns nt : Nat) (hC : zcls ni nc ns nt ty P) (i : Nat) (hi : i < ns) (hsc : I (48 + i) 5 = -1 ∨ (I (48 + i) 5 = nI (I (48 + i) 5).toNatClampNeg ∧ (I (48 + i) 5).toNatClampNeg < nc)) (hf : I 1 3 = nI (zNf I)) (hf8 : zNf I ≤ 128) : zMv l base D cA yX6_workHour cX6_workHour 2 4 87 0 0 [.ref (ad 0), .ref (ad (48 + i))] (zW base D cA ad ty I L P) (zW base D cA ad ty (zWork I (48 + i)) L P) := by
  refine z_start (by decide +kernel) (Nat.le_of_ble_eq_true rfl) fun p e s m below meth c ls M hP hS hl hr hlocks hnm => ?_
  have M : zM p s m c cX6_workHour RX6 2 base D cA := M
  have hw : zH base D cA s s.heap [] ad ty I L P := ⟨hP, hS⟩
  obtain ⟨hx, hb, -⟩ := id M
  have hl : lv_has ls 2 [(0, .ref (ad 0)), (1, .ref (ad (48 + i)))] := hl
  obtain ⟨hb1, hb2, hb3, hb4⟩ := zc_b hC
  refine lv_aload_n hx hb dX6_workHour_0 rfl (lv_at hl 1 rfl) ?_
  refine z_geti M hw (zc_tS hC (by omega)) zf_X6_155 dX6_workHour_1 ?_
  refine lv_if_ne (tgt := 8) hx hb dX6_workHour_4 (by decide) (fun c1 => ?_) (fun c1 => ?_)
  · skip
    refine lv_aload_n hx hb dX6_workHour_8 rfl (lv_at hl 1 rfl) ?_
    refine lv_dup hx hb dX6_workHour_9 rfl ?_
    refine z_geti M hw (zc_tS hC (by omega)) zf_X6_160 dX6_workHour_10 ?_
    refine lv_iconst (v := 1) hx hb dX6_workHour_13 (by decide) ?_
    refine lv_isub hx hb dX6_workHour_14 ?_
    refine z_puti M hw (zc_tS hC (by omega)) zf_X6_160 (Or.inl rfl) rfl rfl dX6_workHour_15 (fun H locs hw => ?_)
    refine lv_aload_n hx hb dX6_workHour_18 rfl (lv_at hl 1 rfl) ?_
    refine z_geti M hw (zc_tS hC (by omega)) zf_X6_160 dX6_workHour_19 ?_
    refine z_topi (y := (I (48 + i) 4) - 1) (by rw [zu_self]) ?_
    refine lv_if_ne (tgt := 30) hx hb dX6_workHour_22 (by decide) (fun c2 => ?_) (fun c2 => ?_)
    · skip
      exact z_vret hx hb hr hw.2 (by unfold zWork; (try first | rw [if_pos c1] | rw [if_neg c1]); (try first | rw [if_pos c2] | rw [if_neg c2]); exact hw.1) (Nat.le_of_ble_eq_true rfl) (Nat.le_of_ble_eq_true rfl) dX6_workHour_30 hlocks
    · skip
      refine lv_aload_n hx hb dX6_workHour_25 rfl (lv_at hl 0 rfl) ?_
      refine lv_aload_n hx hb dX6_workHour_26 rfl (lv_at hl 1 rfl) ?_
      refine z_cv0 (z_runV (As := [.ref (ad (48 + i))]) (rest := []) M hw (zc_t0 hC) zc_X6_240 (c_X6_goOn l base D cA ad ty (zu I (48 + i) 4 ((I (48 + i) 4) - 1)) L P ni nc ns nt hC i hi (zSc_c (by first | rfl | ((try simp only [zBeg]); (repeat rw [zu_ne _ _ (by omega)]))) hsc) ((zNfo_c (by first | rfl | ((try simp only [zBeg]); (repeat rw [zu_ne _ _ (by omega)]))) ⟨hf, hf8⟩).1) ((zNfo_c (by first | rfl | ((try simp only [zBeg]); (repeat rw [zu_ne _ _ (by omega)]))) ⟨hf, hf8⟩).2)) hw.1 rfl rfl ⟨Nat.le_of_ble_eq_true rfl, Nat.le_of_ble_eq_true rfl⟩ ⟨Nat.le_of_ble_eq_true rfl, Nat.le_of_ble_eq_true rfl⟩ hl.1 (Nat.le_of_ble_eq_true rfl) dX6_workHour_27) hw (fun H locs hw => ?_)
      exact z_vret hx hb hr hw.2 (by unfold zWork; (try first | rw [if_pos c1] | rw [if_neg c1]); (try first | rw [if_pos c2] | rw [if_neg c2]); exact hw.1) (Nat.le_of_ble_eq_true rfl) (Nat.le_of_ble_eq_true rfl) dX6_workHour_30 hlocks
  · skip
    exact z_vret hx hb hr hw.2 (by unfold zWork; (try first | rw [if_pos c1] | rw [if_neg c1]); exact hw.1) (Nat.le_of_ble_eq_true rfl) (Nat.le_of_ble_eq_true rfl) dX6_workHour_7 hlocks
set_option maxHeartbeats 4000000 in
set_option maxRecDepth 100000 in
theorem c_X6_setOff (l : Launch) (base : Nat) (D : va_G) (cA : Nat → ClassId) (ad : Nat → Nat) (ty : zTyp) (I : zIt) (L : zLt) (P : zPt) (ni nc ns nt : Nat) (hC : zcls ni nc ns nt ty P) (i : Nat) (hi : i < ns) (hsc : I (48 + i) 5 = -1 ∨ (I (48 + i) 5 = nI (I (48 + i) 5).toNatClampNeg ∧ (I (48 + i) 5).toNatClampNeg < nc)) (hf : I 1 3 = nI (zNf I)) (hf8 : zNf I ≤ 128) (a b : Int32) (hsp : ¬ I (48 + i) 0 = 0) : zMi l base D cA yX6_setOff cX6_setOff 5 .int 3 63 0 0 [.ref (ad 0), .ref (ad (48 + i)), .int a, .int b] (zW base D cA ad ty I L P) (zHours (I (48 + i) 1) (I (48 + i) 2) (I (48 + i) 0) a b) (zW base D cA ad ty (zSet I (48 + i) a b) L P) := by
  refine z_start (by decide +kernel) (Nat.le_of_ble_eq_true rfl) fun p e s m below meth c ls M hP hS hl hr hlocks hnm => ?_
  have M : zM p s m c cX6_setOff RX6 5 base D cA := M
  have hw : zH base D cA s s.heap [] ad ty I L P := ⟨hP, hS⟩
  obtain ⟨hx, hb, -⟩ := id M
  have hl : lv_has ls 5 [(0, .ref (ad 0)), (1, .ref (ad (48 + i))), (2, .int a), (3, .int b)] := hl
  obtain ⟨hb1, hb2, hb3, hb4⟩ := zc_b hC
  refine lv_aload_n hx hb dX6_setOff_0 rfl (lv_at hl 1 rfl) ?_
  refine lv_iload_n hx hb dX6_setOff_1 rfl (lv_at hl 2 rfl) ?_
  refine lv_iload_n hx hb dX6_setOff_2 rfl (lv_at hl 3 rfl) ?_
  refine z_ci0 (z_runV (As := [.int a, .int b]) (rest := []) M hw (zc_tS hC (by omega)) zc_X6_252 (c_X3_hoursTo l base D cA ad ty I L P (48 + i) 0 (zc_tS hC hi) a b hsp) hw.1 rfl rfl ⟨Nat.le_of_ble_eq_true rfl, Nat.le_of_ble_eq_true rfl⟩ ⟨Nat.le_of_ble_eq_true rfl, Nat.le_of_ble_eq_true rfl⟩ hl.1 (Nat.le_of_ble_eq_true rfl) dX6_setOff_3) hw (fun H locs hw => ?_)
  refine lv_istore (lv' := [(4, .int (zHours (I (48 + i) 1) (I (48 + i) 2) (I (48 + i) 0) a b)), (0, .ref (ad 0)), (1, .ref (ad (48 + i))), (2, .int a), (3, .int b)]) hx hb dX6_setOff_6 hl (by decide) rfl (fun ls hl => ?_)
  refine lv_aload_n hx hb dX6_setOff_8 rfl (lv_at hl 2 rfl) ?_
  refine lv_iload_n hx hb dX6_setOff_9 rfl (lv_at hl 3 rfl) ?_
  refine z_puti M hw (zc_tS hC (by omega)) zf_X6_158 (Or.inl rfl) rfl rfl dX6_setOff_10 (fun H locs hw => ?_)
  refine lv_aload_n hx hb dX6_setOff_13 rfl (lv_at hl 2 rfl) ?_
  refine lv_iload_n hx hb dX6_setOff_14 rfl (lv_at hl 4 rfl) ?_
  refine z_puti M hw (zc_tS hC (by omega)) zf_X6_159 (Or.inl rfl) rfl rfl dX6_setOff_15 (fun H locs hw => ?_)
  refine lv_aload_n hx hb dX6_setOff_18 rfl (lv_at hl 2 rfl) ?_
  refine lv_iconst (v := 1) hx hb dX6_setOff_19 (by decide) ?_
  refine lv_iload hx hb dX6_setOff_20 (lv_at hl 0 rfl) ?_
  refine z_cv0 (z_runV (As := [.int 1, .int (zHours (I (48 + i) 1) (I (48 + i) 2) (I (48 + i) 0) a b)]) (rest := []) M hw (zc_tS hC (by omega)) zc_X6_246 (c_X3_begin l base D cA ad ty (zu (zu I (48 + i) 1 a) (48 + i) 2 b) L P (48 + i) 0 (zc_tS hC hi) 1 (zHours (I (48 + i) 1) (I (48 + i) 2) (I (48 + i) 0) a b)) hw.1 rfl rfl ⟨Nat.le_of_ble_eq_true rfl, Nat.le_of_ble_eq_true rfl⟩ ⟨Nat.le_of_ble_eq_true rfl, Nat.le_of_ble_eq_true rfl⟩ hl.1 (Nat.le_of_ble_eq_true rfl) dX6_setOff_22) hw (fun H locs hw => ?_)
  refine lv_iload hx hb dX6_setOff_25 (lv_at hl 0 rfl) ?_
  refine lv_if_ne (tgt := 35) hx hb dX6_setOff_27 (by decide) (fun c1 => ?_) (fun c1 => ?_)
  · skip
    refine lv_iload hx hb dX6_setOff_35 (lv_at hl 0 rfl) ?_
    exact z_iret hx hb hr (by rfl) rfl hw.2 (by unfold zSet; (try first | rw [if_pos c1] | rw [if_neg c1]); exact hw.1) (Nat.le_of_ble_eq_true rfl) (Nat.le_of_ble_eq_true rfl) dX6_setOff_37 hlocks
  · skip
    refine lv_aload_n hx hb dX6_setOff_30 rfl (lv_at hl 1 rfl) ?_
    refine lv_aload_n hx hb dX6_setOff_31 rfl (lv_at hl 2 rfl) ?_
    refine z_cv0 (z_runV (As := [.ref (ad (48 + i))]) (rest := []) M hw (zc_t0 hC) zc_X6_243 (c_X6_arrive l base D cA ad ty (zBeg (zu (zu I (48 + i) 1 a) (48 + i) 2 b) (48 + i) 1 (zHours (I (48 + i) 1) (I (48 + i) 2) (I (48 + i) 0) a b)) L P ni nc ns nt hC i hi (zSc_c (by first | rfl | ((try simp only [zBeg]); (repeat rw [zu_ne _ _ (by omega)]))) hsc)) hw.1 rfl rfl ⟨Nat.le_of_ble_eq_true rfl, Nat.le_of_ble_eq_true rfl⟩ ⟨Nat.le_of_ble_eq_true rfl, Nat.le_of_ble_eq_true rfl⟩ hl.1 (Nat.le_of_ble_eq_true rfl) dX6_setOff_32) hw (fun H locs hw => ?_)
    refine lv_iload hx hb dX6_setOff_35 (lv_at hl 0 rfl) ?_
    exact z_iret hx hb hr (by rfl) rfl hw.2 (by unfold zSet; (try first | rw [if_pos c1] | rw [if_neg c1]); exact hw.1) (Nat.le_of_ble_eq_true rfl) (Nat.le_of_ble_eq_true rfl) dX6_setOff_37 hlocks
end
section
def zFs1 (nc : Nat) (q : zIt × zLt) (t : Nat) : zIt × zLt :=
  (zFound q.1 nc (zMt q.1 nc (zM0 (q.2 7) (q.1 (64 + t) 1).toNatClampNeg) 10).2 (q.1 (64 + t) 0).toNatClampNeg (q.1 (64 + t) 1).toNatClampNeg t, zs q.2 7 (zMt q.1 nc (zM0 (q.2 7) (q.1 (64 + t) 1).toNatClampNeg) 10).2)
def zFs (nc : Nat) (q : zIt × zLt) : Nat → zIt × zLt
  | 0 => q
  | k + 1 => zFs1 nc (zFs nc q k) k
def zStale (nc nt : Nat) (q : zIt × zLt) : zIt × zLt := if q.1 0 7 = 0 then q else (zu (zFs nc q nt).1 0 7 0, (zFs nc q nt).2)
def zShs (I : zIt) : Nat → zIt
  | 0 => I
  | k + 1 => zWork (zShs I k) (48 + k)
def zSett (q : zIt × zLt) : Nat → zIt × zLt
  | 0 => q
  | k + 1 => (zSetI (zSett q k).1 k, zSetL (zSett q k).1 (zSett q k).2 k)
def zHr (nc ns nt : Nat) (q : zIt × zLt) : zIt × zLt := zSett (zStale nc nt (zShs (zu q.1 0 8 (q.1 0 8 + 1)) ns, q.2)) nt
def zHrs (nc ns nt : Nat) (q : zIt × zLt) : Nat → zIt × zLt
  | 0 => q
  | k + 1 => zHr nc ns nt (zHrs nc ns nt q k)
section ZIP
variable {ni nc ns nt : Nat}
theorem zInv_zFs (hb : nc ≤ 16 ∧ ns ≤ 4 ∧ nt ≤ 12) (q : zIt × zLt) (h : zInv ni nc ns nt q.1) : ∀ k, k ≤ nt → zInv ni nc ns nt (zFs nc q k).1 := by
  intro k
  induction k with
  | zero => intro _; exact h
  | succ k ih => intro hk; exact zInv_zFound hb (ih (by omega))
theorem zInv_zStale (hb : nc ≤ 16 ∧ ns ≤ 4 ∧ nt ≤ 12) (q : zIt × zLt) (h : zInv ni nc ns nt q.1) : zInv ni nc ns nt (zStale nc nt q).1 := by
  unfold zStale
  split
  · exact h
  · exact zInv_zu hb (by unfold zHl; omega) (zInv_zFs hb q h nt (Nat.le_refl _))
theorem zInv_zShs (hb : nc ≤ 16 ∧ ns ≤ 4 ∧ nt ≤ 12) (I : zIt) (h : zInv ni nc ns nt I) : ∀ k, k ≤ ns → zInv ni nc ns nt (zShs I k) := by
  intro k
  induction k with
  | zero => intro _; exact h
  | succ k ih => intro hk; exact zInv_zWork hb (by omega) (ih (by omega))
theorem zInv_zSett (hb : nc ≤ 16 ∧ ns ≤ 4 ∧ nt ≤ 12) (q : zIt × zLt) (h : zInv ni nc ns nt q.1) : ∀ k, k ≤ nt → zInv ni nc ns nt (zSett q k).1 := by
  intro k
  induction k with
  | zero => intro _; exact h
  | succ k ih => intro hk; exact zInv_zSetI hb (by omega) (ih (by omega))
theorem zInv_zHr (hb : nc ≤ 16 ∧ ns ≤ 4 ∧ nt ≤ 12) (q : zIt × zLt) (h : zInv ni nc ns nt q.1) : zInv ni nc ns nt (zHr nc ns nt q).1 :=
  zInv_zSett hb _ (zInv_zStale hb _ (zInv_zShs hb _ (zInv_zu hb (by unfold zHl; omega) h) ns (Nat.le_refl _))) nt (Nat.le_refl _)
theorem zInv_zHrs (hb : nc ≤ 16 ∧ ns ≤ 4 ∧ nt ≤ 12) (q : zIt × zLt) (h : zInv ni nc ns nt q.1) : ∀ k, zInv ni nc ns nt (zHrs nc ns nt q k).1 := by
  intro k
  induction k with
  | zero => exact h
  | succ k ih => exact zInv_zHr hb _ ih
end ZIP
end
section
set_option maxHeartbeats 4000000 in
set_option maxRecDepth 100000 in
theorem c_X6_findStaleWays (l : Launch) (base : Nat) (D : va_G) (cA : Nat → ClassId) (ad : Nat → Nat) (ty : zTyp) (I : zIt) (L : zLt) (P : zPt) (ni nc ns nt : Nat) (hC : zcls ni nc ns nt ty P) (hI : zInv ni nc ns nt I) (hfin : zFin nc) : zMv l base D cA yX6_findStaleWays cX6_findStaleWays 2 4 96 0 0 [.ref (ad 0)] (zW base D cA ad ty I L P) (zW base D cA ad ty (zStale nc nt (I, L)).1 (zStale nc nt (I, L)).2 P) := by
  refine z_start (by decide +kernel) (Nat.le_of_ble_eq_true rfl) fun p e s m below meth c ls M hP hS hl hr hlocks hnm => ?_
  have M : zM p s m c cX6_findStaleWays RX6 2 base D cA := M
  have hw : zH base D cA s s.heap [] ad ty I L P := ⟨hP, hS⟩
  obtain ⟨hx, hb, -⟩ := id M
  have hl : lv_has ls 2 [(0, .ref (ad 0))] := hl
  obtain ⟨hb1, hb2, hb3, hb4⟩ := zc_b hC
  have hbb : nc ≤ 16 ∧ ns ≤ 4 ∧ nt ≤ 12 := ⟨hb2, hb3, hb4⟩
  refine lv_aload_n hx hb dX6_findStaleWays_0 rfl (lv_at hl 0 rfl) ?_
  refine z_geti M hw (zc_t0 hC) zf_X6_44 dX6_findStaleWays_1 ?_
  refine lv_if_ne (tgt := 8) hx hb dX6_findStaleWays_4 (by decide) (fun c1 => ?_) (fun c1 => ?_)
  · skip
    refine lv_iconst (v := 0) hx hb dX6_findStaleWays_8 (by decide) ?_
    refine lv_istore_n (lv' := [(1, .int 0), (0, .ref (ad 0))]) hx hb dX6_findStaleWays_9 rfl hl (by decide) rfl (fun ls hl => ?_)
    refine z_loop (nt) (fun (k : Nat) H locs ls => ∃ (J : zIt), ∃ (K : zLt), (zFs nc (I, L) k = (J, K)) ∧ zH base D cA s H locs ad ty J K P ∧ lv_has ls 2 [(0, .ref (ad 0)), (1, .int (nI k))]) 0 ⟨_, _, rfl, hw, lv_sub hl [1, 0] rfl⟩ (by omega) (fun k hk_k ih_k H locs ls hI => ?_)
    obtain ⟨J, K, hq, hw, hl⟩ := hI
    have hJ : zInv ni nc ns nt J := by have := zInv_zFs hbb (I, L) hI k hk_k; rw [hq] at this; exact this
    refine lv_iload_n hx hb dX6_findStaleWays_10 rfl (lv_at hl 1 rfl) ?_
    refine lv_aload_n hx hb dX6_findStaleWays_11 rfl (lv_at hl 0 rfl) ?_
    refine z_geti M hw (zc_t0 hC) zf_X6_41 dX6_findStaleWays_12 ?_
    refine z_topi (y := nI nt) hJ.1.2.2.2 ?_
    refine lv_icmp_ge (tgt := 58) hx hb dX6_findStaleWays_15 (by decide) (fun c2 => ?_) (fun c2 => ?_)
    · skip
      have hge : nt = k := Nat.le_antisymm (z_ge (show nI nt ≤ nI k from c2) (by omega) (by omega)) (by omega)
      refine lv_aload_n hx hb dX6_findStaleWays_58 rfl (lv_at hl 0 rfl) ?_
      refine lv_iconst (v := 0) hx hb dX6_findStaleWays_59 (by decide) ?_
      refine z_puti M hw (zc_t0 hC) zf_X6_44 (Or.inl rfl) rfl rfl dX6_findStaleWays_60 (fun H locs hw => ?_)
      exact z_vret hx hb hr hw.2 (by unfold zStale; rw [if_neg c1, hge, hq]; exact hw.1) (Nat.le_of_ble_eq_true rfl) (Nat.le_of_ble_eq_true rfl) dX6_findStaleWays_63 hlocks
    · skip
      have hlt : k < nt := z_lt (show ¬ nI nt ≤ nI k from c2) (by omega)
      obtain ⟨u, v, hu, hv, eu, ev⟩ := hJ.2.2.2.2 k hlt
      refine lv_aload_n hx hb dX6_findStaleWays_18 rfl (lv_at hl 0 rfl) ?_
      refine z_getr M hw (zc_t0 hC) zf_X6_22 (zc_p02 hC) dX6_findStaleWays_19 ?_
      refine lv_aload_n hx hb dX6_findStaleWays_22 rfl (lv_at hl 0 rfl) ?_
      refine z_getr M hw (zc_t0 hC) zf_X6_37 (zc_p05 hC) dX6_findStaleWays_23 ?_
      refine lv_iload_n hx hb dX6_findStaleWays_26 rfl (lv_at hl 1 rfl) ?_
      refine z_aNald M hw (e9 := 6) (zc_t5 hC) ⟨by decide, rfl⟩ rfl ⟨by omega, by omega⟩ (zc_pT hC (by omega)) dX6_findStaleWays_27 ?_
      refine z_geti M hw (zc_tT hC (by omega)) zf_X6_189 dX6_findStaleWays_28 ?_
      refine z_topi (y := nI u) eu ?_
      refine lv_aload_n hx hb dX6_findStaleWays_31 rfl (lv_at hl 0 rfl) ?_
      refine z_getr M hw (zc_t0 hC) zf_X6_37 (zc_p05 hC) dX6_findStaleWays_32 ?_
      refine lv_iload_n hx hb dX6_findStaleWays_35 rfl (lv_at hl 1 rfl) ?_
      refine z_aNald M hw (e9 := 6) (zc_t5 hC) ⟨by decide, rfl⟩ rfl ⟨by omega, by omega⟩ (zc_pT hC (by omega)) dX6_findStaleWays_36 ?_
      refine z_geti M hw (zc_tT hC (by omega)) zf_X6_192 dX6_findStaleWays_37 ?_
      refine z_topi (y := nI v) ev ?_
      refine lv_aload_n hx hb dX6_findStaleWays_40 rfl (lv_at hl 0 rfl) ?_
      refine z_getr M hw (zc_t0 hC) zf_X6_37 (zc_p05 hC) dX6_findStaleWays_41 ?_
      refine lv_iload_n hx hb dX6_findStaleWays_44 rfl (lv_at hl 1 rfl) ?_
      refine z_aNald M hw (e9 := 6) (zc_t5 hC) ⟨by decide, rfl⟩ rfl ⟨by omega, by omega⟩ (zc_pT hC (by omega)) dX6_findStaleWays_45 ?_
      refine z_getr M hw (zc_tT hC (by omega)) zf_X6_171 (zc_pW hC (by omega)) dX6_findStaleWays_46 ?_
      refine z_cv0 (z_runV (As := [.int (nI u), .int (nI v), .ref (ad (80 + k))]) (rest := []) M hw (zc_t1 hC) zc_X6_230 (c_X2_findWay l base D cA ad ty J K P ni nc ns nt hC hJ.1.2.1 (zInv_ends hJ) u v k hu hv hlt (fun h => hfin J hJ.2.2.1 u v (K 7) _ hu hv h)) hw.1 rfl rfl ⟨Nat.le_of_ble_eq_true rfl, Nat.le_of_ble_eq_true rfl⟩ ⟨Nat.le_of_ble_eq_true rfl, Nat.le_of_ble_eq_true rfl⟩ hl.1 (Nat.le_of_ble_eq_true rfl) dX6_findStaleWays_49) hw (fun H locs hw => ?_)
      refine lv_iinc (v := nI (k + 1)) (lv' := [(1, .int (nI (k + 1))), (0, .ref (ad 0))]) hx hb dX6_findStaleWays_52 hl (k := 1) rfl (nI_succ _).symm (by decide) rfl (fun ls hl => ?_)
      refine lv_goto (tgt := 10) hx hb dX6_findStaleWays_55 (by decide) ?_
      exact ih_k hlt _ _ _ ⟨_, _, (by rw [show zFs nc (I, L) (k + 1) = zFs1 nc (zFs nc (I, L) k) k from rfl, hq]; unfold zFs1; dsimp only; rw [eu, ev, nI_clamp (show u < 2 ^ 31 by omega), nI_clamp (show v < 2 ^ 31 by omega)]), hw, lv_sub hl [1, 0] rfl⟩
  · skip
    exact z_vret hx hb hr hw.2 (by unfold zStale; rw [if_pos c1]; exact hw.1) (Nat.le_of_ble_eq_true rfl) (Nat.le_of_ble_eq_true rfl) dX6_findStaleWays_7 hlocks
set_option maxHeartbeats 4000000 in
set_option maxRecDepth 100000 in
theorem c_X6_passHour (l : Launch) (base : Nat) (D : va_G) (cA : Nat → ClassId) (ad : Nat → Nat) (ty : zTyp) (I : zIt) (L : zLt) (P : zPt) (ni nc ns nt : Nat) (hC : zcls ni nc ns nt ty P) (hI : zInv ni nc ns nt I) (hfin : zFin nc) : zMv l base D cA yX6_passHour cX6_passHour 2 5 117 0 0 [.ref (ad 0)] (zW base D cA ad ty I L P) (zW base D cA ad ty (zHr nc ns nt (I, L)).1 (zHr nc ns nt (I, L)).2 P) := by
  refine z_start (by decide +kernel) (Nat.le_of_ble_eq_true rfl) fun p e s m below meth c ls M hP hS hl hr hlocks hnm => ?_
  have M : zM p s m c cX6_passHour RX6 2 base D cA := M
  have hw : zH base D cA s s.heap [] ad ty I L P := ⟨hP, hS⟩
  obtain ⟨hx, hb, -⟩ := id M
  have hl : lv_has ls 2 [(0, .ref (ad 0))] := hl
  obtain ⟨hb1, hb2, hb3, hb4⟩ := zc_b hC
  have hbb : nc ≤ 16 ∧ ns ≤ 4 ∧ nt ≤ 12 := ⟨hb2, hb3, hb4⟩
  refine lv_aload_n hx hb dX6_passHour_0 rfl (lv_at hl 0 rfl) ?_
  refine lv_dup hx hb dX6_passHour_1 rfl ?_
  refine z_geti M hw (zc_t0 hC) zf_X6_48 dX6_passHour_2 ?_
  refine lv_iconst (v := 1) hx hb dX6_passHour_5 (by decide) ?_
  refine lv_iadd hx hb dX6_passHour_6 ?_
  refine z_puti M hw (zc_t0 hC) zf_X6_48 (Or.inl rfl) rfl rfl dX6_passHour_7 (fun H locs hw => ?_)
  refine lv_iconst (v := 0) hx hb dX6_passHour_10 (by decide) ?_
  refine lv_istore_n (lv' := [(1, .int 0), (0, .ref (ad 0))]) hx hb dX6_passHour_11 rfl hl (by decide) rfl (fun ls hl => ?_)
  have hI1 : zInv ni nc ns nt (zu I 0 8 (I 0 8 + 1)) := zInv_zu hbb (by unfold zHl; omega) hI
  refine z_loop (ns) (fun (k : Nat) H locs ls => zH base D cA s H locs ad ty (zShs (zu I 0 8 (I 0 8 + 1)) k) L P ∧ lv_has ls 2 [(0, .ref (ad 0)), (1, .int (nI k))]) 0 ⟨hw, lv_sub hl [1, 0] rfl⟩ (by omega) (fun k hk_k ih_k H locs ls hI => ?_)
  obtain ⟨hw, hl⟩ := hI
  have hJ := zInv_zShs hbb (zu I 0 8 (I 0 8 + 1)) hI1 k hk_k
  refine lv_iload_n hx hb dX6_passHour_12 rfl (lv_at hl 1 rfl) ?_
  refine lv_aload_n hx hb dX6_passHour_13 rfl (lv_at hl 0 rfl) ?_
  refine z_geti M hw (zc_t0 hC) zf_X6_32 dX6_passHour_14 ?_
  refine z_topi (y := nI ns) hJ.1.2.2.1 ?_
  refine lv_icmp_ge (tgt := 36) hx hb dX6_passHour_17 (by decide) (fun c1 => ?_) (fun c1 => ?_)
  · skip
    have hge : ns = k := Nat.le_antisymm (z_ge (show nI ns ≤ nI k from c1) (by omega) (by omega)) (by omega)
    subst hge
    refine lv_aload_n hx hb dX6_passHour_36 rfl (lv_at hl 0 rfl) ?_
    refine z_cv0 (z_runV (As := []) (rest := []) M hw (zc_t0 hC) zc_X6_168 (c_X6_findStaleWays l base D cA ad ty (zShs (zu I 0 8 (I 0 8 + 1)) ns) L P ni nc ns nt hC (zInv_zShs hbb _ hI1 ns (Nat.le_refl _)) hfin) hw.1 rfl rfl ⟨Nat.le_of_ble_eq_true rfl, Nat.le_of_ble_eq_true rfl⟩ ⟨Nat.le_of_ble_eq_true rfl, Nat.le_of_ble_eq_true rfl⟩ hl.1 (Nat.le_of_ble_eq_true rfl) dX6_passHour_37) hw (fun H locs hw => ?_)
    obtain ⟨q, hqd⟩ : ∃ q, q = zStale nc nt (zShs (zu I 0 8 (I 0 8 + 1)) ns, L) := ⟨_, rfl⟩
    rw [← hqd] at hw
    have hq0 : zInv ni nc ns nt q.1 := by rw [hqd]; exact zInv_zStale hbb _ (zInv_zShs hbb _ hI1 ns (Nat.le_refl _))
    refine lv_iconst (v := 0) hx hb dX6_passHour_40 (by decide) ?_
    refine lv_istore_n (lv' := [(1, .int 0), (0, .ref (ad 0))]) hx hb dX6_passHour_41 rfl hl (by decide) rfl (fun ls hl => ?_)
    refine z_loop (nt) (fun (k : Nat) H locs ls => zH base D cA s H locs ad ty ((zSett q k).1) ((zSett q k).2) P ∧ lv_has ls 2 [(0, .ref (ad 0)), (1, .int (nI k))]) 0 ⟨hw, lv_sub hl [1, 0] rfl⟩ (by omega) (fun k hk_k ih_k H locs ls hI => ?_)
    obtain ⟨hw, hl⟩ := hI
    have hJ := zInv_zSett hbb q hq0 k hk_k
    refine lv_iload_n hx hb dX6_passHour_42 rfl (lv_at hl 1 rfl) ?_
    refine lv_aload_n hx hb dX6_passHour_43 rfl (lv_at hl 0 rfl) ?_
    refine z_geti M hw (zc_t0 hC) zf_X6_41 dX6_passHour_44 ?_
    refine z_topi (y := nI nt) hJ.1.2.2.2 ?_
    refine lv_icmp_ge (tgt := 65) hx hb dX6_passHour_47 (by decide) (fun c2 => ?_) (fun c2 => ?_)
    · skip
      have hge : nt = k := Nat.le_antisymm (z_ge (show nI nt ≤ nI k from c2) (by omega) (by omega)) (by omega)
      subst hge
      exact z_vret hx hb hr hw.2 (by unfold zHr; dsimp only; rw [← hqd]; exact hw.1) (Nat.le_of_ble_eq_true rfl) (Nat.le_of_ble_eq_true rfl) dX6_passHour_65 hlocks
    · skip
      have hlt : k < nt := z_lt (show ¬ nI nt ≤ nI k from c2) (by omega)
      refine lv_aload_n hx hb dX6_passHour_50 rfl (lv_at hl 0 rfl) ?_
      refine z_getr M hw (zc_t0 hC) zf_X6_37 (zc_p05 hC) dX6_passHour_51 ?_
      refine lv_iload_n hx hb dX6_passHour_54 rfl (lv_at hl 1 rfl) ?_
      refine z_aNald M hw (e9 := 6) (zc_t5 hC) ⟨by decide, rfl⟩ rfl ⟨by omega, by omega⟩ (zc_pT hC (by omega)) dX6_passHour_55 ?_
      refine z_cv0 (z_runV (As := []) (rest := []) M hw (zc_tT hC (by omega)) zc_X6_237 (c_X4_settleHour l base D cA ad ty (zSett q k).1 (zSett q k).2 P ni nc ns nt hC k hlt) hw.1 rfl rfl ⟨Nat.le_of_ble_eq_true rfl, Nat.le_of_ble_eq_true rfl⟩ ⟨Nat.le_of_ble_eq_true rfl, Nat.le_of_ble_eq_true rfl⟩ hl.1 (Nat.le_of_ble_eq_true rfl) dX6_passHour_56) hw (fun H locs hw => ?_)
      refine lv_iinc (v := nI (k + 1)) (lv' := [(1, .int (nI (k + 1))), (0, .ref (ad 0))]) hx hb dX6_passHour_59 hl (k := 1) rfl (nI_succ _).symm (by decide) rfl (fun ls hl => ?_)
      refine lv_goto (tgt := 42) hx hb dX6_passHour_62 (by decide) ?_
      exact ih_k hlt _ _ _ ⟨hw, lv_sub hl [1, 0] rfl⟩
  · skip
    have hlt : k < ns := z_lt (show ¬ nI ns ≤ nI k from c1) (by omega)
    refine lv_aload_n hx hb dX6_passHour_20 rfl (lv_at hl 0 rfl) ?_
    refine lv_aload_n hx hb dX6_passHour_21 rfl (lv_at hl 0 rfl) ?_
    refine z_getr M hw (zc_t0 hC) zf_X6_28 (zc_p03 hC) dX6_passHour_22 ?_
    refine lv_iload_n hx hb dX6_passHour_25 rfl (lv_at hl 1 rfl) ?_
    refine z_aNald M hw (e9 := 5) (zc_t4 hC) ⟨by decide, rfl⟩ rfl ⟨by omega, by omega⟩ (zc_pS hC (by omega)) dX6_passHour_26 ?_
    refine z_cv0 (z_runV (As := [.ref (ad (48 + k))]) (rest := []) M hw (zc_t0 hC) zc_X6_234 (c_X6_workHour l base D cA ad ty (zShs (zu I 0 8 (I 0 8 + 1)) k) L P ni nc ns nt hC k hlt (hJ.2.2.2.1 k hlt).1 hJ.2.1.1 hJ.2.1.2) hw.1 rfl rfl ⟨Nat.le_of_ble_eq_true rfl, Nat.le_of_ble_eq_true rfl⟩ ⟨Nat.le_of_ble_eq_true rfl, Nat.le_of_ble_eq_true rfl⟩ hl.1 (Nat.le_of_ble_eq_true rfl) dX6_passHour_27) hw (fun H locs hw => ?_)
    refine lv_iinc (v := nI (k + 1)) (lv' := [(1, .int (nI (k + 1))), (0, .ref (ad 0))]) hx hb dX6_passHour_30 hl (k := 1) rfl (nI_succ _).symm (by decide) rfl (fun ls hl => ?_)
    refine lv_goto (tgt := 12) hx hb dX6_passHour_33 (by decide) ?_
    exact ih_k hlt _ _ _ ⟨hw, lv_sub hl [1, 0] rfl⟩
end
section
theorem zoS_z {I : zIt} {nc : Nat} {i k : Int32} (h : zoS I nc i k = 0) : zlt i nc ∧ zlt k (zSpn I i) := by
  unfold zoS zsq at h
  split at h
  · rename_i h1
    exact ⟨zo1_z h1, zo1_z h⟩
  · rename_i h1
    exact absurd h h1
/-- spans, as the chart takes them -/
theorem zInv_span {ni nc ns nt : Nat} {I : zIt} (h : zInv ni nc ns nt I) : ∀ i, i < nc → I (32 + i) 2 = nI (I (32 + i) 2).toNatClampNeg ∧ (I (32 + i) 2).toNatClampNeg ≤ 8 := by
  intro i hi
  obtain ⟨a, b, n, d, p, -, -, h1, h2, -, -, -, -, -, h3, -⟩ := h.2.2.1 i hi
  rw [h3, nI_clamp (by omega)]
  exact ⟨rfl, h2⟩
/-- the lengths of the ways -/
def zWl (nt : Nat) (I : zIt) : Prop := ∀ t, t < nt → I (80 + t) 1 = -1 ∨ ∃ j, j ≤ 9 ∧ I (80 + t) 1 = nI j
theorem zFw_len (I : zIt) (nc : Nat) (f : Nat → Int64) (v u : Nat) (row : Nat → Int32) : ∀ k, (zFw I nc f v u row k).2.1 ≤ k := by
  intro k
  induction k with
  | zero => exact Nat.le_refl 0
  | succ k ih =>
    show (zFw1 I nc f v (zFw I nc f v u row k)).2.1 ≤ k + 1
    unfold zFw1
    split
    · omega
    · split
      · omega
      · simp only; omega
theorem zFound_ne {I : zIt} {nc : Nat} {f : Nat → Int64} {u v t κ : Nat} (h1 : κ ≠ 80 + t) (h2 : κ ≠ 96 + t) : zFound I nc f u v t κ = I κ := by
  unfold zFound
  split
  · rw [zWay_ne h1 h2]
  · rw [zWay_ne h1 h2]
theorem zWl_fs {nt nc : Nat} (hnt : nt ≤ 12) (q : zIt × zLt) : ∀ k, k ≤ nt → ∀ x, x < nt → (x < k ∨ (q.1 (80 + x) 1 = -1 ∨ ∃ j, j ≤ 9 ∧ q.1 (80 + x) 1 = nI j)) → ((zFs nc q k).1 (80 + x) 1 = -1 ∨ ∃ j, j ≤ 9 ∧ (zFs nc q k).1 (80 + x) 1 = nI j) := by
  intro k
  induction k with
  | zero =>
    intro _ x _ h
    rcases h with h | h
    · omega
    · exact h
  | succ k ih =>
    intro hk x hx h
    show (zFs1 nc (zFs nc q k) k).1 (80 + x) 1 = -1 ∨ ∃ j, j ≤ 9 ∧ (zFs1 nc (zFs nc q k) k).1 (80 + x) 1 = nI j
    unfold zFs1
    dsimp only
    by_cases hxk : x = k
    · subst hxk
      unfold zFound
      split
      · exact Or.inl zWay_1
      · exact Or.inr ⟨_, zFw_len _ _ _ _ _ _ 9, zWay_1⟩
    · rw [zFound_ne (by omega) (by omega)]
      refine ih (by omega) x hx ?_
      rcases h with h | h
      · exact Or.inl (by omega)
      · exact Or.inr h
theorem zWl_stale {nt nc : Nat} (hnt : nt ≤ 12) {q : zIt × zLt} (h : zWl nt q.1) : zWl nt (zStale nc nt q).1 := by
  unfold zStale
  split
  · exact h
  · intro x hx
    dsimp only
    rw [zu_ne _ _ (by omega)]
    exact zWl_fs hnt q nt (Nat.le_refl _) x hx (Or.inl hx)
theorem zge0 {q : Int32} (h : ¬ q < 0) : q = nI q.toNatClampNeg ∧ q.toNatClampNeg < 2 ^ 31 := by
  have h0 : (0 : Int32).toInt = 0 := by decide
  rw [Int32.lt_iff_toInt_lt, h0] at h
  have hb : q.toInt < 2 ^ 31 := Int32.toInt_lt q
  have hc : q.toNatClampNeg = q.toInt.toNat := rfl
  refine ⟨Int32.toInt_inj.mp ?_, by omega⟩
  rw [nI_toInt (by omega)]
  omega
theorem zway_ix {q x : Int32} (h : ¬ q < 0) (hx : x = -1 ∨ ∃ j, j ≤ 9 ∧ x = nI j) : q < x → q = nI q.toNatClampNeg ∧ q.toNatClampNeg < 9 := by
  intro h2
  obtain ⟨e1, e2⟩ := zge0 h
  refine ⟨e1, ?_⟩
  have h0 : (0 : Int32).toInt = 0 := by decide
  have hc : q.toNatClampNeg = q.toInt.toNat := rfl
  rw [Int32.lt_iff_toInt_lt, h0] at h
  rw [Int32.lt_iff_toInt_lt] at h2
  rcases hx with rfl | ⟨j, h3, rfl⟩
  · have : (-1 : Int32).toInt = -1 := by decide
    omega
  · rw [nI_toInt (by omega)] at h2
    omega
end
section
set_option maxHeartbeats 4000000 in
set_option maxRecDepth 100000 in
theorem c_X6_price (l : Launch) (base : Nat) (D : va_G) (cA : Nat → ClassId) (ad : Nat → Nat) (ty : zTyp) (I : zIt) (L : zLt) (P : zPt) (hl0 : l.stackTraces = false) (ni nc ns nt : Nat) (hC : zcls ni nc ns nt ty P) (hI : zInv ni nc ns nt I) (i x : Int32) : zXi l base D cA yX6_price cX6_price 4 .int 7 112 2 12 [.ref (ad 0), .int i, .int x] (zW base D cA ad ty I L P) (zsq (zo1 i nc) (zo2 x 0 9999)) (I (32 + i.toNatClampNeg) 4) (zW base D cA ad ty (zu (zu I (32 + i.toNatClampNeg) 4 x) 0 7 1) L P) := by
  refine z_xstart (by decide +kernel) (Nat.le_of_ble_eq_true rfl) fun p e s m below meth c ls M hP hS hl hr hlocks hnm hout => ?_
  have M : zM p s m c cX6_price RX6 4 base D cA := M
  have hw : zH base D cA s s.heap [] ad ty I L P := ⟨hP, hS⟩
  obtain ⟨hx, hb, -⟩ := id M
  have hl : lv_has ls 4 [(0, .ref (ad 0)), (1, .int i), (2, .int x)] := hl
  obtain ⟨hb1, hb2, hb3, hb4⟩ := zc_b hC
  have hbb : nc ≤ 16 ∧ ns ≤ 4 ∧ nt ≤ 12 := ⟨hb2, hb3, hb4⟩
  refine lv_iload_n hx hb dX6_price_0 rfl (lv_at hl 1 rfl) ?_
  refine lv_aload_n hx hb dX6_price_1 rfl (lv_at hl 0 rfl) ?_
  refine z_getr M hw (zc_t0 hC) zf_X6_22 (zc_p02 hC) dX6_price_2 ?_
  refine z_geti M hw (zc_t1 hC) zf_X6_67 dX6_price_5 ?_
  refine z_topi (y := nI nc) hI.1.2.1 ?_
  refine z_xcv (z_xrunS (As := [.int i, .int (nI nc)]) (rest := []) M hw.2 zc_X6_61 zn_X6_61 (c_X6_checkIndex l base D cA ad ty I L P hl0 i nc (by omega)) hw.1 rfl rfl ⟨Nat.le_of_ble_eq_true rfl, Nat.le_of_ble_eq_true rfl⟩ ⟨Nat.le_of_ble_eq_true rfl, Nat.le_of_ble_eq_true rfl⟩ hl.1 (Nat.le_of_ble_eq_true rfl) dX6_price_8) hw.2 (fun c1 ce q H locs hw0 hS hq hv hcl => ?_) (fun c1 H locs hw1 hS => ?_)
  · exact z_xout c1 (by (try unfold zsq); (try first | rw [if_pos c1] | rw [if_neg c1]); (try first | rfl | assumption)) hw0 hS hq hv hcl hout (Nat.le_of_ble_eq_true rfl) (Nat.le_of_ble_eq_true rfl) hlocks
  have hw : zH base D cA s H locs ad ty I L P := ⟨hw1, hS⟩
  have hi := zo1_z c1
  have qi := (zlt_nat hi).2
  rw [(zlt_nat hi).1] at hl
  refine lv_iload_n hx hb dX6_price_11 rfl (lv_at hl 2 rfl) ?_
  refine lv_iconst (v := 0) hx hb dX6_price_12 (by decide) ?_
  refine lv_sipush (v := 9999) hx hb dX6_price_13 (by decide) ?_
  refine z_xcv (z_xrunS (As := [.int x, .int 0, .int 9999]) (rest := []) M hw.2 zc_X6_51 zn_X6_51 (c_X6_checkRange l base D cA ad ty I L P hl0 x 0 9999) hw.1 rfl rfl ⟨Nat.le_of_ble_eq_true rfl, Nat.le_of_ble_eq_true rfl⟩ ⟨Nat.le_of_ble_eq_true rfl, Nat.le_of_ble_eq_true rfl⟩ hl.1 (Nat.le_of_ble_eq_true rfl) dX6_price_16) hw.2 (fun c2 ce q H locs hw0 hS hq hv hcl => ?_) (fun c2 H locs hw1 hS => ?_)
  · exact z_xout c2 (by (try unfold zsq); (try first | rw [if_pos c1] | rw [if_neg c1]); (try first | rw [if_pos c2] | rw [if_neg c2]); (try first | rfl | assumption)) hw0 hS hq hv hcl hout (Nat.le_of_ble_eq_true rfl) (Nat.le_of_ble_eq_true rfl) hlocks
  have hw : zH base D cA s H locs ad ty I L P := ⟨hw1, hS⟩
  have zc2 := zo2_z c2
  refine lv_aload_n hx hb dX6_price_19 rfl (lv_at hl 0 rfl) ?_
  refine z_getr M hw (zc_t0 hC) zf_X6_22 (zc_p02 hC) dX6_price_20 ?_
  refine z_getr M hw (zc_t1 hC) zf_X6_79 (zc_p10 hC) dX6_price_23 ?_
  refine lv_iload_n hx hb dX6_price_26 rfl (lv_at hl 1 rfl) ?_
  refine z_aNald M hw (e9 := 3) (zc_t3 hC) ⟨by decide, rfl⟩ rfl ⟨by omega, by omega⟩ (zc_pC hC (by omega)) dX6_price_27 ?_
  refine z_geti M hw (zc_tC hC (by omega)) zf_X6_83 dX6_price_28 ?_
  refine lv_topi (fun x3 ex3 => ?_)
  refine lv_istore_n (lv' := [(3, .int x3), (0, .ref (ad 0)), (1, .int (nI i.toNatClampNeg)), (2, .int x)]) hx hb dX6_price_31 rfl hl (by decide) rfl (fun ls hl => ?_)
  refine lv_aload_n hx hb dX6_price_32 rfl (lv_at hl 1 rfl) ?_
  refine z_getr M hw (zc_t0 hC) zf_X6_22 (zc_p02 hC) dX6_price_33 ?_
  refine z_getr M hw (zc_t1 hC) zf_X6_79 (zc_p10 hC) dX6_price_36 ?_
  refine lv_iload_n hx hb dX6_price_39 rfl (lv_at hl 2 rfl) ?_
  refine z_aNald M hw (e9 := 3) (zc_t3 hC) ⟨by decide, rfl⟩ rfl ⟨by omega, by omega⟩ (zc_pC hC (by omega)) dX6_price_40 ?_
  refine lv_iload_n hx hb dX6_price_41 rfl (lv_at hl 3 rfl) ?_
  refine z_puti M hw (zc_tC hC (by omega)) zf_X6_83 (Or.inl rfl) rfl rfl dX6_price_42 (fun H locs hw => ?_)
  refine lv_aload_n hx hb dX6_price_45 rfl (lv_at hl 1 rfl) ?_
  refine lv_iconst (v := 1) hx hb dX6_price_46 (by decide) ?_
  refine z_puti M hw (zc_t0 hC) zf_X6_44 (Or.inl rfl) rfl rfl dX6_price_47 (fun H locs hw => ?_)
  refine lv_iload_n hx hb dX6_price_50 rfl (lv_at hl 0 rfl) ?_
  exact z_xiret hx hb hr ⟨(by first | rfl | assumption), (by (try unfold zsq); (try first | rw [if_pos c1] | rw [if_neg c1]); (try first | rw [if_pos c2] | rw [if_neg c2]); (try first | rfl | assumption))⟩ rfl hw.2 hw.1 (Nat.le_of_ble_eq_true rfl) (Nat.le_of_ble_eq_true rfl) dX6_price_51 hlocks
set_option maxHeartbeats 4000000 in
set_option maxRecDepth 100000 in
theorem c_X6_works (l : Launch) (base : Nat) (D : va_G) (cA : Nat → ClassId) (ad : Nat → Nat) (ty : zTyp) (I : zIt) (L : zLt) (P : zPt) (hl0 : l.stackTraces = false) (ni nc ns nt : Nat) (hC : zcls ni nc ns nt ty P) (hI : zInv ni nc ns nt I) (i : Int32) : zXi l base D cA yX6_works cX6_works 2 .boolean 7 111 1 6 [.ref (ad 0), .int i] (zW base D cA ad ty I L P) (zo1 i nc) (zb (I (32 + i.toNatClampNeg) 5 = 0)) (zW base D cA ad ty I L P) := by
  refine z_xstart (by decide +kernel) (Nat.le_of_ble_eq_true rfl) fun p e s m below meth c ls M hP hS hl hr hlocks hnm hout => ?_
  have M : zM p s m c cX6_works RX6 2 base D cA := M
  have hw : zH base D cA s s.heap [] ad ty I L P := ⟨hP, hS⟩
  obtain ⟨hx, hb, -⟩ := id M
  have hl : lv_has ls 2 [(0, .ref (ad 0)), (1, .int i)] := hl
  obtain ⟨hb1, hb2, hb3, hb4⟩ := zc_b hC
  have hbb : nc ≤ 16 ∧ ns ≤ 4 ∧ nt ≤ 12 := ⟨hb2, hb3, hb4⟩
  refine lv_iload_n hx hb dX6_works_0 rfl (lv_at hl 1 rfl) ?_
  refine lv_aload_n hx hb dX6_works_1 rfl (lv_at hl 0 rfl) ?_
  refine z_getr M hw (zc_t0 hC) zf_X6_22 (zc_p02 hC) dX6_works_2 ?_
  refine z_geti M hw (zc_t1 hC) zf_X6_67 dX6_works_5 ?_
  refine z_topi (y := nI nc) hI.1.2.1 ?_
  refine z_xcv (z_xrunS (As := [.int i, .int (nI nc)]) (rest := []) M hw.2 zc_X6_61 zn_X6_61 (c_X6_checkIndex l base D cA ad ty I L P hl0 i nc (by omega)) hw.1 rfl rfl ⟨Nat.le_of_ble_eq_true rfl, Nat.le_of_ble_eq_true rfl⟩ ⟨Nat.le_of_ble_eq_true rfl, Nat.le_of_ble_eq_true rfl⟩ hl.1 (Nat.le_of_ble_eq_true rfl) dX6_works_8) hw.2 (fun c1 ce q H locs hw0 hS hq hv hcl => ?_) (fun c1 H locs hw1 hS => ?_)
  · exact z_xout c1 (by (try unfold zsq); (try first | rw [if_pos c1] | rw [if_neg c1]); (try first | rfl | assumption)) hw0 hS hq hv hcl hout (Nat.le_of_ble_eq_true rfl) (Nat.le_of_ble_eq_true rfl) hlocks
  have hw : zH base D cA s H locs ad ty I L P := ⟨hw1, hS⟩
  have hi := zo1_z c1
  have qi := (zlt_nat hi).2
  rw [(zlt_nat hi).1] at hl
  refine lv_aload_n hx hb dX6_works_11 rfl (lv_at hl 0 rfl) ?_
  refine z_getr M hw (zc_t0 hC) zf_X6_22 (zc_p02 hC) dX6_works_12 ?_
  refine z_getr M hw (zc_t1 hC) zf_X6_79 (zc_p10 hC) dX6_works_15 ?_
  refine lv_iload_n hx hb dX6_works_18 rfl (lv_at hl 1 rfl) ?_
  refine z_aNald M hw (e9 := 3) (zc_t3 hC) ⟨by decide, rfl⟩ rfl ⟨by omega, by omega⟩ (zc_pC hC (by omega)) dX6_works_19 ?_
  refine z_ci0 (z_runV (As := []) (rest := []) M hw (zc_tC hC (by omega)) zc_X6_142 (c_X0_isWorking l base D cA ad ty I L P (32 + i.toNatClampNeg) 0 (zc_tC hC (by omega))) hw.1 rfl rfl ⟨Nat.le_of_ble_eq_true rfl, Nat.le_of_ble_eq_true rfl⟩ ⟨Nat.le_of_ble_eq_true rfl, Nat.le_of_ble_eq_true rfl⟩ hl.1 (Nat.le_of_ble_eq_true rfl) dX6_works_20) hw (fun H locs hw => ?_)
  exact z_xiret hx hb hr ⟨rfl, (by (try unfold zsq); (try first | rw [if_pos c1] | rw [if_neg c1]); (try first | rfl | assumption))⟩ (zb_nb _) hw.2 hw.1 (Nat.le_of_ble_eq_true rfl) (Nat.le_of_ble_eq_true rfl) dX6_works_23 hlocks
set_option maxHeartbeats 4000000 in
set_option maxRecDepth 100000 in
theorem c_X6_fault (l : Launch) (base : Nat) (D : va_G) (cA : Nat → ClassId) (ad : Nat → Nat) (ty : zTyp) (I : zIt) (L : zLt) (P : zPt) (hl0 : l.stackTraces = false) (ni nc ns nt : Nat) (hC : zcls ni nc ns nt ty P) (hI : zInv ni nc ns nt I) (j k : Int32) (hroom : zsq (zoS I nc j k) (if zHasF I (32 + j.toNatClampNeg) k then 3 else 0) = 0 → zNf I < 128) : zXi l base D cA yX6_fault cX6_fault 3 .int 8 133 3 18 [.ref (ad 0), .int j, .int k] (zW base D cA ad ty I L P) (zsq (zoS I nc j k) (if zHasF I (32 + j.toNatClampNeg) k then 3 else 0)) (nI (zNf I + 1)) (zW base D cA ad ty (zAddF (zu I 0 7 1) j.toNatClampNeg k) L P) := by
  refine z_xstart (by decide +kernel) (Nat.le_of_ble_eq_true rfl) fun p e s m below meth c ls M hP hS hl hr hlocks hnm hout => ?_
  have M : zM p s m c cX6_fault RX6 3 base D cA := M
  have hw : zH base D cA s s.heap [] ad ty I L P := ⟨hP, hS⟩
  obtain ⟨hx, hb, -⟩ := id M
  have hl : lv_has ls 3 [(0, .ref (ad 0)), (1, .int j), (2, .int k)] := hl
  obtain ⟨hb1, hb2, hb3, hb4⟩ := zc_b hC
  have hbb : nc ≤ 16 ∧ ns ≤ 4 ∧ nt ≤ 12 := ⟨hb2, hb3, hb4⟩
  refine lv_aload_n hx hb dX6_fault_0 rfl (lv_at hl 0 rfl) ?_
  refine lv_iload_n hx hb dX6_fault_1 rfl (lv_at hl 1 rfl) ?_
  refine lv_iload_n hx hb dX6_fault_2 rfl (lv_at hl 2 rfl) ?_
  refine z_xcv (z_xrunV (As := [.int j, .int k]) (rest := []) M hw (zc_t0 hC) zc_X6_86 zn_X6_86 (c_X6_checkSpan l base D cA ad ty I L P hl0 ni nc ns nt hC hI.1.2.1 (zInv_span hI) j k) hw.1 rfl rfl ⟨Nat.le_of_ble_eq_true rfl, Nat.le_of_ble_eq_true rfl⟩ ⟨Nat.le_of_ble_eq_true rfl, Nat.le_of_ble_eq_true rfl⟩ hl.1 (Nat.le_of_ble_eq_true rfl) dX6_fault_3) hw.2 (fun c1 ce q H locs hw0 hS hq hv hcl => ?_) (fun c1 H locs hw1 hS => ?_)
  · exact z_xout c1 (by (try unfold zsq); (try first | rw [if_pos c1] | rw [if_neg c1]); (try first | rfl | assumption)) hw0 hS hq hv hcl hout (Nat.le_of_ble_eq_true rfl) (Nat.le_of_ble_eq_true rfl) hlocks
  have hw : zH base D cA s H locs ad ty I L P := ⟨hw1, hS⟩
  have hj := (zoS_z c1).1
  have qj := (zlt_nat hj).2
  have hk := (zoS_z c1).2
  rw [(zlt_nat hj).1] at hl
  refine lv_aload_n hx hb dX6_fault_6 rfl (lv_at hl 0 rfl) ?_
  refine z_getr M hw (zc_t0 hC) zf_X6_22 (zc_p02 hC) dX6_fault_7 ?_
  refine z_getr M hw (zc_t1 hC) zf_X6_79 (zc_p10 hC) dX6_fault_10 ?_
  refine lv_iload_n hx hb dX6_fault_13 rfl (lv_at hl 1 rfl) ?_
  refine z_aNald M hw (e9 := 3) (zc_t3 hC) ⟨by decide, rfl⟩ rfl ⟨by omega, by omega⟩ (zc_pC hC (by omega)) dX6_fault_14 ?_
  refine lv_iload_n hx hb dX6_fault_15 rfl (lv_at hl 2 rfl) ?_
  refine z_ci0 (z_runV (As := [.int k]) (rest := []) M hw (zc_tC hC (by omega)) zc_X6_89 (c_X0_hasFaultAt l base D cA ad ty I L P (32 + j.toNatClampNeg) 0 (zc_tC hC (by omega)) k) hw.1 rfl rfl ⟨Nat.le_of_ble_eq_true rfl, Nat.le_of_ble_eq_true rfl⟩ ⟨Nat.le_of_ble_eq_true rfl, Nat.le_of_ble_eq_true rfl⟩ hl.1 (Nat.le_of_ble_eq_true rfl) dX6_fault_16) hw (fun H locs hw => ?_)
  refine lv_if_eq (tgt := 32) hx hb dX6_fault_19 (by decide) (fun c2 => ?_) (fun c2 => ?_)
  · skip
    have c2 := zb_eq0.mp c2
    refine lv_aload_n hx hb dX6_fault_32 rfl (lv_at hl 0 rfl) ?_
    refine lv_iconst (v := 1) hx hb dX6_fault_33 (by decide) ?_
    refine z_puti M hw (zc_t0 hC) zf_X6_44 (Or.inl rfl) rfl rfl dX6_fault_34 (fun H locs hw => ?_)
    refine lv_aload_n hx hb dX6_fault_37 rfl (lv_at hl 0 rfl) ?_
    refine z_getr M hw (zc_t0 hC) zf_X6_22 (zc_p02 hC) dX6_fault_38 ?_
    refine lv_iload_n hx hb dX6_fault_41 rfl (lv_at hl 1 rfl) ?_
    refine lv_iload_n hx hb dX6_fault_42 rfl (lv_at hl 2 rfl) ?_
    refine z_ci0 (z_runV (As := [.int (nI j.toNatClampNeg), .int k]) (rest := []) M hw (zc_t1 hC) zc_X6_100 (c_X2_addFault l base D cA ad ty (zu I 0 7 1) L P ni nc ns nt hC (zInv_zu hbb (by unfold zHl; omega) hI).2.1.1 (by rw [zNf_eq (zu_ne _ _ (by omega))]; exact hroom (by unfold zsq; rw [if_pos c1, if_neg c2])) j.toNatClampNeg qj k) hw.1 rfl rfl ⟨Nat.le_of_ble_eq_true rfl, Nat.le_of_ble_eq_true rfl⟩ ⟨Nat.le_of_ble_eq_true rfl, Nat.le_of_ble_eq_true rfl⟩ hl.1 (Nat.le_of_ble_eq_true rfl) dX6_fault_43) hw (fun H locs hw => ?_)
    rw [zNf_eq (zu_ne _ _ (by omega))]
    exact z_xiret hx hb hr ⟨rfl, (by (try unfold zsq); (try first | rw [if_pos c1] | rw [if_neg c1]); (try first | rw [if_pos c2] | rw [if_neg c2]); (try first | rfl | assumption))⟩ rfl hw.2 hw.1 (Nat.le_of_ble_eq_true rfl) (Nat.le_of_ble_eq_true rfl) dX6_fault_46 hlocks
  · skip
    have c2 := zb_ne0.mp c2
    refine z_throw_at (oc0 := 3) (text := "the span has a fault") (by (try unfold zsq); (try first | rw [if_pos c1] | rw [if_neg c1]); (try first | rw [if_pos c2] | rw [if_neg c2])) hl0 M hw (by decide) (by decide +kernel) zth_3 hl.1 dX6_fault_22 dX6_fault_25 dX6_fault_26 dX6_fault_28 dX6_fault_31 hout ⟨Nat.le_of_ble_eq_true rfl, Nat.le_of_ble_eq_true rfl, Nat.le_of_ble_eq_true rfl, Nat.le_of_ble_eq_true rfl⟩ (Nat.le_of_ble_eq_true rfl) (Nat.le_of_ble_eq_true rfl) hlocks
set_option maxHeartbeats 4000000 in
set_option maxRecDepth 100000 in
theorem c_X6_faultAt (l : Launch) (base : Nat) (D : va_G) (cA : Nat → ClassId) (ad : Nat → Nat) (ty : zTyp) (I : zIt) (L : zLt) (P : zPt) (hl0 : l.stackTraces = false) (ni nc ns nt : Nat) (hC : zcls ni nc ns nt ty P) (hI : zInv ni nc ns nt I) (i : Int32) : zXi l base D cA yX6_faultAt cX6_faultAt 2 .int 6 90 1 6 [.ref (ad 0), .int i] (zW base D cA ad ty I L P) (if i < 0 then 1 else 0) (if i.toNatClampNeg < zNf I then I 6 i.toNatClampNeg else -1) (zW base D cA ad ty I L P) := by
  refine z_xstart (by decide +kernel) (Nat.le_of_ble_eq_true rfl) fun p e s m below meth c ls M hP hS hl hr hlocks hnm hout => ?_
  have M : zM p s m c cX6_faultAt RX6 2 base D cA := M
  have hw : zH base D cA s s.heap [] ad ty I L P := ⟨hP, hS⟩
  obtain ⟨hx, hb, -⟩ := id M
  have hl : lv_has ls 2 [(0, .ref (ad 0)), (1, .int i)] := hl
  obtain ⟨hb1, hb2, hb3, hb4⟩ := zc_b hC
  have hbb : nc ≤ 16 ∧ ns ≤ 4 ∧ nt ≤ 12 := ⟨hb2, hb3, hb4⟩
  refine lv_iload_n hx hb dX6_faultAt_0 rfl (lv_at hl 1 rfl) ?_
  refine lv_if_ge (tgt := 14) hx hb dX6_faultAt_1 (by decide) (fun c1 => ?_) (fun c1 => ?_)
  · skip
    have hneg : ¬ i < 0 := Int32.not_lt.mpr c1
    rw [(zge0 hneg).1] at hl
    refine lv_aload_n hx hb dX6_faultAt_14 rfl (lv_at hl 0 rfl) ?_
    refine z_getr M hw (zc_t0 hC) zf_X6_22 (zc_p02 hC) dX6_faultAt_15 ?_
    refine lv_iload_n hx hb dX6_faultAt_18 rfl (lv_at hl 1 rfl) ?_
    refine z_ci0 (z_runV (As := [.int (nI i.toNatClampNeg)]) (rest := []) M hw (zc_t1 hC) zc_X6_151 (c_X2_faultRanked l base D cA ad ty I L P ni nc ns nt hC hI.2.1.1 hI.2.1.2 i.toNatClampNeg (zge0 hneg).2) hw.1 rfl rfl ⟨Nat.le_of_ble_eq_true rfl, Nat.le_of_ble_eq_true rfl⟩ ⟨Nat.le_of_ble_eq_true rfl, Nat.le_of_ble_eq_true rfl⟩ hl.1 (Nat.le_of_ble_eq_true rfl) dX6_faultAt_19) hw (fun H locs hw => ?_)
    exact z_xiret hx hb hr ⟨rfl, (by rw [if_neg hneg])⟩ rfl hw.2 hw.1 (Nat.le_of_ble_eq_true rfl) (Nat.le_of_ble_eq_true rfl) dX6_faultAt_22 hlocks
  · skip
    have c1 : i < 0 := Int32.not_le.mp c1
    refine z_throw_at (oc0 := 1) (text := "a rank is not below 0") (by rw [if_pos c1]) hl0 M hw (by decide) (by decide +kernel) zth_1 hl.1 dX6_faultAt_4 dX6_faultAt_7 dX6_faultAt_8 dX6_faultAt_10 dX6_faultAt_13 hout ⟨Nat.le_of_ble_eq_true rfl, Nat.le_of_ble_eq_true rfl, Nat.le_of_ble_eq_true rfl, Nat.le_of_ble_eq_true rfl⟩ (Nat.le_of_ble_eq_true rfl) (Nat.le_of_ble_eq_true rfl) hlocks
set_option maxHeartbeats 4000000 in
set_option maxRecDepth 100000 in
theorem c_X6_shipOf (l : Launch) (base : Nat) (D : va_G) (cA : Nat → ClassId) (ad : Nat → Nat) (ty : zTyp) (I : zIt) (L : zLt) (P : zPt) (hl0 : l.stackTraces = false) (ni nc ns nt : Nat) (hC : zcls ni nc ns nt ty P) (hI : zInv ni nc ns nt I) (i x : Int32) : zXi l base D cA yX6_shipOf cX6_shipOf 4 .int 7 112 2 12 [.ref (ad 0), .int i, .int x] (zW base D cA ad ty I L P) (zsq (zo1 i ns) (zo2 x 0 4)) (if x = 0 then I (48 + i.toNatClampNeg) 3 else if x = 1 then I (48 + i.toNatClampNeg) 1 else if x = 2 then I (48 + i.toNatClampNeg) 2 else if x = 3 then I (48 + i.toNatClampNeg) 4 else I (48 + i.toNatClampNeg) 7) (zW base D cA ad ty I L P) := by
  refine z_xstart (by decide +kernel) (Nat.le_of_ble_eq_true rfl) fun p e s m below meth c ls M hP hS hl hr hlocks hnm hout => ?_
  have M : zM p s m c cX6_shipOf RX6 4 base D cA := M
  have hw : zH base D cA s s.heap [] ad ty I L P := ⟨hP, hS⟩
  obtain ⟨hx, hb, -⟩ := id M
  have hl : lv_has ls 4 [(0, .ref (ad 0)), (1, .int i), (2, .int x)] := hl
  obtain ⟨hb1, hb2, hb3, hb4⟩ := zc_b hC
  have hbb : nc ≤ 16 ∧ ns ≤ 4 ∧ nt ≤ 12 := ⟨hb2, hb3, hb4⟩
  refine lv_iload_n hx hb dX6_shipOf_0 rfl (lv_at hl 1 rfl) ?_
  refine lv_aload_n hx hb dX6_shipOf_1 rfl (lv_at hl 0 rfl) ?_
  refine z_geti M hw (zc_t0 hC) zf_X6_32 dX6_shipOf_2 ?_
  refine z_topi (y := nI ns) hI.1.2.2.1 ?_
  refine z_xcv (z_xrunS (As := [.int i, .int (nI ns)]) (rest := []) M hw.2 zc_X6_61 zn_X6_61 (c_X6_checkIndex l base D cA ad ty I L P hl0 i ns (by omega)) hw.1 rfl rfl ⟨Nat.le_of_ble_eq_true rfl, Nat.le_of_ble_eq_true rfl⟩ ⟨Nat.le_of_ble_eq_true rfl, Nat.le_of_ble_eq_true rfl⟩ hl.1 (Nat.le_of_ble_eq_true rfl) dX6_shipOf_5) hw.2 (fun c1 ce q H locs hw0 hS hq hv hcl => ?_) (fun c1 H locs hw1 hS => ?_)
  · exact z_xout c1 (by (try unfold zsq); (try first | rw [if_pos c1] | rw [if_neg c1]); (try first | rfl | assumption)) hw0 hS hq hv hcl hout (Nat.le_of_ble_eq_true rfl) (Nat.le_of_ble_eq_true rfl) hlocks
  have hw : zH base D cA s H locs ad ty I L P := ⟨hw1, hS⟩
  have hi := zo1_z c1
  have qi := (zlt_nat hi).2
  rw [(zlt_nat hi).1] at hl
  refine lv_iload_n hx hb dX6_shipOf_8 rfl (lv_at hl 2 rfl) ?_
  refine lv_iconst (v := 0) hx hb dX6_shipOf_9 (by decide) ?_
  refine lv_iconst (v := 4) hx hb dX6_shipOf_10 (by decide) ?_
  refine z_xcv (z_xrunS (As := [.int x, .int 0, .int 4]) (rest := []) M hw.2 zc_X6_51 zn_X6_51 (c_X6_checkRange l base D cA ad ty I L P hl0 x 0 4) hw.1 rfl rfl ⟨Nat.le_of_ble_eq_true rfl, Nat.le_of_ble_eq_true rfl⟩ ⟨Nat.le_of_ble_eq_true rfl, Nat.le_of_ble_eq_true rfl⟩ hl.1 (Nat.le_of_ble_eq_true rfl) dX6_shipOf_11) hw.2 (fun c2 ce q H locs hw0 hS hq hv hcl => ?_) (fun c2 H locs hw1 hS => ?_)
  · exact z_xout c2 (by (try unfold zsq); (try first | rw [if_pos c1] | rw [if_neg c1]); (try first | rw [if_pos c2] | rw [if_neg c2]); (try first | rfl | assumption)) hw0 hS hq hv hcl hout (Nat.le_of_ble_eq_true rfl) (Nat.le_of_ble_eq_true rfl) hlocks
  have hw : zH base D cA s H locs ad ty I L P := ⟨hw1, hS⟩
  have zc2 := zo2_z c2
  refine lv_aload_n hx hb dX6_shipOf_14 rfl (lv_at hl 0 rfl) ?_
  refine z_getr M hw (zc_t0 hC) zf_X6_28 (zc_p03 hC) dX6_shipOf_15 ?_
  refine lv_iload_n hx hb dX6_shipOf_18 rfl (lv_at hl 1 rfl) ?_
  refine z_aNald M hw (e9 := 5) (zc_t4 hC) ⟨by decide, rfl⟩ rfl ⟨by omega, by omega⟩ (zc_pS hC (by omega)) dX6_shipOf_19 ?_
  refine lv_astore_n (lv' := [(3, .ref (ad (48 + i.toNatClampNeg))), (0, .ref (ad 0)), (1, .int (nI i.toNatClampNeg)), (2, .int x)]) hx hb dX6_shipOf_20 rfl hl (by decide) rfl (fun ls hl => ?_)
  refine lv_iload_n hx hb dX6_shipOf_21 rfl (lv_at hl 3 rfl) ?_
  by_cases h3 : x = 0
  · refine z_topi (y := 0) h3 ?_
    refine lv_tableIn (off := 30) (tgt := 52) hx hb dX6_shipOf_22 (by decide) (by decide) (by decide) (by decide) ?_
    refine lv_aload_n hx hb dX6_shipOf_52 rfl (lv_at hl 0 rfl) ?_
    refine z_geti M hw (zc_tS hC (by omega)) zf_X6_155 dX6_shipOf_53 ?_
    exact z_xiret hx hb hr ⟨(by (try first | rw [if_pos h3] | rw [if_neg h3])), (by (try unfold zsq); (try first | rw [if_pos c1] | rw [if_neg c1]); (try first | rw [if_pos c2] | rw [if_neg c2]); (try first | rw [if_pos h3] | rw [if_neg h3]); (try first | rfl | assumption))⟩ rfl hw.2 hw.1 (Nat.le_of_ble_eq_true rfl) (Nat.le_of_ble_eq_true rfl) dX6_shipOf_56 hlocks
  by_cases h4 : x = 1
  · refine z_topi (y := 1) h4 ?_
    refine lv_tableIn (off := 35) (tgt := 57) hx hb dX6_shipOf_22 (by decide) (by decide) (by decide) (by decide) ?_
    refine lv_aload_n hx hb dX6_shipOf_57 rfl (lv_at hl 0 rfl) ?_
    refine z_geti M hw (zc_tS hC (by omega)) zf_X6_158 dX6_shipOf_58 ?_
    exact z_xiret hx hb hr ⟨(by (try first | rw [if_pos h3] | rw [if_neg h3]); (try first | rw [if_pos h4] | rw [if_neg h4])), (by (try unfold zsq); (try first | rw [if_pos c1] | rw [if_neg c1]); (try first | rw [if_pos c2] | rw [if_neg c2]); (try first | rw [if_pos h3] | rw [if_neg h3]); (try first | rw [if_pos h4] | rw [if_neg h4]); (try first | rfl | assumption))⟩ rfl hw.2 hw.1 (Nat.le_of_ble_eq_true rfl) (Nat.le_of_ble_eq_true rfl) dX6_shipOf_61 hlocks
  by_cases h5 : x = 2
  · refine z_topi (y := 2) h5 ?_
    refine lv_tableIn (off := 40) (tgt := 62) hx hb dX6_shipOf_22 (by decide) (by decide) (by decide) (by decide) ?_
    refine lv_aload_n hx hb dX6_shipOf_62 rfl (lv_at hl 0 rfl) ?_
    refine z_geti M hw (zc_tS hC (by omega)) zf_X6_159 dX6_shipOf_63 ?_
    exact z_xiret hx hb hr ⟨(by (try first | rw [if_pos h3] | rw [if_neg h3]); (try first | rw [if_pos h4] | rw [if_neg h4]); (try first | rw [if_pos h5] | rw [if_neg h5])), (by (try unfold zsq); (try first | rw [if_pos c1] | rw [if_neg c1]); (try first | rw [if_pos c2] | rw [if_neg c2]); (try first | rw [if_pos h3] | rw [if_neg h3]); (try first | rw [if_pos h4] | rw [if_neg h4]); (try first | rw [if_pos h5] | rw [if_neg h5]); (try first | rfl | assumption))⟩ rfl hw.2 hw.1 (Nat.le_of_ble_eq_true rfl) (Nat.le_of_ble_eq_true rfl) dX6_shipOf_66 hlocks
  by_cases h6 : x = 3
  · refine z_topi (y := 3) h6 ?_
    refine lv_tableIn (off := 45) (tgt := 67) hx hb dX6_shipOf_22 (by decide) (by decide) (by decide) (by decide) ?_
    refine lv_aload_n hx hb dX6_shipOf_67 rfl (lv_at hl 0 rfl) ?_
    refine z_geti M hw (zc_tS hC (by omega)) zf_X6_160 dX6_shipOf_68 ?_
    exact z_xiret hx hb hr ⟨(by (try first | rw [if_pos h3] | rw [if_neg h3]); (try first | rw [if_pos h4] | rw [if_neg h4]); (try first | rw [if_pos h5] | rw [if_neg h5]); (try first | rw [if_pos h6] | rw [if_neg h6])), (by (try unfold zsq); (try first | rw [if_pos c1] | rw [if_neg c1]); (try first | rw [if_pos c2] | rw [if_neg c2]); (try first | rw [if_pos h3] | rw [if_neg h3]); (try first | rw [if_pos h4] | rw [if_neg h4]); (try first | rw [if_pos h5] | rw [if_neg h5]); (try first | rw [if_pos h6] | rw [if_neg h6]); (try first | rfl | assumption))⟩ rfl hw.2 hw.1 (Nat.le_of_ble_eq_true rfl) (Nat.le_of_ble_eq_true rfl) dX6_shipOf_71 hlocks
  refine lv_tableOut (tgt := 72) hx hb dX6_shipOf_22 (by have q0 := z_t1 0 rfl h3; have q1 := z_t1 1 rfl h4; have q2 := z_t1 2 rfl h5; have q3 := z_t1 3 rfl h6; omega) (by decide) ?_
  refine lv_aload_n hx hb dX6_shipOf_72 rfl (lv_at hl 0 rfl) ?_
  refine z_geti M hw (zc_tS hC (by omega)) zf_X6_163 dX6_shipOf_73 ?_
  exact z_xiret hx hb hr ⟨(by (try first | rw [if_pos h3] | rw [if_neg h3]); (try first | rw [if_pos h4] | rw [if_neg h4]); (try first | rw [if_pos h5] | rw [if_neg h5]); (try first | rw [if_pos h6] | rw [if_neg h6])), (by (try unfold zsq); (try first | rw [if_pos c1] | rw [if_neg c1]); (try first | rw [if_pos c2] | rw [if_neg c2]); (try first | rw [if_pos h3] | rw [if_neg h3]); (try first | rw [if_pos h4] | rw [if_neg h4]); (try first | rw [if_pos h5] | rw [if_neg h5]); (try first | rw [if_pos h6] | rw [if_neg h6]); (try first | rfl | assumption))⟩ rfl hw.2 hw.1 (Nat.le_of_ble_eq_true rfl) (Nat.le_of_ble_eq_true rfl) dX6_shipOf_76 hlocks
set_option maxHeartbeats 4000000 in
set_option maxRecDepth 100000 in
theorem c_X6_way (l : Launch) (base : Nat) (D : va_G) (cA : Nat → ClassId) (ad : Nat → Nat) (ty : zTyp) (I : zIt) (L : zLt) (P : zPt) (hl0 : l.stackTraces = false) (ni nc ns nt : Nat) (hC : zcls ni nc ns nt ty P) (hI : zInv ni nc ns nt I) (hfin : zFin nc) (hwl : zWl nt I) (i x : Int32) : zXi l base D cA yX6_way cX6_way 3 .int 7 117 2 12 [.ref (ad 0), .int i, .int x] (zW base D cA ad ty I L P) (zsq (zo1 i nt) (if x < 0 then 1 else 0)) (if x < (zStale nc nt (I, L)).1 (80 + i.toNatClampNeg) 1 then (zStale nc nt (I, L)).1 (96 + i.toNatClampNeg) x.toNatClampNeg else -1) (zW base D cA ad ty (zStale nc nt (I, L)).1 (zStale nc nt (I, L)).2 P) := by
  refine z_xstart (by decide +kernel) (Nat.le_of_ble_eq_true rfl) fun p e s m below meth c ls M hP hS hl hr hlocks hnm hout => ?_
  have M : zM p s m c cX6_way RX6 3 base D cA := M
  have hw : zH base D cA s s.heap [] ad ty I L P := ⟨hP, hS⟩
  obtain ⟨hx, hb, -⟩ := id M
  have hl : lv_has ls 3 [(0, .ref (ad 0)), (1, .int i), (2, .int x)] := hl
  obtain ⟨hb1, hb2, hb3, hb4⟩ := zc_b hC
  have hbb : nc ≤ 16 ∧ ns ≤ 4 ∧ nt ≤ 12 := ⟨hb2, hb3, hb4⟩
  refine lv_iload_n hx hb dX6_way_0 rfl (lv_at hl 1 rfl) ?_
  refine lv_aload_n hx hb dX6_way_1 rfl (lv_at hl 0 rfl) ?_
  refine z_geti M hw (zc_t0 hC) zf_X6_41 dX6_way_2 ?_
  refine z_topi (y := nI nt) hI.1.2.2.2 ?_
  refine z_xcv (z_xrunS (As := [.int i, .int (nI nt)]) (rest := []) M hw.2 zc_X6_61 zn_X6_61 (c_X6_checkIndex l base D cA ad ty I L P hl0 i nt (by omega)) hw.1 rfl rfl ⟨Nat.le_of_ble_eq_true rfl, Nat.le_of_ble_eq_true rfl⟩ ⟨Nat.le_of_ble_eq_true rfl, Nat.le_of_ble_eq_true rfl⟩ hl.1 (Nat.le_of_ble_eq_true rfl) dX6_way_5) hw.2 (fun c1 ce q H locs hw0 hS hq hv hcl => ?_) (fun c1 H locs hw1 hS => ?_)
  · exact z_xout c1 (by (try unfold zsq); (try first | rw [if_pos c1] | rw [if_neg c1]); (try first | rfl | assumption)) hw0 hS hq hv hcl hout (Nat.le_of_ble_eq_true rfl) (Nat.le_of_ble_eq_true rfl) hlocks
  have hw : zH base D cA s H locs ad ty I L P := ⟨hw1, hS⟩
  have hi := zo1_z c1
  have qi := (zlt_nat hi).2
  rw [(zlt_nat hi).1] at hl
  refine lv_iload_n hx hb dX6_way_8 rfl (lv_at hl 2 rfl) ?_
  refine lv_if_ge (tgt := 22) hx hb dX6_way_9 (by decide) (fun c2 => ?_) (fun c2 => ?_)
  · skip
    have hneg : ¬ x < 0 := Int32.not_lt.mpr c2
    have c2 := hneg
    refine lv_aload_n hx hb dX6_way_22 rfl (lv_at hl 0 rfl) ?_
    refine z_cv0 (z_runV (As := []) (rest := []) M hw (zc_t0 hC) zc_X6_168 (c_X6_findStaleWays l base D cA ad ty I L P ni nc ns nt hC hI hfin) hw.1 rfl rfl ⟨Nat.le_of_ble_eq_true rfl, Nat.le_of_ble_eq_true rfl⟩ ⟨Nat.le_of_ble_eq_true rfl, Nat.le_of_ble_eq_true rfl⟩ hl.1 (Nat.le_of_ble_eq_true rfl) dX6_way_23) hw (fun H locs hw => ?_)
    obtain ⟨q, hqd⟩ : ∃ q, q = zStale nc nt (I, L) := ⟨_, rfl⟩
    rw [← hqd] at hw ⊢
    refine lv_aload_n hx hb dX6_way_26 rfl (lv_at hl 0 rfl) ?_
    refine z_getr M hw (zc_t0 hC) zf_X6_37 (zc_p05 hC) dX6_way_27 ?_
    refine lv_iload_n hx hb dX6_way_30 rfl (lv_at hl 1 rfl) ?_
    refine z_aNald M hw (e9 := 6) (zc_t5 hC) ⟨by decide, rfl⟩ rfl ⟨by omega, by omega⟩ (zc_pT hC (by omega)) dX6_way_31 ?_
    refine z_getr M hw (zc_tT hC (by omega)) zf_X6_171 (zc_pW hC (by omega)) dX6_way_32 ?_
    refine lv_iload_n hx hb dX6_way_35 rfl (lv_at hl 2 rfl) ?_
    refine z_ci0 (z_runV (As := [.int x]) (rest := []) M hw (zc_tW hC (by omega)) zc_X6_175 (c_X5_cableAt l base D cA ad ty q.1 q.2 P (80 + i.toNatClampNeg) 0 (zc_tW hC (by omega)) (96 + i.toNatClampNeg) (zc_tR hC (by omega)) (zc_pR hC (by omega)) x (zway_ix hneg (by rw [hqd]; exact zWl_stale hb4 hwl _ qi))) hw.1 rfl rfl ⟨Nat.le_of_ble_eq_true rfl, Nat.le_of_ble_eq_true rfl⟩ ⟨Nat.le_of_ble_eq_true rfl, Nat.le_of_ble_eq_true rfl⟩ hl.1 (Nat.le_of_ble_eq_true rfl) dX6_way_36) hw (fun H locs hw => ?_)
    exact z_xiret hx hb hr ⟨rfl, (by (try unfold zsq); (try first | rw [if_pos c1] | rw [if_neg c1]); (try first | rw [if_pos c2] | rw [if_neg c2]); (try first | rfl | assumption))⟩ rfl hw.2 hw.1 (Nat.le_of_ble_eq_true rfl) (Nat.le_of_ble_eq_true rfl) dX6_way_39 hlocks
  · skip
    have c2 : x < 0 := Int32.not_le.mp c2
    refine z_throw_at (oc0 := 1) (text := "a place is not below 0") (by (try unfold zsq); (try first | rw [if_pos c1] | rw [if_neg c1]); (try first | rw [if_pos c2] | rw [if_neg c2])) hl0 M hw (by decide) (by decide +kernel) zth_1 hl.1 dX6_way_12 dX6_way_15 dX6_way_16 dX6_way_18 dX6_way_21 hout ⟨Nat.le_of_ble_eq_true rfl, Nat.le_of_ble_eq_true rfl, Nat.le_of_ble_eq_true rfl, Nat.le_of_ble_eq_true rfl⟩ (Nat.le_of_ble_eq_true rfl) (Nat.le_of_ble_eq_true rfl) hlocks
set_option maxHeartbeats 4000000 in
set_option maxRecDepth 100000 in
theorem c_X6_sum (l : Launch) (base : Nat) (D : va_G) (cA : Nat → ClassId) (ad : Nat → Nat) (ty : zTyp) (I : zIt) (L : zLt) (P : zPt) (hl0 : l.stackTraces = false) (ni nc ns nt : Nat) (hC : zcls ni nc ns nt ty P) (hI : zInv ni nc ns nt I) (hfin : zFin nc) (i x : Int32) : zXi l base D cA yX6_sum cX6_sum 4 .int 7 117 2 12 [.ref (ad 0), .int i, .int x] (zW base D cA ad ty I L P) (zsq (zo1 i nt) (zo2 x 0 2)) (if x = 0 then (zStale nc nt (I, L)).1 (80 + i.toNatClampNeg) 2 else if x = 1 then (zStale nc nt (I, L)).1 (80 + i.toNatClampNeg) 3 else (zStale nc nt (I, L)).1 (80 + i.toNatClampNeg) 1) (zW base D cA ad ty (zStale nc nt (I, L)).1 (zStale nc nt (I, L)).2 P) := by
  refine z_xstart (by decide +kernel) (Nat.le_of_ble_eq_true rfl) fun p e s m below meth c ls M hP hS hl hr hlocks hnm hout => ?_
  have M : zM p s m c cX6_sum RX6 4 base D cA := M
  have hw : zH base D cA s s.heap [] ad ty I L P := ⟨hP, hS⟩
  obtain ⟨hx, hb, -⟩ := id M
  have hl : lv_has ls 4 [(0, .ref (ad 0)), (1, .int i), (2, .int x)] := hl
  obtain ⟨hb1, hb2, hb3, hb4⟩ := zc_b hC
  have hbb : nc ≤ 16 ∧ ns ≤ 4 ∧ nt ≤ 12 := ⟨hb2, hb3, hb4⟩
  refine lv_iload_n hx hb dX6_sum_0 rfl (lv_at hl 1 rfl) ?_
  refine lv_aload_n hx hb dX6_sum_1 rfl (lv_at hl 0 rfl) ?_
  refine z_geti M hw (zc_t0 hC) zf_X6_41 dX6_sum_2 ?_
  refine z_topi (y := nI nt) hI.1.2.2.2 ?_
  refine z_xcv (z_xrunS (As := [.int i, .int (nI nt)]) (rest := []) M hw.2 zc_X6_61 zn_X6_61 (c_X6_checkIndex l base D cA ad ty I L P hl0 i nt (by omega)) hw.1 rfl rfl ⟨Nat.le_of_ble_eq_true rfl, Nat.le_of_ble_eq_true rfl⟩ ⟨Nat.le_of_ble_eq_true rfl, Nat.le_of_ble_eq_true rfl⟩ hl.1 (Nat.le_of_ble_eq_true rfl) dX6_sum_5) hw.2 (fun c1 ce q H locs hw0 hS hq hv hcl => ?_) (fun c1 H locs hw1 hS => ?_)
  · exact z_xout c1 (by (try unfold zsq); (try first | rw [if_pos c1] | rw [if_neg c1]); (try first | rfl | assumption)) hw0 hS hq hv hcl hout (Nat.le_of_ble_eq_true rfl) (Nat.le_of_ble_eq_true rfl) hlocks
  have hw : zH base D cA s H locs ad ty I L P := ⟨hw1, hS⟩
  have hi := zo1_z c1
  have qi := (zlt_nat hi).2
  rw [(zlt_nat hi).1] at hl
  refine lv_iload_n hx hb dX6_sum_8 rfl (lv_at hl 2 rfl) ?_
  refine lv_iconst (v := 0) hx hb dX6_sum_9 (by decide) ?_
  refine lv_iconst (v := 2) hx hb dX6_sum_10 (by decide) ?_
  refine z_xcv (z_xrunS (As := [.int x, .int 0, .int 2]) (rest := []) M hw.2 zc_X6_51 zn_X6_51 (c_X6_checkRange l base D cA ad ty I L P hl0 x 0 2) hw.1 rfl rfl ⟨Nat.le_of_ble_eq_true rfl, Nat.le_of_ble_eq_true rfl⟩ ⟨Nat.le_of_ble_eq_true rfl, Nat.le_of_ble_eq_true rfl⟩ hl.1 (Nat.le_of_ble_eq_true rfl) dX6_sum_11) hw.2 (fun c2 ce q H locs hw0 hS hq hv hcl => ?_) (fun c2 H locs hw1 hS => ?_)
  · exact z_xout c2 (by (try unfold zsq); (try first | rw [if_pos c1] | rw [if_neg c1]); (try first | rw [if_pos c2] | rw [if_neg c2]); (try first | rfl | assumption)) hw0 hS hq hv hcl hout (Nat.le_of_ble_eq_true rfl) (Nat.le_of_ble_eq_true rfl) hlocks
  have hw : zH base D cA s H locs ad ty I L P := ⟨hw1, hS⟩
  have zc2 := zo2_z c2
  refine lv_aload_n hx hb dX6_sum_14 rfl (lv_at hl 0 rfl) ?_
  refine z_cv0 (z_runV (As := []) (rest := []) M hw (zc_t0 hC) zc_X6_168 (c_X6_findStaleWays l base D cA ad ty I L P ni nc ns nt hC hI hfin) hw.1 rfl rfl ⟨Nat.le_of_ble_eq_true rfl, Nat.le_of_ble_eq_true rfl⟩ ⟨Nat.le_of_ble_eq_true rfl, Nat.le_of_ble_eq_true rfl⟩ hl.1 (Nat.le_of_ble_eq_true rfl) dX6_sum_15) hw (fun H locs hw => ?_)
  obtain ⟨q, hqd⟩ : ∃ q, q = zStale nc nt (I, L) := ⟨_, rfl⟩
  rw [← hqd] at hw ⊢
  refine lv_aload_n hx hb dX6_sum_18 rfl (lv_at hl 0 rfl) ?_
  refine z_getr M hw (zc_t0 hC) zf_X6_37 (zc_p05 hC) dX6_sum_19 ?_
  refine lv_iload_n hx hb dX6_sum_22 rfl (lv_at hl 1 rfl) ?_
  refine z_aNald M hw (e9 := 6) (zc_t5 hC) ⟨by decide, rfl⟩ rfl ⟨by omega, by omega⟩ (zc_pT hC (by omega)) dX6_sum_23 ?_
  refine z_getr M hw (zc_tT hC (by omega)) zf_X6_171 (zc_pW hC (by omega)) dX6_sum_24 ?_
  refine lv_astore_n (lv' := [(3, .ref (ad (80 + i.toNatClampNeg))), (0, .ref (ad 0)), (1, .int (nI i.toNatClampNeg)), (2, .int x)]) hx hb dX6_sum_27 rfl hl (by decide) rfl (fun ls hl => ?_)
  refine lv_iload_n hx hb dX6_sum_28 rfl (lv_at hl 3 rfl) ?_
  by_cases h3 : x = 0
  · refine z_topi (y := 0) h3 ?_
    refine lv_lookup (off := 27) (tgt := 56) hx hb dX6_sum_29 (by decide) (by decide) (by decide) ?_
    refine lv_aload_n hx hb dX6_sum_56 rfl (lv_at hl 0 rfl) ?_
    refine z_geti M hw (zc_tW hC (by omega)) zf_X6_180 dX6_sum_57 ?_
    exact z_xiret hx hb hr ⟨(by (try first | rw [if_pos h3] | rw [if_neg h3])), (by (try unfold zsq); (try first | rw [if_pos c1] | rw [if_neg c1]); (try first | rw [if_pos c2] | rw [if_neg c2]); (try first | rw [if_pos h3] | rw [if_neg h3]); (try first | rfl | assumption))⟩ rfl hw.2 hw.1 (Nat.le_of_ble_eq_true rfl) (Nat.le_of_ble_eq_true rfl) dX6_sum_60 hlocks
  by_cases h4 : x = 1
  · refine z_topi (y := 1) h4 ?_
    refine lv_lookup (off := 32) (tgt := 61) hx hb dX6_sum_29 (by decide) (by decide) (by decide) ?_
    refine lv_aload_n hx hb dX6_sum_61 rfl (lv_at hl 0 rfl) ?_
    refine z_geti M hw (zc_tW hC (by omega)) zf_X6_183 dX6_sum_62 ?_
    exact z_xiret hx hb hr ⟨(by (try first | rw [if_pos h3] | rw [if_neg h3]); (try first | rw [if_pos h4] | rw [if_neg h4])), (by (try unfold zsq); (try first | rw [if_pos c1] | rw [if_neg c1]); (try first | rw [if_pos c2] | rw [if_neg c2]); (try first | rw [if_pos h3] | rw [if_neg h3]); (try first | rw [if_pos h4] | rw [if_neg h4]); (try first | rfl | assumption))⟩ rfl hw.2 hw.1 (Nat.le_of_ble_eq_true rfl) (Nat.le_of_ble_eq_true rfl) dX6_sum_65 hlocks
  refine lv_lookup (off := 37) (tgt := 66) hx hb dX6_sum_29 (by decide) (by simp [Op.lookupswitch.offset, z_t1 0 rfl h3, z_t1 1 rfl h4]) (by decide) ?_
  refine lv_aload_n hx hb dX6_sum_66 rfl (lv_at hl 0 rfl) ?_
  refine z_geti M hw (zc_tW hC (by omega)) zf_X6_186 dX6_sum_67 ?_
  exact z_xiret hx hb hr ⟨(by (try first | rw [if_pos h3] | rw [if_neg h3]); (try first | rw [if_pos h4] | rw [if_neg h4])), (by (try unfold zsq); (try first | rw [if_pos c1] | rw [if_neg c1]); (try first | rw [if_pos c2] | rw [if_neg c2]); (try first | rw [if_pos h3] | rw [if_neg h3]); (try first | rw [if_pos h4] | rw [if_neg h4]); (try first | rfl | assumption))⟩ rfl hw.2 hw.1 (Nat.le_of_ble_eq_true rfl) (Nat.le_of_ble_eq_true rfl) dX6_sum_70 hlocks
set_option maxHeartbeats 4000000 in
set_option maxRecDepth 100000 in
theorem c_X6_sumAnew (l : Launch) (base : Nat) (D : va_G) (cA : Nat → ClassId) (ad : Nat → Nat) (ty : zTyp) (I : zIt) (L : zLt) (P : zPt) (hl0 : l.stackTraces = false) (ni nc ns nt : Nat) (hC : zcls ni nc ns nt ty P) (hI : zInv ni nc ns nt I) (i : Int32) (u v : Nat) (hu : u < 10) (hv : v < 10) (eu : zlt i nt → I (64 + i.toNatClampNeg) 0 = nI u) (ev : zlt i nt → I (64 + i.toNatClampNeg) 1 = nI v) : zXi l base D cA yX6_sumAnew cX6_sumAnew 2 .int 7 111 1 6 [.ref (ad 0), .int i] (zW base D cA ad ty I L P) (zo1 i nt) (zPrr I nc (zS0 (I 8) u) 9 v) (zW base D cA ad ty (zs I 8 (zPrr I nc (zS0 (I 8) u) 9)) L P) := by
  refine z_xstart (by decide +kernel) (Nat.le_of_ble_eq_true rfl) fun p e s m below meth c ls M hP hS hl hr hlocks hnm hout => ?_
  have M : zM p s m c cX6_sumAnew RX6 2 base D cA := M
  have hw : zH base D cA s s.heap [] ad ty I L P := ⟨hP, hS⟩
  obtain ⟨hx, hb, -⟩ := id M
  have hl : lv_has ls 2 [(0, .ref (ad 0)), (1, .int i)] := hl
  obtain ⟨hb1, hb2, hb3, hb4⟩ := zc_b hC
  have hbb : nc ≤ 16 ∧ ns ≤ 4 ∧ nt ≤ 12 := ⟨hb2, hb3, hb4⟩
  refine lv_iload_n hx hb dX6_sumAnew_0 rfl (lv_at hl 1 rfl) ?_
  refine lv_aload_n hx hb dX6_sumAnew_1 rfl (lv_at hl 0 rfl) ?_
  refine z_geti M hw (zc_t0 hC) zf_X6_41 dX6_sumAnew_2 ?_
  refine z_topi (y := nI nt) hI.1.2.2.2 ?_
  refine z_xcv (z_xrunS (As := [.int i, .int (nI nt)]) (rest := []) M hw.2 zc_X6_61 zn_X6_61 (c_X6_checkIndex l base D cA ad ty I L P hl0 i nt (by omega)) hw.1 rfl rfl ⟨Nat.le_of_ble_eq_true rfl, Nat.le_of_ble_eq_true rfl⟩ ⟨Nat.le_of_ble_eq_true rfl, Nat.le_of_ble_eq_true rfl⟩ hl.1 (Nat.le_of_ble_eq_true rfl) dX6_sumAnew_5) hw.2 (fun c1 ce q H locs hw0 hS hq hv hcl => ?_) (fun c1 H locs hw1 hS => ?_)
  · exact z_xout c1 (by (try unfold zsq); (try first | rw [if_pos c1] | rw [if_neg c1]); (try first | rfl | assumption)) hw0 hS hq hv hcl hout (Nat.le_of_ble_eq_true rfl) (Nat.le_of_ble_eq_true rfl) hlocks
  have hw : zH base D cA s H locs ad ty I L P := ⟨hw1, hS⟩
  have hi := zo1_z c1
  have qi := (zlt_nat hi).2
  rw [(zlt_nat hi).1] at hl
  refine lv_aload_n hx hb dX6_sumAnew_8 rfl (lv_at hl 0 rfl) ?_
  refine z_getr M hw (zc_t0 hC) zf_X6_22 (zc_p02 hC) dX6_sumAnew_9 ?_
  refine lv_aload_n hx hb dX6_sumAnew_12 rfl (lv_at hl 0 rfl) ?_
  refine z_getr M hw (zc_t0 hC) zf_X6_37 (zc_p05 hC) dX6_sumAnew_13 ?_
  refine lv_iload_n hx hb dX6_sumAnew_16 rfl (lv_at hl 1 rfl) ?_
  refine z_aNald M hw (e9 := 6) (zc_t5 hC) ⟨by decide, rfl⟩ rfl ⟨by omega, by omega⟩ (zc_pT hC (by omega)) dX6_sumAnew_17 ?_
  refine z_geti M hw (zc_tT hC (by omega)) zf_X6_189 dX6_sumAnew_18 ?_
  refine z_topi (y := nI u) (eu hi) ?_
  refine lv_aload_n hx hb dX6_sumAnew_21 rfl (lv_at hl 0 rfl) ?_
  refine z_getr M hw (zc_t0 hC) zf_X6_37 (zc_p05 hC) dX6_sumAnew_22 ?_
  refine lv_iload_n hx hb dX6_sumAnew_25 rfl (lv_at hl 1 rfl) ?_
  refine z_aNald M hw (e9 := 6) (zc_t5 hC) ⟨by decide, rfl⟩ rfl ⟨by omega, by omega⟩ (zc_pT hC (by omega)) dX6_sumAnew_26 ?_
  refine z_geti M hw (zc_tT hC (by omega)) zf_X6_192 dX6_sumAnew_27 ?_
  refine z_topi (y := nI v) (ev hi) ?_
  refine z_ci0 (z_runV (As := [.int (nI u), .int (nI v)]) (rest := []) M hw (zc_t1 hC) zc_X6_195 (c_X2_priceByRounds l base D cA ad ty I L P ni nc ns nt hC hI.1.2.1 (zInv_ends hI) u v hu hv) hw.1 rfl rfl ⟨Nat.le_of_ble_eq_true rfl, Nat.le_of_ble_eq_true rfl⟩ ⟨Nat.le_of_ble_eq_true rfl, Nat.le_of_ble_eq_true rfl⟩ hl.1 (Nat.le_of_ble_eq_true rfl) dX6_sumAnew_30) hw (fun H locs hw => ?_)
  exact z_xiret hx hb hr ⟨rfl, (by (try unfold zsq); (try first | rw [if_pos c1] | rw [if_neg c1]); (try first | rfl | assumption))⟩ rfl hw.2 hw.1 (Nat.le_of_ble_eq_true rfl) (Nat.le_of_ble_eq_true rfl) dX6_sumAnew_33 hlocks
set_option maxHeartbeats 4000000 in
set_option maxRecDepth 100000 in
theorem c_X6_account (l : Launch) (base : Nat) (D : va_G) (cA : Nat → ClassId) (ad : Nat → Nat) (ty : zTyp) (I : zIt) (L : zLt) (P : zPt) (hl0 : l.stackTraces = false) (ni nc ns nt : Nat) (hC : zcls ni nc ns nt ty P) (hI : zInv ni nc ns nt I) (i x : Int32) : zXl l base D cA yX6_account cX6_account 4 7 112 2 12 [.ref (ad 0), .int i, .int x] (zW base D cA ad ty I L P) (zsq (zo1 i nt) (zo2 x 0 3)) (if x = 0 then L (64 + i.toNatClampNeg) 7 else if x = 1 then (I (64 + i.toNatClampNeg) 8).toInt64 else if x = 2 then (I (64 + i.toNatClampNeg) 9).toInt64 else (I (64 + i.toNatClampNeg) 10).toInt64) (zW base D cA ad ty I L P) := by
  refine z_xstart (by decide +kernel) (Nat.le_of_ble_eq_true rfl) fun p e s m below meth c ls M hP hS hl hr hlocks hnm hout => ?_
  have M : zM p s m c cX6_account RX6 4 base D cA := M
  have hw : zH base D cA s s.heap [] ad ty I L P := ⟨hP, hS⟩
  obtain ⟨hx, hb, -⟩ := id M
  have hl : lv_has ls 4 [(0, .ref (ad 0)), (1, .int i), (2, .int x)] := hl
  obtain ⟨hb1, hb2, hb3, hb4⟩ := zc_b hC
  have hbb : nc ≤ 16 ∧ ns ≤ 4 ∧ nt ≤ 12 := ⟨hb2, hb3, hb4⟩
  refine lv_iload_n hx hb dX6_account_0 rfl (lv_at hl 1 rfl) ?_
  refine lv_aload_n hx hb dX6_account_1 rfl (lv_at hl 0 rfl) ?_
  refine z_geti M hw (zc_t0 hC) zf_X6_41 dX6_account_2 ?_
  refine z_topi (y := nI nt) hI.1.2.2.2 ?_
  refine z_xcv (z_xrunS (As := [.int i, .int (nI nt)]) (rest := []) M hw.2 zc_X6_61 zn_X6_61 (c_X6_checkIndex l base D cA ad ty I L P hl0 i nt (by omega)) hw.1 rfl rfl ⟨Nat.le_of_ble_eq_true rfl, Nat.le_of_ble_eq_true rfl⟩ ⟨Nat.le_of_ble_eq_true rfl, Nat.le_of_ble_eq_true rfl⟩ hl.1 (Nat.le_of_ble_eq_true rfl) dX6_account_5) hw.2 (fun c1 ce q H locs hw0 hS hq hv hcl => ?_) (fun c1 H locs hw1 hS => ?_)
  · exact z_xout c1 (by (try unfold zsq); (try first | rw [if_pos c1] | rw [if_neg c1]); (try first | rfl | assumption)) hw0 hS hq hv hcl hout (Nat.le_of_ble_eq_true rfl) (Nat.le_of_ble_eq_true rfl) hlocks
  have hw : zH base D cA s H locs ad ty I L P := ⟨hw1, hS⟩
  have hi := zo1_z c1
  have qi := (zlt_nat hi).2
  rw [(zlt_nat hi).1] at hl
  refine lv_iload_n hx hb dX6_account_8 rfl (lv_at hl 2 rfl) ?_
  refine lv_iconst (v := 0) hx hb dX6_account_9 (by decide) ?_
  refine lv_iconst (v := 3) hx hb dX6_account_10 (by decide) ?_
  refine z_xcv (z_xrunS (As := [.int x, .int 0, .int 3]) (rest := []) M hw.2 zc_X6_51 zn_X6_51 (c_X6_checkRange l base D cA ad ty I L P hl0 x 0 3) hw.1 rfl rfl ⟨Nat.le_of_ble_eq_true rfl, Nat.le_of_ble_eq_true rfl⟩ ⟨Nat.le_of_ble_eq_true rfl, Nat.le_of_ble_eq_true rfl⟩ hl.1 (Nat.le_of_ble_eq_true rfl) dX6_account_11) hw.2 (fun c2 ce q H locs hw0 hS hq hv hcl => ?_) (fun c2 H locs hw1 hS => ?_)
  · exact z_xout c2 (by (try unfold zsq); (try first | rw [if_pos c1] | rw [if_neg c1]); (try first | rw [if_pos c2] | rw [if_neg c2]); (try first | rfl | assumption)) hw0 hS hq hv hcl hout (Nat.le_of_ble_eq_true rfl) (Nat.le_of_ble_eq_true rfl) hlocks
  have hw : zH base D cA s H locs ad ty I L P := ⟨hw1, hS⟩
  have zc2 := zo2_z c2
  refine lv_aload_n hx hb dX6_account_14 rfl (lv_at hl 0 rfl) ?_
  refine z_getr M hw (zc_t0 hC) zf_X6_37 (zc_p05 hC) dX6_account_15 ?_
  refine lv_iload_n hx hb dX6_account_18 rfl (lv_at hl 1 rfl) ?_
  refine z_aNald M hw (e9 := 6) (zc_t5 hC) ⟨by decide, rfl⟩ rfl ⟨by omega, by omega⟩ (zc_pT hC (by omega)) dX6_account_19 ?_
  refine lv_astore_n (lv' := [(3, .ref (ad (64 + i.toNatClampNeg))), (0, .ref (ad 0)), (1, .int (nI i.toNatClampNeg)), (2, .int x)]) hx hb dX6_account_20 rfl hl (by decide) rfl (fun ls hl => ?_)
  refine lv_iload_n hx hb dX6_account_21 rfl (lv_at hl 3 rfl) ?_
  by_cases h3 : x = 0
  · refine z_topi (y := 0) h3 ?_
    refine lv_tableIn (off := 26) (tgt := 48) hx hb dX6_account_22 (by decide) (by decide) (by decide) (by decide) ?_
    refine lv_aload_n hx hb dX6_account_48 rfl (lv_at hl 0 rfl) ?_
    refine z_getl M hw (zc_tT hC (by omega)) zf_X6_198 dX6_account_49 ?_
    exact z_xlret hx hb hr ⟨(by (try first | rw [if_pos h3] | rw [if_neg h3])), (by (try unfold zsq); (try first | rw [if_pos c1] | rw [if_neg c1]); (try first | rw [if_pos c2] | rw [if_neg c2]); (try first | rw [if_pos h3] | rw [if_neg h3]); (try first | rfl | assumption))⟩ hw.2 hw.1 (Nat.le_of_ble_eq_true rfl) (Nat.le_of_ble_eq_true rfl) dX6_account_52 hlocks
  by_cases h4 : x = 1
  · refine z_topi (y := 1) h4 ?_
    refine lv_tableIn (off := 31) (tgt := 53) hx hb dX6_account_22 (by decide) (by decide) (by decide) (by decide) ?_
    refine lv_aload_n hx hb dX6_account_53 rfl (lv_at hl 0 rfl) ?_
    refine z_geti M hw (zc_tT hC (by omega)) zf_X6_202 dX6_account_54 ?_
    refine lv_i2l hx hb dX6_account_57 rfl ?_
    exact z_xlret hx hb hr ⟨(by (try first | rw [if_pos h3] | rw [if_neg h3]); (try first | rw [if_pos h4] | rw [if_neg h4])), (by (try unfold zsq); (try first | rw [if_pos c1] | rw [if_neg c1]); (try first | rw [if_pos c2] | rw [if_neg c2]); (try first | rw [if_pos h3] | rw [if_neg h3]); (try first | rw [if_pos h4] | rw [if_neg h4]); (try first | rfl | assumption))⟩ hw.2 hw.1 (Nat.le_of_ble_eq_true rfl) (Nat.le_of_ble_eq_true rfl) dX6_account_58 hlocks
  by_cases h5 : x = 2
  · refine z_topi (y := 2) h5 ?_
    refine lv_tableIn (off := 37) (tgt := 59) hx hb dX6_account_22 (by decide) (by decide) (by decide) (by decide) ?_
    refine lv_aload_n hx hb dX6_account_59 rfl (lv_at hl 0 rfl) ?_
    refine z_geti M hw (zc_tT hC (by omega)) zf_X6_205 dX6_account_60 ?_
    refine lv_i2l hx hb dX6_account_63 rfl ?_
    exact z_xlret hx hb hr ⟨(by (try first | rw [if_pos h3] | rw [if_neg h3]); (try first | rw [if_pos h4] | rw [if_neg h4]); (try first | rw [if_pos h5] | rw [if_neg h5])), (by (try unfold zsq); (try first | rw [if_pos c1] | rw [if_neg c1]); (try first | rw [if_pos c2] | rw [if_neg c2]); (try first | rw [if_pos h3] | rw [if_neg h3]); (try first | rw [if_pos h4] | rw [if_neg h4]); (try first | rw [if_pos h5] | rw [if_neg h5]); (try first | rfl | assumption))⟩ hw.2 hw.1 (Nat.le_of_ble_eq_true rfl) (Nat.le_of_ble_eq_true rfl) dX6_account_64 hlocks
  refine lv_tableOut (tgt := 65) hx hb dX6_account_22 (by have q0 := z_t1 0 rfl h3; have q1 := z_t1 1 rfl h4; have q2 := z_t1 2 rfl h5; omega) (by decide) ?_
  refine lv_aload_n hx hb dX6_account_65 rfl (lv_at hl 0 rfl) ?_
  refine z_geti M hw (zc_tT hC (by omega)) zf_X6_208 dX6_account_66 ?_
  refine lv_i2l hx hb dX6_account_69 rfl ?_
  exact z_xlret hx hb hr ⟨(by (try first | rw [if_pos h3] | rw [if_neg h3]); (try first | rw [if_pos h4] | rw [if_neg h4]); (try first | rw [if_pos h5] | rw [if_neg h5])), (by (try unfold zsq); (try first | rw [if_pos c1] | rw [if_neg c1]); (try first | rw [if_pos c2] | rw [if_neg c2]); (try first | rw [if_pos h3] | rw [if_neg h3]); (try first | rw [if_pos h4] | rw [if_neg h4]); (try first | rw [if_pos h5] | rw [if_neg h5]); (try first | rfl | assumption))⟩ hw.2 hw.1 (Nat.le_of_ble_eq_true rfl) (Nat.le_of_ble_eq_true rfl) dX6_account_70 hlocks
set_option maxHeartbeats 4000000 in
set_option maxRecDepth 100000 in
theorem c_X6_reach (l : Launch) (base : Nat) (D : va_G) (cA : Nat → ClassId) (ad : Nat → Nat) (ty : zTyp) (I : zIt) (L : zLt) (P : zPt) (hl0 : l.stackTraces = false) (ni nc ns nt : Nat) (hC : zcls ni nc ns nt ty P) (hI : zInv ni nc ns nt I) (i : Int32) : zXi l base D cA yX6_reach cX6_reach 2 .int 7 111 1 6 [.ref (ad 0), .int i] (zW base D cA ad ty I L P) (zo1 i ni) (zRer I nc (1 <<< (nI i.toNatClampNeg &&& 31)) 9) (zW base D cA ad ty I L P) := by
  refine z_xstart (by decide +kernel) (Nat.le_of_ble_eq_true rfl) fun p e s m below meth c ls M hP hS hl hr hlocks hnm hout => ?_
  have M : zM p s m c cX6_reach RX6 2 base D cA := M
  have hw : zH base D cA s s.heap [] ad ty I L P := ⟨hP, hS⟩
  obtain ⟨hx, hb, -⟩ := id M
  have hl : lv_has ls 2 [(0, .ref (ad 0)), (1, .int i)] := hl
  obtain ⟨hb1, hb2, hb3, hb4⟩ := zc_b hC
  have hbb : nc ≤ 16 ∧ ns ≤ 4 ∧ nt ≤ 12 := ⟨hb2, hb3, hb4⟩
  refine lv_iload_n hx hb dX6_reach_0 rfl (lv_at hl 1 rfl) ?_
  refine lv_aload_n hx hb dX6_reach_1 rfl (lv_at hl 0 rfl) ?_
  refine z_geti M hw (zc_t0 hC) zf_X6_15 dX6_reach_2 ?_
  refine z_topi (y := nI ni) hI.1.1 ?_
  refine z_xcv (z_xrunS (As := [.int i, .int (nI ni)]) (rest := []) M hw.2 zc_X6_61 zn_X6_61 (c_X6_checkIndex l base D cA ad ty I L P hl0 i ni (by omega)) hw.1 rfl rfl ⟨Nat.le_of_ble_eq_true rfl, Nat.le_of_ble_eq_true rfl⟩ ⟨Nat.le_of_ble_eq_true rfl, Nat.le_of_ble_eq_true rfl⟩ hl.1 (Nat.le_of_ble_eq_true rfl) dX6_reach_5) hw.2 (fun c1 ce q H locs hw0 hS hq hv hcl => ?_) (fun c1 H locs hw1 hS => ?_)
  · exact z_xout c1 (by (try unfold zsq); (try first | rw [if_pos c1] | rw [if_neg c1]); (try first | rfl | assumption)) hw0 hS hq hv hcl hout (Nat.le_of_ble_eq_true rfl) (Nat.le_of_ble_eq_true rfl) hlocks
  have hw : zH base D cA s H locs ad ty I L P := ⟨hw1, hS⟩
  have hi := zo1_z c1
  have qi := (zlt_nat hi).2
  rw [(zlt_nat hi).1] at hl
  refine lv_aload_n hx hb dX6_reach_8 rfl (lv_at hl 0 rfl) ?_
  refine z_getr M hw (zc_t0 hC) zf_X6_22 (zc_p02 hC) dX6_reach_9 ?_
  refine lv_iload_n hx hb dX6_reach_12 rfl (lv_at hl 1 rfl) ?_
  refine z_ci0 (z_runV (As := [.int (nI i.toNatClampNeg)]) (rest := []) M hw (zc_t1 hC) zc_X6_211 (c_X2_reachedFrom l base D cA ad ty I L P ni nc ns nt hC hI.1.2.1 i.toNatClampNeg (by omega)) hw.1 rfl rfl ⟨Nat.le_of_ble_eq_true rfl, Nat.le_of_ble_eq_true rfl⟩ ⟨Nat.le_of_ble_eq_true rfl, Nat.le_of_ble_eq_true rfl⟩ hl.1 (Nat.le_of_ble_eq_true rfl) dX6_reach_13) hw (fun H locs hw => ?_)
  exact z_xiret hx hb hr ⟨rfl, (by (try unfold zsq); (try first | rw [if_pos c1] | rw [if_neg c1]); (try first | rfl | assumption))⟩ rfl hw.2 hw.1 (Nat.le_of_ble_eq_true rfl) (Nat.le_of_ble_eq_true rfl) dX6_reach_16 hlocks
end
section
def zAim (I : zIt) (κ : Nat) (a b : Int32) : zIt := zu (zu I κ 5 a) κ 6 b
theorem zAim_ne {I : zIt} {κ κ' k : Nat} {a b : Int32} (h : ¬ (κ' = κ ∧ (k = 5 ∨ k = 6))) : zAim I κ a b κ' k = I κ' k := by
  unfold zAim
  rw [zu_ne _ _ (fun h2 => h ⟨h2.1, Or.inr h2.2⟩), zu_ne _ _ (fun h2 => h ⟨h2.1, Or.inl h2.2⟩)]
theorem zAim_5 {I : zIt} {κ : Nat} {a b : Int32} : zAim I κ a b κ 5 = a := by
  unfold zAim
  rw [zu_ne _ _ (by omega), zu_self]
theorem zsp0 {ni nc ns nt : Nat} {I : zIt} (h : zInv ni nc ns nt I) {i : Nat} (hi : i < ns) : ¬ I (48 + i) 0 = 0 := by
  obtain ⟨-, v, h1, h2, h3⟩ := h.2.2.2.1 i hi
  rw [h3]
  exact nI_ne0 h1 (by omega)
theorem z2n {ni nc ns nt : Nat} {I : zIt} (h : zInv ni nc ns nt I) {i : Nat} (hi : i < nc) : ¬ 2 * I (32 + i) 2 = 0 := by
  obtain ⟨a, b, n, d, p, -, -, h1, h2, -, -, -, -, -, h3, -⟩ := h.2.2.1 i hi
  rw [h3]
  have key : ∀ n, n < 9 → 1 ≤ n → ¬ 2 * nI n = 0 := by decide +kernel
  exact key n (by omega) h1
/-- the exceptions of a ship's two calls -/
def zoH (I : zIt) (ni ns : Nat) (i j : Int32) : Nat := zsq (zo1 i ns) (zsq (zo1 j ni) (zoI I (48 + i.toNatClampNeg)))
def zoD (I : zIt) (nc ns : Nat) (i j k : Int32) : Nat := zsq (zo1 i ns) (zsq (zoS I nc j k) (zsq (zoI I (48 + i.toNatClampNeg)) (if zHasF I (32 + j.toNatClampNeg) k then 0 else 3)))
end
section
set_option maxHeartbeats 4000000 in
set_option maxRecDepth 100000 in
theorem c_X6_home (l : Launch) (base : Nat) (D : va_G) (cA : Nat → ClassId) (ad : Nat → Nat) (ty : zTyp) (I : zIt) (L : zLt) (P : zPt) (hl0 : l.stackTraces = false) (ni nc ns nt : Nat) (hC : zcls ni nc ns nt ty P) (hI : zInv ni nc ns nt I) (i j : Int32) : zXi l base D cA yX6_home cX6_home 3 .int 7 111 3 18 [.ref (ad 0), .int i, .int j] (zW base D cA ad ty I L P) (zoH I ni ns i j) (zHours ((zAim I (48 + i.toNatClampNeg) (-1) (-1)) (48 + i.toNatClampNeg) 1) ((zAim I (48 + i.toNatClampNeg) (-1) (-1)) (48 + i.toNatClampNeg) 2) ((zAim I (48 + i.toNatClampNeg) (-1) (-1)) (48 + i.toNatClampNeg) 0) (I (16 + j.toNatClampNeg) 0) (I (16 + j.toNatClampNeg) 1)) (zW base D cA ad ty (zSet (zAim I (48 + i.toNatClampNeg) (-1) (-1)) (48 + i.toNatClampNeg) (I (16 + j.toNatClampNeg) 0) (I (16 + j.toNatClampNeg) 1)) L P) := by
  refine z_xstart (by decide +kernel) (Nat.le_of_ble_eq_true rfl) fun p e s m below meth c ls M hP hS hl hr hlocks hnm hout => ?_
  have M : zM p s m c cX6_home RX6 3 base D cA := M
  have hw : zH base D cA s s.heap [] ad ty I L P := ⟨hP, hS⟩
  obtain ⟨hx, hb, -⟩ := id M
  have hl : lv_has ls 3 [(0, .ref (ad 0)), (1, .int i), (2, .int j)] := hl
  obtain ⟨hb1, hb2, hb3, hb4⟩ := zc_b hC
  have hbb : nc ≤ 16 ∧ ns ≤ 4 ∧ nt ≤ 12 := ⟨hb2, hb3, hb4⟩
  refine lv_iload_n hx hb dX6_home_0 rfl (lv_at hl 1 rfl) ?_
  refine lv_aload_n hx hb dX6_home_1 rfl (lv_at hl 0 rfl) ?_
  refine z_geti M hw (zc_t0 hC) zf_X6_32 dX6_home_2 ?_
  refine z_topi (y := nI ns) hI.1.2.2.1 ?_
  refine z_xcv (z_xrunS (As := [.int i, .int (nI ns)]) (rest := []) M hw.2 zc_X6_61 zn_X6_61 (c_X6_checkIndex l base D cA ad ty I L P hl0 i ns (by omega)) hw.1 rfl rfl ⟨Nat.le_of_ble_eq_true rfl, Nat.le_of_ble_eq_true rfl⟩ ⟨Nat.le_of_ble_eq_true rfl, Nat.le_of_ble_eq_true rfl⟩ hl.1 (Nat.le_of_ble_eq_true rfl) dX6_home_5) hw.2 (fun c1 ce q H locs hw0 hS hq hv hcl => ?_) (fun c1 H locs hw1 hS => ?_)
  · exact z_xout c1 (by unfold zoH; (try unfold zsq); (try first | rw [if_pos c1] | rw [if_neg c1]); (try first | rfl | assumption)) hw0 hS hq hv hcl hout (Nat.le_of_ble_eq_true rfl) (Nat.le_of_ble_eq_true rfl) hlocks
  have hw : zH base D cA s H locs ad ty I L P := ⟨hw1, hS⟩
  have hi := zo1_z c1
  have qi := (zlt_nat hi).2
  rw [(zlt_nat hi).1] at hl
  refine lv_iload_n hx hb dX6_home_8 rfl (lv_at hl 2 rfl) ?_
  refine lv_aload_n hx hb dX6_home_9 rfl (lv_at hl 0 rfl) ?_
  refine z_geti M hw (zc_t0 hC) zf_X6_15 dX6_home_10 ?_
  refine z_topi (y := nI ni) hI.1.1 ?_
  refine z_xcv (z_xrunS (As := [.int j, .int (nI ni)]) (rest := []) M hw.2 zc_X6_61 zn_X6_61 (c_X6_checkIndex l base D cA ad ty I L P hl0 j ni (by omega)) hw.1 rfl rfl ⟨Nat.le_of_ble_eq_true rfl, Nat.le_of_ble_eq_true rfl⟩ ⟨Nat.le_of_ble_eq_true rfl, Nat.le_of_ble_eq_true rfl⟩ hl.1 (Nat.le_of_ble_eq_true rfl) dX6_home_13) hw.2 (fun c2 ce q H locs hw0 hS hq hv hcl => ?_) (fun c2 H locs hw1 hS => ?_)
  · exact z_xout c2 (by unfold zoH; (try unfold zsq); (try first | rw [if_pos c1] | rw [if_neg c1]); (try first | rw [if_pos c2] | rw [if_neg c2]); (try first | rfl | assumption)) hw0 hS hq hv hcl hout (Nat.le_of_ble_eq_true rfl) (Nat.le_of_ble_eq_true rfl) hlocks
  have hw : zH base D cA s H locs ad ty I L P := ⟨hw1, hS⟩
  have hj := zo1_z c2
  have qj := (zlt_nat hj).2
  rw [(zlt_nat hj).1] at hl
  refine lv_aload_n hx hb dX6_home_16 rfl (lv_at hl 0 rfl) ?_
  refine z_getr M hw (zc_t0 hC) zf_X6_28 (zc_p03 hC) dX6_home_17 ?_
  refine lv_iload_n hx hb dX6_home_20 rfl (lv_at hl 1 rfl) ?_
  refine z_aNald M hw (e9 := 5) (zc_t4 hC) ⟨by decide, rfl⟩ rfl ⟨by omega, by omega⟩ (zc_pS hC (by omega)) dX6_home_21 ?_
  refine z_xcv (z_xrunS (As := [.ref (ad (48 + i.toNatClampNeg))]) (rest := []) M hw.2 zc_X6_112 zn_X6_112 (c_X6_checkIdle l base D cA ad ty I L P hl0 (48 + i.toNatClampNeg) 0 (zc_tS hC (by omega))) hw.1 rfl rfl ⟨Nat.le_of_ble_eq_true rfl, Nat.le_of_ble_eq_true rfl⟩ ⟨Nat.le_of_ble_eq_true rfl, Nat.le_of_ble_eq_true rfl⟩ hl.1 (Nat.le_of_ble_eq_true rfl) dX6_home_22) hw.2 (fun c3 ce q H locs hw0 hS hq hv hcl => ?_) (fun c3 H locs hw1 hS => ?_)
  · exact z_xout c3 (by unfold zoH; (try unfold zsq); (try first | rw [if_pos c1] | rw [if_neg c1]); (try first | rw [if_pos c2] | rw [if_neg c2]); (try first | rw [if_pos c3] | rw [if_neg c3]); (try first | rfl | assumption)) hw0 hS hq hv hcl hout (Nat.le_of_ble_eq_true rfl) (Nat.le_of_ble_eq_true rfl) hlocks
  have hw : zH base D cA s H locs ad ty I L P := ⟨hw1, hS⟩
  have zc3 := zoI_z c3
  refine lv_aload_n hx hb dX6_home_25 rfl (lv_at hl 0 rfl) ?_
  refine z_getr M hw (zc_t0 hC) zf_X6_28 (zc_p03 hC) dX6_home_26 ?_
  refine lv_iload_n hx hb dX6_home_29 rfl (lv_at hl 1 rfl) ?_
  refine z_aNald M hw (e9 := 5) (zc_t4 hC) ⟨by decide, rfl⟩ rfl ⟨by omega, by omega⟩ (zc_pS hC (by omega)) dX6_home_30 ?_
  refine lv_iconst (v := (-1)) hx hb dX6_home_31 (by decide) ?_
  refine lv_iconst (v := (-1)) hx hb dX6_home_32 (by decide) ?_
  refine z_cv0 (z_runV (As := [.int (-1), .int (-1)]) (rest := []) M hw (zc_tS hC (by omega)) zc_X6_124 (c_X3_aimAt l base D cA ad ty I L P (48 + i.toNatClampNeg) 0 (zc_tS hC (by omega)) (-1) (-1)) hw.1 rfl rfl ⟨Nat.le_of_ble_eq_true rfl, Nat.le_of_ble_eq_true rfl⟩ ⟨Nat.le_of_ble_eq_true rfl, Nat.le_of_ble_eq_true rfl⟩ hl.1 (Nat.le_of_ble_eq_true rfl) dX6_home_33) hw (fun H locs hw => ?_)
  have hw : zH base D cA s H locs ad ty (zAim I (48 + i.toNatClampNeg) (-1) (-1)) L P := hw
  refine lv_aload_n hx hb dX6_home_36 rfl (lv_at hl 0 rfl) ?_
  refine lv_aload_n hx hb dX6_home_37 rfl (lv_at hl 0 rfl) ?_
  refine z_getr M hw (zc_t0 hC) zf_X6_28 (zc_p03 hC) dX6_home_38 ?_
  refine lv_iload_n hx hb dX6_home_41 rfl (lv_at hl 1 rfl) ?_
  refine z_aNald M hw (e9 := 5) (zc_t4 hC) ⟨by decide, rfl⟩ rfl ⟨by omega, by omega⟩ (zc_pS hC (by omega)) dX6_home_42 ?_
  refine lv_aload_n hx hb dX6_home_43 rfl (lv_at hl 0 rfl) ?_
  refine z_getr M hw (zc_t0 hC) zf_X6_11 (zc_p00 hC) dX6_home_44 ?_
  refine lv_iload_n hx hb dX6_home_47 rfl (lv_at hl 2 rfl) ?_
  refine z_aNald M hw (e9 := 4) (zc_t2 hC) ⟨by decide, rfl⟩ rfl ⟨by omega, by omega⟩ (zc_pI hC (by omega)) dX6_home_48 ?_
  refine z_geti M hw (zc_tI hC (by omega)) zf_X6_104 dX6_home_49 ?_
  refine z_topi (y := I (16 + j.toNatClampNeg) 0) (by rw [zAim_ne (by omega)]) ?_
  refine lv_aload_n hx hb dX6_home_52 rfl (lv_at hl 0 rfl) ?_
  refine z_getr M hw (zc_t0 hC) zf_X6_11 (zc_p00 hC) dX6_home_53 ?_
  refine lv_iload_n hx hb dX6_home_56 rfl (lv_at hl 2 rfl) ?_
  refine z_aNald M hw (e9 := 4) (zc_t2 hC) ⟨by decide, rfl⟩ rfl ⟨by omega, by omega⟩ (zc_pI hC (by omega)) dX6_home_57 ?_
  refine z_geti M hw (zc_tI hC (by omega)) zf_X6_107 dX6_home_58 ?_
  refine z_topi (y := I (16 + j.toNatClampNeg) 1) (by rw [zAim_ne (by omega)]) ?_
  refine z_ci0 (z_runV (As := [.ref (ad (48 + i.toNatClampNeg)), .int (I (16 + j.toNatClampNeg) 0), .int (I (16 + j.toNatClampNeg) 1)]) (rest := []) M hw (zc_t0 hC) zc_X6_131 (c_X6_setOff l base D cA ad ty (zAim I (48 + i.toNatClampNeg) (-1) (-1)) L P ni nc ns nt hC i.toNatClampNeg qi (Or.inl zAim_5) (zNfo_c (zAim_ne (by omega)) hI.2.1).1 (zNfo_c (zAim_ne (by omega)) hI.2.1).2 (I (16 + j.toNatClampNeg) 0) (I (16 + j.toNatClampNeg) 1) (by rw [zAim_ne (by omega)]; exact zsp0 hI qi)) hw.1 rfl rfl ⟨Nat.le_of_ble_eq_true rfl, Nat.le_of_ble_eq_true rfl⟩ ⟨Nat.le_of_ble_eq_true rfl, Nat.le_of_ble_eq_true rfl⟩ hl.1 (Nat.le_of_ble_eq_true rfl) dX6_home_61) hw (fun H locs hw => ?_)
  exact z_xiret hx hb hr ⟨rfl, (by unfold zoH; (try unfold zsq); (try first | rw [if_pos c1] | rw [if_neg c1]); (try first | rw [if_pos c2] | rw [if_neg c2]); (try first | rw [if_pos c3] | rw [if_neg c3]); (try first | rfl | assumption))⟩ rfl hw.2 hw.1 (Nat.le_of_ble_eq_true rfl) (Nat.le_of_ble_eq_true rfl) dX6_home_64 hlocks
set_option maxHeartbeats 4000000 in
set_option maxRecDepth 100000 in
theorem c_X6_send (l : Launch) (base : Nat) (D : va_G) (cA : Nat → ClassId) (ad : Nat → Nat) (ty : zTyp) (I : zIt) (L : zLt) (P : zPt) (hl0 : l.stackTraces = false) (ni nc ns nt : Nat) (hC : zcls ni nc ns nt ty P) (hI : zInv ni nc ns nt I) (i j k : Int32) (a b : Nat) (ha : zlt j nc → a < ni) (hb0 : zlt j nc → b < ni) (ea : zlt j nc → I (32 + j.toNatClampNeg) 0 = nI a) (eb : zlt j nc → I (32 + j.toNatClampNeg) 1 = nI b) : zXi l base D cA yX6_send cX6_send 7 .int 8 133 5 30 [.ref (ad 0), .int i, .int j, .int k] (zW base D cA ad ty I L P) (zoD I nc ns i j k) (zHours ((zAim I (48 + i.toNatClampNeg) (nI j.toNatClampNeg) k) (48 + i.toNatClampNeg) 1) ((zAim I (48 + i.toNatClampNeg) (nI j.toNatClampNeg) k) (48 + i.toNatClampNeg) 2) ((zAim I (48 + i.toNatClampNeg) (nI j.toNatClampNeg) k) (48 + i.toNatClampNeg) 0) (zPlace k (I (16 + a) 0) (I (16 + b) 0) (I (32 + j.toNatClampNeg) 2)) (zPlace k (I (16 + a) 1) (I (16 + b) 1) (I (32 + j.toNatClampNeg) 2))) (zW base D cA ad ty (zSet (zAim I (48 + i.toNatClampNeg) (nI j.toNatClampNeg) k) (48 + i.toNatClampNeg) (zPlace k (I (16 + a) 0) (I (16 + b) 0) (I (32 + j.toNatClampNeg) 2)) (zPlace k (I (16 + a) 1) (I (16 + b) 1) (I (32 + j.toNatClampNeg) 2))) L P) := by
  refine z_xstart (by decide +kernel) (Nat.le_of_ble_eq_true rfl) fun p e s m below meth c ls M hP hS hl hr hlocks hnm hout => ?_
  have M : zM p s m c cX6_send RX6 7 base D cA := M
  have hw : zH base D cA s s.heap [] ad ty I L P := ⟨hP, hS⟩
  obtain ⟨hx, hb, -⟩ := id M
  have hl : lv_has ls 7 [(0, .ref (ad 0)), (1, .int i), (2, .int j), (3, .int k)] := hl
  obtain ⟨hb1, hb2, hb3, hb4⟩ := zc_b hC
  have hbb : nc ≤ 16 ∧ ns ≤ 4 ∧ nt ≤ 12 := ⟨hb2, hb3, hb4⟩
  refine lv_iload_n hx hb dX6_send_0 rfl (lv_at hl 1 rfl) ?_
  refine lv_aload_n hx hb dX6_send_1 rfl (lv_at hl 0 rfl) ?_
  refine z_geti M hw (zc_t0 hC) zf_X6_32 dX6_send_2 ?_
  refine z_topi (y := nI ns) hI.1.2.2.1 ?_
  refine z_xcv (z_xrunS (As := [.int i, .int (nI ns)]) (rest := []) M hw.2 zc_X6_61 zn_X6_61 (c_X6_checkIndex l base D cA ad ty I L P hl0 i ns (by omega)) hw.1 rfl rfl ⟨Nat.le_of_ble_eq_true rfl, Nat.le_of_ble_eq_true rfl⟩ ⟨Nat.le_of_ble_eq_true rfl, Nat.le_of_ble_eq_true rfl⟩ hl.1 (Nat.le_of_ble_eq_true rfl) dX6_send_5) hw.2 (fun c1 ce q H locs hw0 hS hq hv hcl => ?_) (fun c1 H locs hw1 hS => ?_)
  · exact z_xout c1 (by unfold zoD; (try unfold zsq); (try first | rw [if_pos c1] | rw [if_neg c1]); (try first | rfl | assumption)) hw0 hS hq hv hcl hout (Nat.le_of_ble_eq_true rfl) (Nat.le_of_ble_eq_true rfl) hlocks
  have hw : zH base D cA s H locs ad ty I L P := ⟨hw1, hS⟩
  have hi := zo1_z c1
  have qi := (zlt_nat hi).2
  rw [(zlt_nat hi).1] at hl
  refine lv_aload_n hx hb dX6_send_8 rfl (lv_at hl 0 rfl) ?_
  refine lv_iload_n hx hb dX6_send_9 rfl (lv_at hl 2 rfl) ?_
  refine lv_iload_n hx hb dX6_send_10 rfl (lv_at hl 3 rfl) ?_
  refine z_xcv (z_xrunV (As := [.int j, .int k]) (rest := []) M hw (zc_t0 hC) zc_X6_86 zn_X6_86 (c_X6_checkSpan l base D cA ad ty I L P hl0 ni nc ns nt hC hI.1.2.1 (zInv_span hI) j k) hw.1 rfl rfl ⟨Nat.le_of_ble_eq_true rfl, Nat.le_of_ble_eq_true rfl⟩ ⟨Nat.le_of_ble_eq_true rfl, Nat.le_of_ble_eq_true rfl⟩ hl.1 (Nat.le_of_ble_eq_true rfl) dX6_send_11) hw.2 (fun c2 ce q H locs hw0 hS hq hv hcl => ?_) (fun c2 H locs hw1 hS => ?_)
  · exact z_xout c2 (by unfold zoD; (try unfold zsq); (try first | rw [if_pos c1] | rw [if_neg c1]); (try first | rw [if_pos c2] | rw [if_neg c2]); (try first | rfl | assumption)) hw0 hS hq hv hcl hout (Nat.le_of_ble_eq_true rfl) (Nat.le_of_ble_eq_true rfl) hlocks
  have hw : zH base D cA s H locs ad ty I L P := ⟨hw1, hS⟩
  have hj := (zoS_z c2).1
  have qj := (zlt_nat hj).2
  have hk := (zoS_z c2).2
  rw [(zlt_nat hj).1] at hl
  refine lv_aload_n hx hb dX6_send_14 rfl (lv_at hl 0 rfl) ?_
  refine z_getr M hw (zc_t0 hC) zf_X6_28 (zc_p03 hC) dX6_send_15 ?_
  refine lv_iload_n hx hb dX6_send_18 rfl (lv_at hl 1 rfl) ?_
  refine z_aNald M hw (e9 := 5) (zc_t4 hC) ⟨by decide, rfl⟩ rfl ⟨by omega, by omega⟩ (zc_pS hC (by omega)) dX6_send_19 ?_
  refine z_xcv (z_xrunS (As := [.ref (ad (48 + i.toNatClampNeg))]) (rest := []) M hw.2 zc_X6_112 zn_X6_112 (c_X6_checkIdle l base D cA ad ty I L P hl0 (48 + i.toNatClampNeg) 0 (zc_tS hC (by omega))) hw.1 rfl rfl ⟨Nat.le_of_ble_eq_true rfl, Nat.le_of_ble_eq_true rfl⟩ ⟨Nat.le_of_ble_eq_true rfl, Nat.le_of_ble_eq_true rfl⟩ hl.1 (Nat.le_of_ble_eq_true rfl) dX6_send_20) hw.2 (fun c3 ce q H locs hw0 hS hq hv hcl => ?_) (fun c3 H locs hw1 hS => ?_)
  · exact z_xout c3 (by unfold zoD; (try unfold zsq); (try first | rw [if_pos c1] | rw [if_neg c1]); (try first | rw [if_pos c2] | rw [if_neg c2]); (try first | rw [if_pos c3] | rw [if_neg c3]); (try first | rfl | assumption)) hw0 hS hq hv hcl hout (Nat.le_of_ble_eq_true rfl) (Nat.le_of_ble_eq_true rfl) hlocks
  have hw : zH base D cA s H locs ad ty I L P := ⟨hw1, hS⟩
  have zc3 := zoI_z c3
  refine lv_aload_n hx hb dX6_send_23 rfl (lv_at hl 0 rfl) ?_
  refine z_getr M hw (zc_t0 hC) zf_X6_22 (zc_p02 hC) dX6_send_24 ?_
  refine z_getr M hw (zc_t1 hC) zf_X6_79 (zc_p10 hC) dX6_send_27 ?_
  refine lv_iload_n hx hb dX6_send_30 rfl (lv_at hl 2 rfl) ?_
  refine z_aNald M hw (e9 := 3) (zc_t3 hC) ⟨by decide, rfl⟩ rfl ⟨by omega, by omega⟩ (zc_pC hC (by omega)) dX6_send_31 ?_
  refine lv_astore (lv' := [(4, .ref (ad (32 + j.toNatClampNeg))), (0, .ref (ad 0)), (1, .int (nI i.toNatClampNeg)), (2, .int (nI j.toNatClampNeg)), (3, .int k)]) hx hb dX6_send_32 hl (by decide) rfl (fun ls hl => ?_)
  refine lv_aload hx hb dX6_send_34 (lv_at hl 0 rfl) ?_
  refine lv_iload_n hx hb dX6_send_36 rfl (lv_at hl 4 rfl) ?_
  refine z_ci0 (z_runV (As := [.int k]) (rest := []) M hw (zc_tC hC (by omega)) zc_X6_89 (c_X0_hasFaultAt l base D cA ad ty I L P (32 + j.toNatClampNeg) 0 (zc_tC hC (by omega)) k) hw.1 rfl rfl ⟨Nat.le_of_ble_eq_true rfl, Nat.le_of_ble_eq_true rfl⟩ ⟨Nat.le_of_ble_eq_true rfl, Nat.le_of_ble_eq_true rfl⟩ hl.1 (Nat.le_of_ble_eq_true rfl) dX6_send_37) hw (fun H locs hw => ?_)
  refine lv_if_ne (tgt := 53) hx hb dX6_send_40 (by decide) (fun c4 => ?_) (fun c4 => ?_)
  · skip
    have c4 := zb_ne0.mp c4
    have ha9 := ha hj
    have hb9 := hb0 hj
    refine lv_aload_n hx hb dX6_send_53 rfl (lv_at hl 1 rfl) ?_
    refine z_getr M hw (zc_t0 hC) zf_X6_11 (zc_p00 hC) dX6_send_54 ?_
    refine lv_aload hx hb dX6_send_57 (lv_at hl 0 rfl) ?_
    refine z_geti M hw (zc_tC hC (by omega)) zf_X6_118 dX6_send_59 ?_
    refine z_topi (y := nI a) (ea hj) ?_
    refine z_aNald M hw (e9 := 4) (zc_t2 hC) ⟨by decide, rfl⟩ rfl ⟨by omega, by omega⟩ (zc_pI hC (by omega)) dX6_send_62 ?_
    refine lv_astore (lv' := [(5, .ref (ad (16 + a))), (4, .ref (ad (32 + j.toNatClampNeg))), (0, .ref (ad 0)), (1, .int (nI i.toNatClampNeg)), (2, .int (nI j.toNatClampNeg)), (3, .int k)]) hx hb dX6_send_63 hl (by decide) rfl (fun ls hl => ?_)
    refine lv_aload_n hx hb dX6_send_65 rfl (lv_at hl 2 rfl) ?_
    refine z_getr M hw (zc_t0 hC) zf_X6_11 (zc_p00 hC) dX6_send_66 ?_
    refine lv_aload hx hb dX6_send_69 (lv_at hl 1 rfl) ?_
    refine z_geti M hw (zc_tC hC (by omega)) zf_X6_121 dX6_send_71 ?_
    refine z_topi (y := nI b) (eb hj) ?_
    refine z_aNald M hw (e9 := 4) (zc_t2 hC) ⟨by decide, rfl⟩ rfl ⟨by omega, by omega⟩ (zc_pI hC (by omega)) dX6_send_74 ?_
    refine lv_astore (lv' := [(6, .ref (ad (16 + b))), (5, .ref (ad (16 + a))), (4, .ref (ad (32 + j.toNatClampNeg))), (0, .ref (ad 0)), (1, .int (nI i.toNatClampNeg)), (2, .int (nI j.toNatClampNeg)), (3, .int k)]) hx hb dX6_send_75 hl (by decide) rfl (fun ls hl => ?_)
    refine lv_aload_n hx hb dX6_send_77 rfl (lv_at hl 3 rfl) ?_
    refine z_getr M hw (zc_t0 hC) zf_X6_28 (zc_p03 hC) dX6_send_78 ?_
    refine lv_iload_n hx hb dX6_send_81 rfl (lv_at hl 4 rfl) ?_
    refine z_aNald M hw (e9 := 5) (zc_t4 hC) ⟨by decide, rfl⟩ rfl ⟨by omega, by omega⟩ (zc_pS hC (by omega)) dX6_send_82 ?_
    refine lv_iload_n hx hb dX6_send_83 rfl (lv_at hl 5 rfl) ?_
    refine lv_iload_n hx hb dX6_send_84 rfl (lv_at hl 6 rfl) ?_
    refine z_cv0 (z_runV (As := [.int (nI j.toNatClampNeg), .int k]) (rest := []) M hw (zc_tS hC (by omega)) zc_X6_124 (c_X3_aimAt l base D cA ad ty I L P (48 + i.toNatClampNeg) 0 (zc_tS hC (by omega)) (nI j.toNatClampNeg) k) hw.1 rfl rfl ⟨Nat.le_of_ble_eq_true rfl, Nat.le_of_ble_eq_true rfl⟩ ⟨Nat.le_of_ble_eq_true rfl, Nat.le_of_ble_eq_true rfl⟩ hl.1 (Nat.le_of_ble_eq_true rfl) dX6_send_85) hw (fun H locs hw => ?_)
    have hw : zH base D cA s H locs ad ty (zAim I (48 + i.toNatClampNeg) (nI j.toNatClampNeg) k) L P := hw
    refine lv_aload_n hx hb dX6_send_88 rfl (lv_at hl 3 rfl) ?_
    refine lv_aload_n hx hb dX6_send_89 rfl (lv_at hl 3 rfl) ?_
    refine z_getr M hw (zc_t0 hC) zf_X6_28 (zc_p03 hC) dX6_send_90 ?_
    refine lv_iload_n hx hb dX6_send_93 rfl (lv_at hl 4 rfl) ?_
    refine z_aNald M hw (e9 := 5) (zc_t4 hC) ⟨by decide, rfl⟩ rfl ⟨by omega, by omega⟩ (zc_pS hC (by omega)) dX6_send_94 ?_
    refine lv_aload hx hb dX6_send_95 (lv_at hl 2 rfl) ?_
    refine lv_iload_n hx hb dX6_send_97 rfl (lv_at hl 6 rfl) ?_
    refine lv_aload hx hb dX6_send_98 (lv_at hl 1 rfl) ?_
    refine z_geti M hw (zc_tI hC (by omega)) zf_X6_104 dX6_send_100 ?_
    refine z_topi (y := I (16 + a) 0) (by rw [zAim_ne (by omega)]) ?_
    refine lv_aload hx hb dX6_send_103 (lv_at hl 0 rfl) ?_
    refine z_geti M hw (zc_tI hC (by omega)) zf_X6_104 dX6_send_105 ?_
    refine z_topi (y := I (16 + b) 0) (by rw [zAim_ne (by omega)]) ?_
    refine z_ci0 (z_runV (As := [.int k, .int (I (16 + a) 0), .int (I (16 + b) 0)]) (rest := [.ref (ad (48 + i.toNatClampNeg)), .ref (ad 0)]) M hw (zc_tC hC (by omega)) zc_X6_127 (c_X0_placeOfSpan l base D cA ad ty (zAim I (48 + i.toNatClampNeg) (nI j.toNatClampNeg) k) L P (32 + j.toNatClampNeg) 0 (zc_tC hC (by omega)) k (I (16 + a) 0) (I (16 + b) 0) (by rw [zAim_ne (by omega)]; exact z2n hI qj)) hw.1 rfl rfl ⟨Nat.le_of_ble_eq_true rfl, Nat.le_of_ble_eq_true rfl⟩ ⟨Nat.le_of_ble_eq_true rfl, Nat.le_of_ble_eq_true rfl⟩ hl.1 (Nat.le_of_ble_eq_true rfl) dX6_send_108) hw (fun H locs hw => ?_)
    rw [zAim_ne (κ' := 32 + j.toNatClampNeg) (by omega)]
    refine lv_aload hx hb dX6_send_111 (lv_at hl 2 rfl) ?_
    refine lv_iload_n hx hb dX6_send_113 rfl (lv_at hl 6 rfl) ?_
    refine lv_aload hx hb dX6_send_114 (lv_at hl 1 rfl) ?_
    refine z_geti M hw (zc_tI hC (by omega)) zf_X6_107 dX6_send_116 ?_
    refine z_topi (y := I (16 + a) 1) (by rw [zAim_ne (by omega)]) ?_
    refine lv_aload hx hb dX6_send_119 (lv_at hl 0 rfl) ?_
    refine z_geti M hw (zc_tI hC (by omega)) zf_X6_107 dX6_send_121 ?_
    refine z_topi (y := I (16 + b) 1) (by rw [zAim_ne (by omega)]) ?_
    refine z_ci0 (z_runV (As := [.int k, .int (I (16 + a) 1), .int (I (16 + b) 1)]) (rest := [.int (zPlace k (I (16 + a) 0) (I (16 + b) 0) (I (32 + j.toNatClampNeg) 2)), .ref (ad (48 + i.toNatClampNeg)), .ref (ad 0)]) M hw (zc_tC hC (by omega)) zc_X6_127 (c_X0_placeOfSpan l base D cA ad ty (zAim I (48 + i.toNatClampNeg) (nI j.toNatClampNeg) k) L P (32 + j.toNatClampNeg) 0 (zc_tC hC (by omega)) k (I (16 + a) 1) (I (16 + b) 1) (by rw [zAim_ne (by omega)]; exact z2n hI qj)) hw.1 rfl rfl ⟨Nat.le_of_ble_eq_true rfl, Nat.le_of_ble_eq_true rfl⟩ ⟨Nat.le_of_ble_eq_true rfl, Nat.le_of_ble_eq_true rfl⟩ hl.1 (Nat.le_of_ble_eq_true rfl) dX6_send_124) hw (fun H locs hw => ?_)
    rw [zAim_ne (κ' := 32 + j.toNatClampNeg) (by omega)]
    refine z_ci0 (z_runV (As := [.ref (ad (48 + i.toNatClampNeg)), .int (zPlace k (I (16 + a) 0) (I (16 + b) 0) (I (32 + j.toNatClampNeg) 2)), .int (zPlace k (I (16 + a) 1) (I (16 + b) 1) (I (32 + j.toNatClampNeg) 2))]) (rest := []) M hw (zc_t0 hC) zc_X6_131 (c_X6_setOff l base D cA ad ty (zAim I (48 + i.toNatClampNeg) (nI j.toNatClampNeg) k) L P ni nc ns nt hC i.toNatClampNeg qi (Or.inr (by rw [zAim_5, nI_clamp (by omega)]; exact ⟨rfl, qj⟩)) (zNfo_c (zAim_ne (by omega)) hI.2.1).1 (zNfo_c (zAim_ne (by omega)) hI.2.1).2 (zPlace k (I (16 + a) 0) (I (16 + b) 0) (I (32 + j.toNatClampNeg) 2)) (zPlace k (I (16 + a) 1) (I (16 + b) 1) (I (32 + j.toNatClampNeg) 2)) (by rw [zAim_ne (by omega)]; exact zsp0 hI qi)) hw.1 rfl rfl ⟨Nat.le_of_ble_eq_true rfl, Nat.le_of_ble_eq_true rfl⟩ ⟨Nat.le_of_ble_eq_true rfl, Nat.le_of_ble_eq_true rfl⟩ hl.1 (Nat.le_of_ble_eq_true rfl) dX6_send_127) hw (fun H locs hw => ?_)
    exact z_xiret hx hb hr ⟨rfl, (by unfold zoD; (try unfold zsq); (try first | rw [if_pos c1] | rw [if_neg c1]); (try first | rw [if_pos c2] | rw [if_neg c2]); (try first | rw [if_pos c3] | rw [if_neg c3]); (try first | rw [if_pos c4] | rw [if_neg c4]); (try first | rfl | assumption))⟩ rfl hw.2 hw.1 (Nat.le_of_ble_eq_true rfl) (Nat.le_of_ble_eq_true rfl) dX6_send_130 hlocks
  · skip
    have c4 := zb_eq0.mp c4
    refine z_throw_at (oc0 := 3) (text := "the span has no fault") (by unfold zoD zsq; (try first | rw [if_pos c1] | rw [if_neg c1]); (try first | rw [if_pos c2] | rw [if_neg c2]); (try first | rw [if_pos c3] | rw [if_neg c3]); (try first | rw [if_pos c4] | rw [if_neg c4])) hl0 M hw (by decide) (by decide +kernel) zth_3 hl.1 dX6_send_43 dX6_send_46 dX6_send_47 dX6_send_49 dX6_send_52 hout ⟨Nat.le_of_ble_eq_true rfl, Nat.le_of_ble_eq_true rfl, Nat.le_of_ble_eq_true rfl, Nat.le_of_ble_eq_true rfl⟩ (Nat.le_of_ble_eq_true rfl) (Nat.le_of_ble_eq_true rfl) hlocks
set_option maxHeartbeats 4000000 in
set_option maxRecDepth 100000 in
theorem c_X6_pass (l : Launch) (base : Nat) (D : va_G) (cA : Nat → ClassId) (ad : Nat → Nat) (ty : zTyp) (I : zIt) (L : zLt) (P : zPt) (hl0 : l.stackTraces = false) (ni nc ns nt : Nat) (hC : zcls ni nc ns nt ty P) (hI : zInv ni nc ns nt I) (hfin : zFin nc) (x : Int32) : zXi l base D cA yX6_pass cX6_pass 3 .int 7 138 1 6 [.ref (ad 0), .int x] (zW base D cA ad ty I L P) (zo2 x 1 500) ((zHrs nc ns nt (I, L) x.toNatClampNeg).1 0 8) (zW base D cA ad ty (zHrs nc ns nt (I, L) x.toNatClampNeg).1 (zHrs nc ns nt (I, L) x.toNatClampNeg).2 P) := by
  refine z_xstart (by decide +kernel) (Nat.le_of_ble_eq_true rfl) fun p e s m below meth c ls M hP hS hl hr hlocks hnm hout => ?_
  have M : zM p s m c cX6_pass RX6 3 base D cA := M
  have hw : zH base D cA s s.heap [] ad ty I L P := ⟨hP, hS⟩
  obtain ⟨hx, hb, -⟩ := id M
  have hl : lv_has ls 3 [(0, .ref (ad 0)), (1, .int x)] := hl
  obtain ⟨hb1, hb2, hb3, hb4⟩ := zc_b hC
  have hbb : nc ≤ 16 ∧ ns ≤ 4 ∧ nt ≤ 12 := ⟨hb2, hb3, hb4⟩
  refine lv_iload_n hx hb dX6_pass_0 rfl (lv_at hl 1 rfl) ?_
  refine lv_iconst (v := 1) hx hb dX6_pass_1 (by decide) ?_
  refine lv_sipush (v := 500) hx hb dX6_pass_2 (by decide) ?_
  refine z_xcv (z_xrunS (As := [.int x, .int 1, .int 500]) (rest := []) M hw.2 zc_X6_51 zn_X6_51 (c_X6_checkRange l base D cA ad ty I L P hl0 x 1 500) hw.1 rfl rfl ⟨Nat.le_of_ble_eq_true rfl, Nat.le_of_ble_eq_true rfl⟩ ⟨Nat.le_of_ble_eq_true rfl, Nat.le_of_ble_eq_true rfl⟩ hl.1 (Nat.le_of_ble_eq_true rfl) dX6_pass_5) hw.2 (fun c1 ce q H locs hw0 hS hq hv hcl => ?_) (fun c1 H locs hw1 hS => ?_)
  · exact z_xout c1 (by (try unfold zsq); (try first | rw [if_pos c1] | rw [if_neg c1]); (try first | rfl | assumption)) hw0 hS hq hv hcl hout (Nat.le_of_ble_eq_true rfl) (Nat.le_of_ble_eq_true rfl) hlocks
  have hw : zH base D cA s H locs ad ty I L P := ⟨hw1, hS⟩
  have zc1 := zo2_z c1
  refine lv_iconst (v := 0) hx hb dX6_pass_8 (by decide) ?_
  refine lv_istore_n (lv' := [(2, .int 0), (0, .ref (ad 0)), (1, .int x)]) hx hb dX6_pass_9 rfl hl (by decide) rfl (fun ls hl => ?_)
  obtain ⟨h, hh, rfl⟩ : ∃ h, h < 501 ∧ x = nI h := by
    have h1 := zc1.1; have h2 := zc1.2
    rw [Int32.le_iff_toInt_le] at h1 h2
    have e1 : (1 : Int32).toInt = 1 := by decide
    have e5 : (500 : Int32).toInt = 500 := by decide
    have hc9 : x.toNatClampNeg = x.toInt.toNat := rfl
    exact ⟨x.toNatClampNeg, by omega, Int32.toInt_inj.mp (by rw [nI_toInt (by omega)]; omega)⟩
  rw [nI_clamp (by omega)]
  refine z_loop (h) (fun (k : Nat) H locs ls => zH base D cA s H locs ad ty ((zHrs nc ns nt (I, L) k).1) ((zHrs nc ns nt (I, L) k).2) P ∧ lv_has ls 3 [(0, .ref (ad 0)), (1, .int (nI h)), (2, .int (nI k))]) 0 ⟨hw, lv_sub hl [1, 2, 0] rfl⟩ (by omega) (fun k hk_k ih_k H locs ls hI => ?_)
  obtain ⟨hw, hl⟩ := hI
  refine lv_iload_n hx hb dX6_pass_10 rfl (lv_at hl 2 rfl) ?_
  refine lv_iload_n hx hb dX6_pass_11 rfl (lv_at hl 1 rfl) ?_
  refine lv_icmp_ge (tgt := 25) hx hb dX6_pass_12 (by decide) (fun c2 => ?_) (fun c2 => ?_)
  · skip
    have hge : h = k := Nat.le_antisymm (z_ge (show nI h ≤ nI k from c2) (by omega) (by omega)) (by omega)
    rw [← hge] at hw
    refine lv_aload_n hx hb dX6_pass_25 rfl (lv_at hl 0 rfl) ?_
    refine z_geti M hw (zc_t0 hC) zf_X6_48 dX6_pass_26 ?_
    exact z_xiret hx hb hr ⟨by rw [hge], c1⟩ rfl hw.2 hw.1 (Nat.le_of_ble_eq_true rfl) (Nat.le_of_ble_eq_true rfl) dX6_pass_29 hlocks
  · skip
    have hlt : k < h := z_lt (show ¬ nI h ≤ nI k from c2) (by omega)
    refine lv_aload_n hx hb dX6_pass_15 rfl (lv_at hl 0 rfl) ?_
    refine z_cv0 (z_runV (As := []) (rest := []) M hw (zc_t0 hC) zc_X6_139 (c_X6_passHour l base D cA ad ty (zHrs nc ns nt (I, L) k).1 (zHrs nc ns nt (I, L) k).2 P ni nc ns nt hC (zInv_zHrs hbb (I, L) hI k) hfin) hw.1 rfl rfl ⟨Nat.le_of_ble_eq_true rfl, Nat.le_of_ble_eq_true rfl⟩ ⟨Nat.le_of_ble_eq_true rfl, Nat.le_of_ble_eq_true rfl⟩ hl.1 (Nat.le_of_ble_eq_true rfl) dX6_pass_16) hw (fun H locs hw => ?_)
    refine lv_iinc (v := nI (k + 1)) (lv' := [(2, .int (nI (k + 1))), (0, .ref (ad 0)), (1, .int (nI h))]) hx hb dX6_pass_19 hl (k := 2) rfl (nI_succ _).symm (by decide) rfl (fun ls hl => ?_)
    refine lv_goto (tgt := 10) hx hb dX6_pass_22 (by decide) ?_
    exact ih_k hlt _ _ _ ⟨hw, lv_sub hl [1, 2, 0] rfl⟩
end
section
set_option maxHeartbeats 4000000 in
set_option maxRecDepth 100000 in
theorem c_X0_init (l : Launch) (base : Nat) (D : va_G) (cA : Nat → ClassId) (ad : Nat → Nat) (ty : zTyp) (I : zIt) (L : zLt) (P : zPt) (κ n0 : Nat) (ht : ty κ = some (0, n0)) (a b n w q : Int32) : zMv l base D cA yX0_init cX0_init 6 1 12 0 0 [.ref (ad κ), .int a, .int b, .int n, .int w, .int q] (zW base D cA ad ty I L P) (zW base D cA ad ty (zu (zu (zu (zu (zu (zu I κ 5 0) κ 0 a) κ 1 b) κ 2 n) κ 3 w) κ 4 q) L P) := by
  refine z_start (by decide +kernel) (Nat.le_of_ble_eq_true rfl) fun p e s m below meth c ls M hP hS hl hr hlocks hnm => ?_
  have M : zM p s m c cX0_init RX0 6 base D cA := M
  have hw : zH base D cA s s.heap [] ad ty I L P := ⟨hP, hS⟩
  obtain ⟨hx, hb, -⟩ := id M
  have hl : lv_has ls 6 [(0, .ref (ad κ)), (1, .int a), (2, .int b), (3, .int n), (4, .int w), (5, .int q)] := hl
  refine lv_aload_n hx hb dX0_init_0 rfl (lv_at hl 0 rfl) ?_
  refine W.objInit hx hb M.2.2.2.1 (M.2.2.2.2.1.use (tb 239 (by decide +kernel)) rfl) (M.2.2.2.2.1.use (tb 23 (by decide +kernel)) rfl) (M.2.2.2.2.1.use (tb 24 (by decide +kernel)) rfl) rfl (by rw [M.2.2.1]; exact hl.1) rfl dX0_init_1 (Nat.le_of_ble_eq_true rfl) (Nat.le_of_ble_eq_true rfl) ?_
  refine W.eq (g2 := F0 m 4 ls []) rfl ?_
  refine lv_aload_n hx hb dX0_init_4 rfl (lv_at hl 0 rfl) ?_
  refine lv_iconst (v := 0) hx hb dX0_init_5 (by decide) ?_
  refine z_puti M hw ht zf_X0_9 (Or.inl rfl) rfl rfl dX0_init_6 (fun H locs hw => ?_)
  refine lv_aload_n hx hb dX0_init_9 rfl (lv_at hl 0 rfl) ?_
  refine lv_iload_n hx hb dX0_init_10 rfl (lv_at hl 1 rfl) ?_
  refine z_puti M hw ht zf_X0_15 (Or.inr ⟨rfl, rfl, hnm⟩) rfl rfl dX0_init_11 (fun H locs hw => ?_)
  refine lv_aload_n hx hb dX0_init_14 rfl (lv_at hl 0 rfl) ?_
  refine lv_iload_n hx hb dX0_init_15 rfl (lv_at hl 2 rfl) ?_
  refine z_puti M hw ht zf_X0_18 (Or.inr ⟨rfl, rfl, hnm⟩) rfl rfl dX0_init_16 (fun H locs hw => ?_)
  refine lv_aload_n hx hb dX0_init_19 rfl (lv_at hl 0 rfl) ?_
  refine lv_iload_n hx hb dX0_init_20 rfl (lv_at hl 3 rfl) ?_
  refine z_puti M hw ht zf_X0_21 (Or.inr ⟨rfl, rfl, hnm⟩) rfl rfl dX0_init_21 (fun H locs hw => ?_)
  refine lv_aload_n hx hb dX0_init_24 rfl (lv_at hl 0 rfl) ?_
  refine lv_iload hx hb dX0_init_25 (lv_at hl 4 rfl) ?_
  refine z_puti M hw ht zf_X0_24 (Or.inr ⟨rfl, rfl, hnm⟩) rfl rfl dX0_init_27 (fun H locs hw => ?_)
  refine lv_aload_n hx hb dX0_init_30 rfl (lv_at hl 0 rfl) ?_
  refine lv_iload hx hb dX0_init_31 (lv_at hl 5 rfl) ?_
  refine z_puti M hw ht zf_X0_27 (Or.inl rfl) rfl rfl dX0_init_33 (fun H locs hw => ?_)
  exact z_vret hx hb hr hw.2 hw.1 (Nat.le_of_ble_eq_true rfl) (Nat.le_of_ble_eq_true rfl) dX0_init_36 hlocks
set_option maxHeartbeats 4000000 in
set_option maxRecDepth 100000 in
theorem c_X1_init (l : Launch) (base : Nat) (D : va_G) (cA : Nat → ClassId) (ad : Nat → Nat) (ty : zTyp) (I : zIt) (L : zLt) (P : zPt) (κ n0 : Nat) (ht : ty κ = some (1, n0)) (a b : Int32) : zMv l base D cA yX1_init cX1_init 3 1 12 0 0 [.ref (ad κ), .int a, .int b] (zW base D cA ad ty I L P) (zW base D cA ad ty (zu (zu I κ 0 a) κ 1 b) L P) := by
  refine z_start (by decide +kernel) (Nat.le_of_ble_eq_true rfl) fun p e s m below meth c ls M hP hS hl hr hlocks hnm => ?_
  have M : zM p s m c cX1_init RX1 3 base D cA := M
  have hw : zH base D cA s s.heap [] ad ty I L P := ⟨hP, hS⟩
  obtain ⟨hx, hb, -⟩ := id M
  have hl : lv_has ls 3 [(0, .ref (ad κ)), (1, .int a), (2, .int b)] := hl
  refine lv_aload_n hx hb dX1_init_0 rfl (lv_at hl 0 rfl) ?_
  refine W.objInit hx hb M.2.2.2.1 (M.2.2.2.2.1.use (tb 193 (by decide +kernel)) rfl) (M.2.2.2.2.1.use (tb 23 (by decide +kernel)) rfl) (M.2.2.2.2.1.use (tb 24 (by decide +kernel)) rfl) rfl (by rw [M.2.2.1]; exact hl.1) rfl dX1_init_1 (Nat.le_of_ble_eq_true rfl) (Nat.le_of_ble_eq_true rfl) ?_
  refine W.eq (g2 := F0 m 4 ls []) rfl ?_
  refine lv_aload_n hx hb dX1_init_4 rfl (lv_at hl 0 rfl) ?_
  refine lv_iload_n hx hb dX1_init_5 rfl (lv_at hl 1 rfl) ?_
  refine z_puti M hw ht zf_X1_7 (Or.inr ⟨rfl, rfl, hnm⟩) rfl rfl dX1_init_6 (fun H locs hw => ?_)
  refine lv_aload_n hx hb dX1_init_9 rfl (lv_at hl 0 rfl) ?_
  refine lv_iload_n hx hb dX1_init_10 rfl (lv_at hl 2 rfl) ?_
  refine z_puti M hw ht zf_X1_13 (Or.inr ⟨rfl, rfl, hnm⟩) rfl rfl dX1_init_11 (fun H locs hw => ?_)
  exact z_vret hx hb hr hw.2 hw.1 (Nat.le_of_ble_eq_true rfl) (Nat.le_of_ble_eq_true rfl) dX1_init_14 hlocks
set_option maxHeartbeats 4000000 in
set_option maxRecDepth 100000 in
theorem c_X3_init (l : Launch) (base : Nat) (D : va_G) (cA : Nat → ClassId) (ad : Nat → Nat) (ty : zTyp) (I : zIt) (L : zLt) (P : zPt) (κ n0 : Nat) (ht : ty κ = some (3, n0)) (a b w : Int32) : zMv l base D cA yX3_init cX3_init 4 1 12 0 0 [.ref (ad κ), .int a, .int b, .int w] (zW base D cA ad ty I L P) (zW base D cA ad ty (zu (zu (zu (zu (zu (zu (zu (zu I κ 3 0) κ 4 0) κ 5 (-1)) κ 6 (-1)) κ 7 0) κ 1 a) κ 2 b) κ 0 w) L P) := by
  refine z_start (by decide +kernel) (Nat.le_of_ble_eq_true rfl) fun p e s m below meth c ls M hP hS hl hr hlocks hnm => ?_
  have M : zM p s m c cX3_init RX3 4 base D cA := M
  have hw : zH base D cA s s.heap [] ad ty I L P := ⟨hP, hS⟩
  obtain ⟨hx, hb, -⟩ := id M
  have hl : lv_has ls 4 [(0, .ref (ad κ)), (1, .int a), (2, .int b), (3, .int w)] := hl
  refine lv_aload_n hx hb dX3_init_0 rfl (lv_at hl 0 rfl) ?_
  refine W.objInit hx hb M.2.2.2.1 (M.2.2.2.2.1.use (tb 314 (by decide +kernel)) rfl) (M.2.2.2.2.1.use (tb 23 (by decide +kernel)) rfl) (M.2.2.2.2.1.use (tb 24 (by decide +kernel)) rfl) rfl (by rw [M.2.2.1]; exact hl.1) rfl dX3_init_1 (Nat.le_of_ble_eq_true rfl) (Nat.le_of_ble_eq_true rfl) ?_
  refine W.eq (g2 := F0 m 4 ls []) rfl ?_
  refine lv_aload_n hx hb dX3_init_4 rfl (lv_at hl 0 rfl) ?_
  refine lv_iconst (v := 0) hx hb dX3_init_5 (by decide) ?_
  refine z_puti M hw ht zf_X3_9 (Or.inl rfl) rfl rfl dX3_init_6 (fun H locs hw => ?_)
  refine lv_aload_n hx hb dX3_init_9 rfl (lv_at hl 0 rfl) ?_
  refine lv_iconst (v := 0) hx hb dX3_init_10 (by decide) ?_
  refine z_puti M hw ht zf_X3_15 (Or.inl rfl) rfl rfl dX3_init_11 (fun H locs hw => ?_)
  refine lv_aload_n hx hb dX3_init_14 rfl (lv_at hl 0 rfl) ?_
  refine lv_iconst (v := (-1)) hx hb dX3_init_15 (by decide) ?_
  refine z_puti M hw ht zf_X3_18 (Or.inl rfl) rfl rfl dX3_init_16 (fun H locs hw => ?_)
  refine lv_aload_n hx hb dX3_init_19 rfl (lv_at hl 0 rfl) ?_
  refine lv_iconst (v := (-1)) hx hb dX3_init_20 (by decide) ?_
  refine z_puti M hw ht zf_X3_21 (Or.inl rfl) rfl rfl dX3_init_21 (fun H locs hw => ?_)
  refine lv_aload_n hx hb dX3_init_24 rfl (lv_at hl 0 rfl) ?_
  refine lv_iconst (v := 0) hx hb dX3_init_25 (by decide) ?_
  refine z_puti M hw ht zf_X3_24 (Or.inl rfl) rfl rfl dX3_init_26 (fun H locs hw => ?_)
  refine lv_aload_n hx hb dX3_init_29 rfl (lv_at hl 0 rfl) ?_
  refine lv_iload_n hx hb dX3_init_30 rfl (lv_at hl 1 rfl) ?_
  refine z_puti M hw ht zf_X3_27 (Or.inl rfl) rfl rfl dX3_init_31 (fun H locs hw => ?_)
  refine lv_aload_n hx hb dX3_init_34 rfl (lv_at hl 0 rfl) ?_
  refine lv_iload_n hx hb dX3_init_35 rfl (lv_at hl 2 rfl) ?_
  refine z_puti M hw ht zf_X3_30 (Or.inl rfl) rfl rfl dX3_init_36 (fun H locs hw => ?_)
  refine lv_aload_n hx hb dX3_init_39 rfl (lv_at hl 0 rfl) ?_
  refine lv_iload_n hx hb dX3_init_40 rfl (lv_at hl 3 rfl) ?_
  refine z_puti M hw ht zf_X3_33 (Or.inr ⟨rfl, rfl, hnm⟩) rfl rfl dX3_init_41 (fun H locs hw => ?_)
  exact z_vret hx hb hr hw.2 hw.1 (Nat.le_of_ble_eq_true rfl) (Nat.le_of_ble_eq_true rfl) dX3_init_44 hlocks
set_option maxHeartbeats 4000000 in
set_option maxRecDepth 100000 in
theorem c_X5_init (l : Launch) (base : Nat) (D : va_G) (cA : Nat → ClassId) (ad : Nat → Nat) (ty : zTyp) (I : zIt) (L : zLt) (P : zPt) (κ ρ n0 : Nat) (ht : ty κ = some (5, n0)) (hfr : ty ρ = none) (hne : ρ ≠ κ) : zMv l base D cA yX5_init cX5_init 1 1 12 1 9 [.ref (ad κ)] (zW base D cA ad ty I L P) (fun H => ∃ ad2, (∀ κ t, ty κ = some t → ad2 κ = ad κ) ∧ zW base D cA ad2 (zs ty ρ (some (8, 9))) (zu (zu (zu (zs I ρ (fun _ => 0)) κ 1 (-1)) κ 2 (-1)) κ 3 (-1)) (zs L ρ (fun _ => 0)) (zu (zs P ρ (fun _ => none)) κ 0 (some ρ)) H) := by
  refine z_start (by decide +kernel) (Nat.le_of_ble_eq_true rfl) fun p e s m below meth c ls M hP hS hl hr hlocks hnm => ?_
  have M : zM p s m c cX5_init RX5 1 base D cA := M
  have hw : zH base D cA s s.heap [] ad ty I L P := ⟨hP, hS⟩
  obtain ⟨hx, hb, -⟩ := id M
  have hl : lv_has ls 1 [(0, .ref (ad κ))] := hl
  refine lv_aload_n hx hb dX5_init_0 rfl (lv_at hl 0 rfl) ?_
  refine W.objInit hx hb M.2.2.2.1 (M.2.2.2.2.1.use (tb 415 (by decide +kernel)) rfl) (M.2.2.2.2.1.use (tb 23 (by decide +kernel)) rfl) (M.2.2.2.2.1.use (tb 24 (by decide +kernel)) rfl) rfl (by rw [M.2.2.1]; exact hl.1) rfl dX5_init_1 (Nat.le_of_ble_eq_true rfl) (Nat.le_of_ble_eq_true rfl) ?_
  refine W.eq (g2 := F0 m 4 ls []) rfl ?_
  refine lv_aload_n hx hb dX5_init_4 rfl (lv_at hl 0 rfl) ?_
  refine lv_bipush (v := 9) hx hb dX5_init_5 (by decide) ?_
  refine z_newarr (e9 := 0) (N := 9) M hw ρ hfr ⟨by decide, rfl⟩ (tb 56 (by decide +kernel)) (by decide) (by decide) (by decide) (Nat.le_of_ble_eq_true rfl) (Nat.le_of_ble_eq_true rfl) dX5_init_7 (fun a1 H hw => ?_)
  obtain ⟨ad1, had1⟩ : ∃ z, z = zs ad ρ a1 := ⟨_, rfl⟩
  rw [← had1] at hw ⊢
  have ea2 : ad κ = ad1 κ := by rw [had1, zs_ne _ _ (by omega)]
  rw [ea2] at hl
  refine W.eq (g2 := F0 m 9 ls [.ref (ad1 ρ), .ref (ad1 κ)]) (by rw [ea2]) ?_
  have hag1 : ∀ κ t, ty κ = some t → ad1 κ = ad κ := fun κ t h => (by rw [had1]; exact zs_ne _ _ (fun e => by rw [e] at h; exact absurd (h.symm.trans hfr) (by simp)))
  refine z_putr M hw ((zs_ne _ _ (by omega)).trans ht) zf_X5_9 (Or.inr ⟨rfl, rfl, hnm⟩) (zs_self _ _ _) (fun _ => rfl) (fun _ => rfl) dX5_init_9 (fun H locs hw => ?_)
  refine lv_aload_n hx hb dX5_init_12 rfl (lv_at hl 0 rfl) ?_
  refine lv_iconst (v := (-1)) hx hb dX5_init_13 (by decide) ?_
  refine z_puti M hw ((zs_ne _ _ (by omega)).trans ht) zf_X5_15 (Or.inl rfl) rfl rfl dX5_init_14 (fun H locs hw => ?_)
  refine lv_aload_n hx hb dX5_init_17 rfl (lv_at hl 0 rfl) ?_
  refine lv_iconst (v := (-1)) hx hb dX5_init_18 (by decide) ?_
  refine z_puti M hw ((zs_ne _ _ (by omega)).trans ht) zf_X5_19 (Or.inl rfl) rfl rfl dX5_init_19 (fun H locs hw => ?_)
  refine lv_aload_n hx hb dX5_init_22 rfl (lv_at hl 0 rfl) ?_
  refine lv_iconst (v := (-1)) hx hb dX5_init_23 (by decide) ?_
  refine z_puti M hw ((zs_ne _ _ (by omega)).trans ht) zf_X5_22 (Or.inl rfl) rfl rfl dX5_init_24 (fun H locs hw => ?_)
  exact z_vret hx hb hr hw.2 ⟨_, hag1, hw.1⟩ (Nat.le_of_ble_eq_true rfl) (Nat.le_of_ble_eq_true rfl) dX5_init_27 hlocks
set_option maxHeartbeats 4000000 in
set_option maxRecDepth 100000 in
theorem c_X4_init (l : Launch) (base : Nat) (D : va_G) (cA : Nat → ClassId) (ad : Nat → Nat) (ty : zTyp) (I : zIt) (L : zLt) (P : zPt) (κ ω ρ n0 : Nat) (ht : ty κ = some (4, n0)) (hfo : ty ω = none) (hfr : ty ρ = none) (hok : ω ≠ κ) (hrk : ρ ≠ κ) (hro : ρ ≠ ω) (a b w q x y : Int32) : zMv l base D cA yX4_init cX4_init 7 2 32 2 13 [.ref (ad κ), .int a, .int b, .int w, .int q, .int x, .int y] (zW base D cA ad ty I L P) (fun H => ∃ ad2, (∀ κ t, ty κ = some t → ad2 κ = ad κ) ∧ zW base D cA ad2 (zs (zs ty ω (some (5, 0))) ρ (some (8, 9))) (zu (zu (zu (zu (zu (zu (zu (zu (zu (zu (zu (zu (zs (zs I ω (fun _ => 0)) ρ (fun _ => 0)) ω 1 (-1)) ω 2 (-1)) ω 3 (-1)) κ 8 0) κ 9 0) κ 10 0) κ 0 a) κ 1 b) κ 2 w) κ 3 q) κ 4 x) κ 5 y) (zu (zs (zs L ω (fun _ => 0)) ρ (fun _ => 0)) κ 7 0) (zu (zu (zs (zs P ω (fun _ => none)) ρ (fun _ => none)) ω 0 (some ρ)) κ 6 (some ω)) H) := by
  refine z_start (by decide +kernel) (Nat.le_of_ble_eq_true rfl) fun p e s m below meth c ls M hP hS hl hr hlocks hnm => ?_
  have M : zM p s m c cX4_init RX4 7 base D cA := M
  have hw : zH base D cA s s.heap [] ad ty I L P := ⟨hP, hS⟩
  obtain ⟨hx, hb, -⟩ := id M
  have hl : lv_has ls 7 [(0, .ref (ad κ)), (1, .int a), (2, .int b), (3, .int w), (4, .int q), (5, .int x), (6, .int y)] := hl
  refine lv_aload_n hx hb dX4_init_0 rfl (lv_at hl 0 rfl) ?_
  refine W.objInit hx hb M.2.2.2.1 (M.2.2.2.2.1.use (tb 409 (by decide +kernel)) rfl) (M.2.2.2.2.1.use (tb 23 (by decide +kernel)) rfl) (M.2.2.2.2.1.use (tb 24 (by decide +kernel)) rfl) rfl (by rw [M.2.2.1]; exact hl.1) rfl dX4_init_1 (Nat.le_of_ble_eq_true rfl) (Nat.le_of_ble_eq_true rfl) ?_
  refine W.eq (g2 := F0 m 4 ls []) rfl ?_
  refine lv_aload_n hx hb dX4_init_4 rfl (lv_at hl 0 rfl) ?_
  refine z_new (ci := 5) M hw ω hfo (by decide) (tb 410 (by decide +kernel)) (tb 411 (by decide +kernel)) (tb 15 (by decide +kernel)) (Nat.le_of_ble_eq_true rfl) (Nat.le_of_ble_eq_true rfl) dX4_init_5 (fun a1 H hw => ?_)
  obtain ⟨ad1, had1⟩ : ∃ z, z = zs ad ω a1 := ⟨_, rfl⟩
  rw [← had1] at hw ⊢
  have ea2 : ad κ = ad1 κ := by rw [had1, zs_ne _ _ (by omega)]
  rw [ea2] at hl
  refine W.eq (g2 := F0 m 8 ls [.ref (ad1 ω), .ref (ad1 κ)]) (by rw [ea2]) ?_
  have hag1 : ∀ κ t, ty κ = some t → ad1 κ = ad κ := fun κ t h => (by rw [had1]; exact zs_ne _ _ (fun e => by rw [e] at h; exact absurd (h.symm.trans hfo) (by simp)))
  refine lv_dup hx hb dX4_init_8 rfl ?_
  refine z_cv (z_runI (As := []) (rest := [.ref (ad1 ω), .ref (ad1 κ)]) M hw.2 zc_X4_11 (c_X5_init l base D cA ad1 (zs ty ω (some (5, 0))) (zs I ω (fun _ => 0)) (zs L ω (fun _ => 0)) (zs P ω (fun _ => none)) ω ρ 0 (zs_self _ _ _) ((zs_ne _ _ hro).trans hfr) hro) hw.1 rfl rfl ⟨Nat.le_of_ble_eq_true rfl, Nat.le_of_ble_eq_true rfl⟩ ⟨Nat.le_of_ble_eq_true rfl, Nat.le_of_ble_eq_true rfl⟩ hl.1 (Nat.le_of_ble_eq_true rfl) dX4_init_9) hw.2 (fun H locs hw1 hS => ?_)
  obtain ⟨ad3, hagc3, hw2⟩ := hw1
  have ea4 : ad1 κ = ad3 κ := (hagc3 _ _ ((zs_ne _ _ (by omega)).trans ht)).symm
  have ea5 : ad1 ω = ad3 ω := (hagc3 _ _ (zs_self _ _ _)).symm
  rw [ea4] at hl
  have hw : zH base D cA s H locs ad3 (zs (zs ty ω (some (5, 0))) ρ (some (8, 9))) (zu (zu (zu (zs (zs I ω (fun _ => 0)) ρ (fun _ => 0)) ω 1 (-1)) ω 2 (-1)) ω 3 (-1)) (zs (zs L ω (fun _ => 0)) ρ (fun _ => 0)) (zu (zs (zs P ω (fun _ => none)) ρ (fun _ => none)) ω 0 (some ρ)) := ⟨hw2, hS⟩
  refine W.eq (g2 := F0 m _ ls [.ref (ad3 ω), .ref (ad3 κ)]) (by rw [ea5, ea4]) ?_
  have hag3 : ∀ κ t, ty κ = some t → ad3 κ = ad κ := fun κ t h => (hagc3 κ t ((zs_ne _ _ (fun e => by rw [e] at h; exact absurd (h.symm.trans hfo) (by simp))).trans h)).trans (hag1 κ t h)
  refine z_putr M hw ((zs_ne _ _ (by omega)).trans ((zs_ne _ _ (by omega)).trans ht)) zf_X4_12 (Or.inr ⟨rfl, rfl, hnm⟩) ((zs_ne _ _ (by omega)).trans (zs_self _ _ _)) (fun _ => rfl) (fun _ => rfl) dX4_init_12 (fun H locs hw => ?_)
  refine lv_aload_n hx hb dX4_init_15 rfl (lv_at hl 0 rfl) ?_
  refine lv_lconst (v := 0) hx hb dX4_init_16 (by decide) ?_
  refine z_putl M hw ((zs_ne _ _ (by omega)).trans ((zs_ne _ _ (by omega)).trans ht)) zf_X4_18 (Or.inl rfl) rfl rfl dX4_init_17 (fun H locs hw => ?_)
  refine lv_aload_n hx hb dX4_init_20 rfl (lv_at hl 0 rfl) ?_
  refine lv_iconst (v := 0) hx hb dX4_init_21 (by decide) ?_
  refine z_puti M hw ((zs_ne _ _ (by omega)).trans ((zs_ne _ _ (by omega)).trans ht)) zf_X4_22 (Or.inl rfl) rfl rfl dX4_init_22 (fun H locs hw => ?_)
  refine lv_aload_n hx hb dX4_init_25 rfl (lv_at hl 0 rfl) ?_
  refine lv_iconst (v := 0) hx hb dX4_init_26 (by decide) ?_
  refine z_puti M hw ((zs_ne _ _ (by omega)).trans ((zs_ne _ _ (by omega)).trans ht)) zf_X4_26 (Or.inl rfl) rfl rfl dX4_init_27 (fun H locs hw => ?_)
  refine lv_aload_n hx hb dX4_init_30 rfl (lv_at hl 0 rfl) ?_
  refine lv_iconst (v := 0) hx hb dX4_init_31 (by decide) ?_
  refine z_puti M hw ((zs_ne _ _ (by omega)).trans ((zs_ne _ _ (by omega)).trans ht)) zf_X4_29 (Or.inl rfl) rfl rfl dX4_init_32 (fun H locs hw => ?_)
  refine lv_aload_n hx hb dX4_init_35 rfl (lv_at hl 0 rfl) ?_
  refine lv_iload_n hx hb dX4_init_36 rfl (lv_at hl 1 rfl) ?_
  refine z_puti M hw ((zs_ne _ _ (by omega)).trans ((zs_ne _ _ (by omega)).trans ht)) zf_X4_32 (Or.inr ⟨rfl, rfl, hnm⟩) rfl rfl dX4_init_37 (fun H locs hw => ?_)
  refine lv_aload_n hx hb dX4_init_40 rfl (lv_at hl 0 rfl) ?_
  refine lv_iload_n hx hb dX4_init_41 rfl (lv_at hl 2 rfl) ?_
  refine z_puti M hw ((zs_ne _ _ (by omega)).trans ((zs_ne _ _ (by omega)).trans ht)) zf_X4_35 (Or.inr ⟨rfl, rfl, hnm⟩) rfl rfl dX4_init_42 (fun H locs hw => ?_)
  refine lv_aload_n hx hb dX4_init_45 rfl (lv_at hl 0 rfl) ?_
  refine lv_iload_n hx hb dX4_init_46 rfl (lv_at hl 3 rfl) ?_
  refine z_puti M hw ((zs_ne _ _ (by omega)).trans ((zs_ne _ _ (by omega)).trans ht)) zf_X4_38 (Or.inr ⟨rfl, rfl, hnm⟩) rfl rfl dX4_init_47 (fun H locs hw => ?_)
  refine lv_aload_n hx hb dX4_init_50 rfl (lv_at hl 0 rfl) ?_
  refine lv_iload hx hb dX4_init_51 (lv_at hl 4 rfl) ?_
  refine z_puti M hw ((zs_ne _ _ (by omega)).trans ((zs_ne _ _ (by omega)).trans ht)) zf_X4_41 (Or.inr ⟨rfl, rfl, hnm⟩) rfl rfl dX4_init_53 (fun H locs hw => ?_)
  refine lv_aload_n hx hb dX4_init_56 rfl (lv_at hl 0 rfl) ?_
  refine lv_iload hx hb dX4_init_57 (lv_at hl 5 rfl) ?_
  refine z_puti M hw ((zs_ne _ _ (by omega)).trans ((zs_ne _ _ (by omega)).trans ht)) zf_X4_44 (Or.inr ⟨rfl, rfl, hnm⟩) rfl rfl dX4_init_59 (fun H locs hw => ?_)
  refine lv_aload_n hx hb dX4_init_62 rfl (lv_at hl 0 rfl) ?_
  refine lv_iload hx hb dX4_init_63 (lv_at hl 6 rfl) ?_
  refine z_puti M hw ((zs_ne _ _ (by omega)).trans ((zs_ne _ _ (by omega)).trans ht)) zf_X4_47 (Or.inr ⟨rfl, rfl, hnm⟩) rfl rfl dX4_init_65 (fun H locs hw => ?_)
  exact z_vret hx hb hr hw.2 ⟨_, hag3, hw.1⟩ (Nat.le_of_ble_eq_true rfl) (Nat.le_of_ble_eq_true rfl) dX4_init_68 hlocks
end
